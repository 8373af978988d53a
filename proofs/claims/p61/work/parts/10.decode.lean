theorem bk_cX0_init_0 : (cX0_init.data.toList.drop 0).take 40 = [42, 183, 0, 1, 42, 3, 181, 0, 7, 42, 3, 181, 0, 13, 42, 3, 181, 0, 16, 42, 3, 181, 0, 19, 42, 3, 181, 0, 22, 42, 3, 181, 0, 25, 42, 3, 181, 0, 28, 177] := by decide +kernel
theorem dX0_init_0 : decode cX0_init 0 = .ok (.aload_n 0, 1) := dk_42 (blk_at bk_cX0_init_0 0 rfl)
theorem dX0_init_1 : decode cX0_init 1 = .ok (.invokespecial 1, 3) := dq_183 bk_cX0_init_0 1 rfl rfl
theorem dX0_init_4 : decode cX0_init 4 = .ok (.aload_n 0, 1) := dk_42 (blk_at bk_cX0_init_0 4 rfl)
theorem dX0_init_5 : decode cX0_init 5 = .ok (.iconst 0, 1) := dk_3 (blk_at bk_cX0_init_0 5 rfl)
theorem dX0_init_6 : decode cX0_init 6 = .ok (.putfield 7, 3) := dq_181 bk_cX0_init_0 6 rfl rfl
theorem dX0_init_9 : decode cX0_init 9 = .ok (.aload_n 0, 1) := dk_42 (blk_at bk_cX0_init_0 9 rfl)
theorem dX0_init_10 : decode cX0_init 10 = .ok (.iconst 0, 1) := dk_3 (blk_at bk_cX0_init_0 10 rfl)
theorem dX0_init_11 : decode cX0_init 11 = .ok (.putfield 13, 3) := dq_181 bk_cX0_init_0 11 rfl rfl
theorem dX0_init_14 : decode cX0_init 14 = .ok (.aload_n 0, 1) := dk_42 (blk_at bk_cX0_init_0 14 rfl)
theorem dX0_init_15 : decode cX0_init 15 = .ok (.iconst 0, 1) := dk_3 (blk_at bk_cX0_init_0 15 rfl)
theorem dX0_init_16 : decode cX0_init 16 = .ok (.putfield 16, 3) := dq_181 bk_cX0_init_0 16 rfl rfl
theorem dX0_init_19 : decode cX0_init 19 = .ok (.aload_n 0, 1) := dk_42 (blk_at bk_cX0_init_0 19 rfl)
theorem dX0_init_20 : decode cX0_init 20 = .ok (.iconst 0, 1) := dk_3 (blk_at bk_cX0_init_0 20 rfl)
theorem dX0_init_21 : decode cX0_init 21 = .ok (.putfield 19, 3) := dq_181 bk_cX0_init_0 21 rfl rfl
theorem dX0_init_24 : decode cX0_init 24 = .ok (.aload_n 0, 1) := dk_42 (blk_at bk_cX0_init_0 24 rfl)
theorem dX0_init_25 : decode cX0_init 25 = .ok (.iconst 0, 1) := dk_3 (blk_at bk_cX0_init_0 25 rfl)
theorem dX0_init_26 : decode cX0_init 26 = .ok (.putfield 22, 3) := dq_181 bk_cX0_init_0 26 rfl rfl
theorem dX0_init_29 : decode cX0_init 29 = .ok (.aload_n 0, 1) := dk_42 (blk_at bk_cX0_init_0 29 rfl)
theorem dX0_init_30 : decode cX0_init 30 = .ok (.iconst 0, 1) := dk_3 (blk_at bk_cX0_init_0 30 rfl)
theorem dX0_init_31 : decode cX0_init 31 = .ok (.putfield 25, 3) := dq_181 bk_cX0_init_0 31 rfl rfl
theorem dX0_init_34 : decode cX0_init 34 = .ok (.aload_n 0, 1) := dk_42 (blk_at bk_cX0_init_0 34 rfl)
theorem dX0_init_35 : decode cX0_init 35 = .ok (.iconst 0, 1) := dk_3 (blk_at bk_cX0_init_0 35 rfl)
theorem dX0_init_36 : decode cX0_init 36 = .ok (.putfield 28, 3) := dq_181 bk_cX0_init_0 36 rfl rfl
theorem dX0_init_39 : decode cX0_init 39 = .ok (.return_, 1) := dk_177 (blk_at bk_cX0_init_0 39 rfl)
theorem bk_cX0_copyFrom_0 : (cX0_copyFrom.data.toList.drop 0).take 37 = [42, 43, 180, 0, 7, 43, 180, 0, 13, 43, 180, 0, 16, 43, 180, 0, 19, 182, 0, 31, 42, 43, 180, 0, 22, 43, 180, 0, 25, 43, 180, 0, 28, 182, 0, 35, 177] := by decide +kernel
theorem dX0_copyFrom_0 : decode cX0_copyFrom 0 = .ok (.aload_n 0, 1) := dk_42 (blk_at bk_cX0_copyFrom_0 0 rfl)
theorem dX0_copyFrom_1 : decode cX0_copyFrom 1 = .ok (.aload_n 1, 1) := dk_43 (blk_at bk_cX0_copyFrom_0 1 rfl)
theorem dX0_copyFrom_2 : decode cX0_copyFrom 2 = .ok (.getfield 7, 3) := dq_180 bk_cX0_copyFrom_0 2 rfl rfl
theorem dX0_copyFrom_5 : decode cX0_copyFrom 5 = .ok (.aload_n 1, 1) := dk_43 (blk_at bk_cX0_copyFrom_0 5 rfl)
theorem dX0_copyFrom_6 : decode cX0_copyFrom 6 = .ok (.getfield 13, 3) := dq_180 bk_cX0_copyFrom_0 6 rfl rfl
theorem dX0_copyFrom_9 : decode cX0_copyFrom 9 = .ok (.aload_n 1, 1) := dk_43 (blk_at bk_cX0_copyFrom_0 9 rfl)
theorem dX0_copyFrom_10 : decode cX0_copyFrom 10 = .ok (.getfield 16, 3) := dq_180 bk_cX0_copyFrom_0 10 rfl rfl
theorem dX0_copyFrom_13 : decode cX0_copyFrom 13 = .ok (.aload_n 1, 1) := dk_43 (blk_at bk_cX0_copyFrom_0 13 rfl)
theorem dX0_copyFrom_14 : decode cX0_copyFrom 14 = .ok (.getfield 19, 3) := dq_180 bk_cX0_copyFrom_0 14 rfl rfl
theorem dX0_copyFrom_17 : decode cX0_copyFrom 17 = .ok (.invokevirtual 31, 3) := dq_182 bk_cX0_copyFrom_0 17 rfl rfl
theorem dX0_copyFrom_20 : decode cX0_copyFrom 20 = .ok (.aload_n 0, 1) := dk_42 (blk_at bk_cX0_copyFrom_0 20 rfl)
theorem dX0_copyFrom_21 : decode cX0_copyFrom 21 = .ok (.aload_n 1, 1) := dk_43 (blk_at bk_cX0_copyFrom_0 21 rfl)
theorem dX0_copyFrom_22 : decode cX0_copyFrom 22 = .ok (.getfield 22, 3) := dq_180 bk_cX0_copyFrom_0 22 rfl rfl
theorem dX0_copyFrom_25 : decode cX0_copyFrom 25 = .ok (.aload_n 1, 1) := dk_43 (blk_at bk_cX0_copyFrom_0 25 rfl)
theorem dX0_copyFrom_26 : decode cX0_copyFrom 26 = .ok (.getfield 25, 3) := dq_180 bk_cX0_copyFrom_0 26 rfl rfl
theorem dX0_copyFrom_29 : decode cX0_copyFrom 29 = .ok (.aload_n 1, 1) := dk_43 (blk_at bk_cX0_copyFrom_0 29 rfl)
theorem dX0_copyFrom_30 : decode cX0_copyFrom 30 = .ok (.getfield 28, 3) := dq_180 bk_cX0_copyFrom_0 30 rfl rfl
theorem dX0_copyFrom_33 : decode cX0_copyFrom 33 = .ok (.invokevirtual 35, 3) := dq_182 bk_cX0_copyFrom_0 33 rfl rfl
theorem dX0_copyFrom_36 : decode cX0_copyFrom 36 = .ok (.return_, 1) := dk_177 (blk_at bk_cX0_copyFrom_0 36 rfl)
theorem bk_cX0_placeAt_0 : (cX0_placeAt.data.toList.drop 0).take 22 = [42, 27, 181, 0, 7, 42, 28, 181, 0, 13, 42, 29, 181, 0, 16, 42, 21, 4, 181, 0, 19, 177] := by decide +kernel
theorem dX0_placeAt_0 : decode cX0_placeAt 0 = .ok (.aload_n 0, 1) := dk_42 (blk_at bk_cX0_placeAt_0 0 rfl)
theorem dX0_placeAt_1 : decode cX0_placeAt 1 = .ok (.iload_n 1, 1) := dk_27 (blk_at bk_cX0_placeAt_0 1 rfl)
theorem dX0_placeAt_2 : decode cX0_placeAt 2 = .ok (.putfield 7, 3) := dq_181 bk_cX0_placeAt_0 2 rfl rfl
theorem dX0_placeAt_5 : decode cX0_placeAt 5 = .ok (.aload_n 0, 1) := dk_42 (blk_at bk_cX0_placeAt_0 5 rfl)
theorem dX0_placeAt_6 : decode cX0_placeAt 6 = .ok (.iload_n 2, 1) := dk_28 (blk_at bk_cX0_placeAt_0 6 rfl)
theorem dX0_placeAt_7 : decode cX0_placeAt 7 = .ok (.putfield 13, 3) := dq_181 bk_cX0_placeAt_0 7 rfl rfl
theorem dX0_placeAt_10 : decode cX0_placeAt 10 = .ok (.aload_n 0, 1) := dk_42 (blk_at bk_cX0_placeAt_0 10 rfl)
theorem dX0_placeAt_11 : decode cX0_placeAt 11 = .ok (.iload_n 3, 1) := dk_29 (blk_at bk_cX0_placeAt_0 11 rfl)
theorem dX0_placeAt_12 : decode cX0_placeAt 12 = .ok (.putfield 16, 3) := dq_181 bk_cX0_placeAt_0 12 rfl rfl
theorem dX0_placeAt_15 : decode cX0_placeAt 15 = .ok (.aload_n 0, 1) := dk_42 (blk_at bk_cX0_placeAt_0 15 rfl)
theorem dX0_placeAt_16 : decode cX0_placeAt 16 = .ok (.iload 4, 2) := dq_21 bk_cX0_placeAt_0 16 rfl rfl
theorem dX0_placeAt_18 : decode cX0_placeAt 18 = .ok (.putfield 19, 3) := dq_181 bk_cX0_placeAt_0 18 rfl rfl
theorem dX0_placeAt_21 : decode cX0_placeAt 21 = .ok (.return_, 1) := dk_177 (blk_at bk_cX0_placeAt_0 21 rfl)
theorem bk_cX0_span_0 : (cX0_span.data.toList.drop 0).take 16 = [42, 27, 181, 0, 22, 42, 28, 181, 0, 25, 42, 29, 181, 0, 28, 177] := by decide +kernel
theorem dX0_span_0 : decode cX0_span 0 = .ok (.aload_n 0, 1) := dk_42 (blk_at bk_cX0_span_0 0 rfl)
theorem dX0_span_1 : decode cX0_span 1 = .ok (.iload_n 1, 1) := dk_27 (blk_at bk_cX0_span_0 1 rfl)
theorem dX0_span_2 : decode cX0_span 2 = .ok (.putfield 22, 3) := dq_181 bk_cX0_span_0 2 rfl rfl
theorem dX0_span_5 : decode cX0_span 5 = .ok (.aload_n 0, 1) := dk_42 (blk_at bk_cX0_span_0 5 rfl)
theorem dX0_span_6 : decode cX0_span 6 = .ok (.iload_n 2, 1) := dk_28 (blk_at bk_cX0_span_0 6 rfl)
theorem dX0_span_7 : decode cX0_span 7 = .ok (.putfield 25, 3) := dq_181 bk_cX0_span_0 7 rfl rfl
theorem dX0_span_10 : decode cX0_span 10 = .ok (.aload_n 0, 1) := dk_42 (blk_at bk_cX0_span_0 10 rfl)
theorem dX0_span_11 : decode cX0_span 11 = .ok (.iload_n 3, 1) := dk_29 (blk_at bk_cX0_span_0 11 rfl)
theorem dX0_span_12 : decode cX0_span 12 = .ok (.putfield 28, 3) := dq_181 bk_cX0_span_0 12 rfl rfl
theorem dX0_span_15 : decode cX0_span 15 = .ok (.return_, 1) := dk_177 (blk_at bk_cX0_span_0 15 rfl)
theorem bk_cX0_wantedBits_0 : (cX0_wantedBits.data.toList.drop 0).take 12 = [42, 180, 0, 22, 42, 180, 0, 25, 184, 0, 39, 172] := by decide +kernel
theorem dX0_wantedBits_0 : decode cX0_wantedBits 0 = .ok (.aload_n 0, 1) := dk_42 (blk_at bk_cX0_wantedBits_0 0 rfl)
theorem dX0_wantedBits_1 : decode cX0_wantedBits 1 = .ok (.getfield 22, 3) := dq_180 bk_cX0_wantedBits_0 1 rfl rfl
theorem dX0_wantedBits_4 : decode cX0_wantedBits 4 = .ok (.aload_n 0, 1) := dk_42 (blk_at bk_cX0_wantedBits_0 4 rfl)
theorem dX0_wantedBits_5 : decode cX0_wantedBits 5 = .ok (.getfield 25, 3) := dq_180 bk_cX0_wantedBits_0 5 rfl rfl
theorem dX0_wantedBits_8 : decode cX0_wantedBits 8 = .ok (.invokestatic 39, 3) := dq_184 bk_cX0_wantedBits_0 8 rfl rfl
theorem dX0_wantedBits_11 : decode cX0_wantedBits 11 = .ok (.ireturn, 1) := dk_172 (blk_at bk_cX0_wantedBits_0 11 rfl)
theorem dX1_init_12 : decode cX1_init 12 = .ok (.newarray .int, 2) := by decide +kernel
theorem bk_cX1_init_0 : (cX1_init.data.toList.drop 0).take 18 = [42, 183, 0, 3, 42, 3, 181, 0, 9, 42, 16, 48, 188, 10, 181, 0, 15, 177] := by decide +kernel
theorem dX1_init_0 : decode cX1_init 0 = .ok (.aload_n 0, 1) := dk_42 (blk_at bk_cX1_init_0 0 rfl)
theorem dX1_init_1 : decode cX1_init 1 = .ok (.invokespecial 3, 3) := dq_183 bk_cX1_init_0 1 rfl rfl
theorem dX1_init_4 : decode cX1_init 4 = .ok (.aload_n 0, 1) := dk_42 (blk_at bk_cX1_init_0 4 rfl)
theorem dX1_init_5 : decode cX1_init 5 = .ok (.iconst 0, 1) := dk_3 (blk_at bk_cX1_init_0 5 rfl)
theorem dX1_init_6 : decode cX1_init 6 = .ok (.putfield 9, 3) := dq_181 bk_cX1_init_0 6 rfl rfl
theorem dX1_init_9 : decode cX1_init 9 = .ok (.aload_n 0, 1) := dk_42 (blk_at bk_cX1_init_0 9 rfl)
theorem dX1_init_10 : decode cX1_init 10 = .ok (.bipush 48, 2) := dq_16 bk_cX1_init_0 10 rfl (by decide)
theorem dX1_init_14 : decode cX1_init 14 = .ok (.putfield 15, 3) := dq_181 bk_cX1_init_0 14 rfl rfl
theorem dX1_init_17 : decode cX1_init 17 = .ok (.return_, 1) := dk_177 (blk_at bk_cX1_init_0 17 rfl)
theorem bk_cX1_copyFrom_0 : (cX1_copyFrom.data.toList.drop 0).take 38 = [42, 43, 180, 0, 9, 181, 0, 9, 3, 61, 28, 42, 180, 0, 15, 190, 162, 0, 21, 42, 180, 0, 15, 28, 43, 180, 0, 15, 28, 46, 79, 132, 2, 1, 167, 255, 232, 177] := by decide +kernel
theorem dX1_copyFrom_0 : decode cX1_copyFrom 0 = .ok (.aload_n 0, 1) := dk_42 (blk_at bk_cX1_copyFrom_0 0 rfl)
theorem dX1_copyFrom_1 : decode cX1_copyFrom 1 = .ok (.aload_n 1, 1) := dk_43 (blk_at bk_cX1_copyFrom_0 1 rfl)
theorem dX1_copyFrom_2 : decode cX1_copyFrom 2 = .ok (.getfield 9, 3) := dq_180 bk_cX1_copyFrom_0 2 rfl rfl
theorem dX1_copyFrom_5 : decode cX1_copyFrom 5 = .ok (.putfield 9, 3) := dq_181 bk_cX1_copyFrom_0 5 rfl rfl
theorem dX1_copyFrom_8 : decode cX1_copyFrom 8 = .ok (.iconst 0, 1) := dk_3 (blk_at bk_cX1_copyFrom_0 8 rfl)
theorem dX1_copyFrom_9 : decode cX1_copyFrom 9 = .ok (.istore_n 2, 1) := dk_61 (blk_at bk_cX1_copyFrom_0 9 rfl)
theorem dX1_copyFrom_10 : decode cX1_copyFrom 10 = .ok (.iload_n 2, 1) := dk_28 (blk_at bk_cX1_copyFrom_0 10 rfl)
theorem dX1_copyFrom_11 : decode cX1_copyFrom 11 = .ok (.aload_n 0, 1) := dk_42 (blk_at bk_cX1_copyFrom_0 11 rfl)
theorem dX1_copyFrom_12 : decode cX1_copyFrom 12 = .ok (.getfield 15, 3) := dq_180 bk_cX1_copyFrom_0 12 rfl rfl
theorem dX1_copyFrom_15 : decode cX1_copyFrom 15 = .ok (.arraylength, 1) := dk_190 (blk_at bk_cX1_copyFrom_0 15 rfl)
theorem dX1_copyFrom_16 : decode cX1_copyFrom 16 = .ok (.if_icmp .ge 21, 3) := dq_162 bk_cX1_copyFrom_0 16 rfl (by decide)
theorem dX1_copyFrom_19 : decode cX1_copyFrom 19 = .ok (.aload_n 0, 1) := dk_42 (blk_at bk_cX1_copyFrom_0 19 rfl)
theorem dX1_copyFrom_20 : decode cX1_copyFrom 20 = .ok (.getfield 15, 3) := dq_180 bk_cX1_copyFrom_0 20 rfl rfl
theorem dX1_copyFrom_23 : decode cX1_copyFrom 23 = .ok (.iload_n 2, 1) := dk_28 (blk_at bk_cX1_copyFrom_0 23 rfl)
theorem dX1_copyFrom_24 : decode cX1_copyFrom 24 = .ok (.aload_n 1, 1) := dk_43 (blk_at bk_cX1_copyFrom_0 24 rfl)
theorem dX1_copyFrom_25 : decode cX1_copyFrom 25 = .ok (.getfield 15, 3) := dq_180 bk_cX1_copyFrom_0 25 rfl rfl
theorem dX1_copyFrom_28 : decode cX1_copyFrom 28 = .ok (.iload_n 2, 1) := dk_28 (blk_at bk_cX1_copyFrom_0 28 rfl)
theorem dX1_copyFrom_29 : decode cX1_copyFrom 29 = .ok (.iaload, 1) := dk_46 (blk_at bk_cX1_copyFrom_0 29 rfl)
theorem dX1_copyFrom_30 : decode cX1_copyFrom 30 = .ok (.iastore, 1) := dk_79 (blk_at bk_cX1_copyFrom_0 30 rfl)
theorem dX1_copyFrom_31 : decode cX1_copyFrom 31 = .ok (.iinc 2 1, 3) := dq_132 bk_cX1_copyFrom_0 31 rfl rfl (by decide)
theorem dX1_copyFrom_34 : decode cX1_copyFrom 34 = .ok (.goto (-24), 3) := dq_167 bk_cX1_copyFrom_0 34 rfl (by decide)
theorem dX1_copyFrom_37 : decode cX1_copyFrom 37 = .ok (.return_, 1) := dk_177 (blk_at bk_cX1_copyFrom_0 37 rfl)
theorem bk_cX1_letterOf_0 : (cX1_letterOf.data.toList.drop 0).take 12 = [42, 180, 0, 15, 27, 16, 6, 104, 28, 96, 46, 172] := by decide +kernel
theorem dX1_letterOf_0 : decode cX1_letterOf 0 = .ok (.aload_n 0, 1) := dk_42 (blk_at bk_cX1_letterOf_0 0 rfl)
theorem dX1_letterOf_1 : decode cX1_letterOf 1 = .ok (.getfield 15, 3) := dq_180 bk_cX1_letterOf_0 1 rfl rfl
theorem dX1_letterOf_4 : decode cX1_letterOf 4 = .ok (.iload_n 1, 1) := dk_27 (blk_at bk_cX1_letterOf_0 4 rfl)
theorem dX1_letterOf_5 : decode cX1_letterOf 5 = .ok (.bipush 6, 2) := dq_16 bk_cX1_letterOf_0 5 rfl (by decide)
theorem dX1_letterOf_7 : decode cX1_letterOf 7 = .ok (.imul, 1) := dk_104 (blk_at bk_cX1_letterOf_0 7 rfl)
theorem dX1_letterOf_8 : decode cX1_letterOf 8 = .ok (.iload_n 2, 1) := dk_28 (blk_at bk_cX1_letterOf_0 8 rfl)
theorem dX1_letterOf_9 : decode cX1_letterOf 9 = .ok (.iadd, 1) := dk_96 (blk_at bk_cX1_letterOf_0 9 rfl)
theorem dX1_letterOf_10 : decode cX1_letterOf 10 = .ok (.iaload, 1) := dk_46 (blk_at bk_cX1_letterOf_0 10 rfl)
theorem dX1_letterOf_11 : decode cX1_letterOf 11 = .ok (.ireturn, 1) := dk_172 (blk_at bk_cX1_letterOf_0 11 rfl)
theorem bk_cX1_carrierNamed_0 : (cX1_carrierNamed.data.toList.drop 0).take 35 = [3, 54, 4, 21, 4, 42, 180, 0, 9, 162, 0, 24, 42, 21, 4, 43, 28, 29, 182, 0, 19, 153, 0, 6, 21, 4, 172, 132, 4, 1, 167, 255, 229, 2, 172] := by decide +kernel
theorem dX1_carrierNamed_0 : decode cX1_carrierNamed 0 = .ok (.iconst 0, 1) := dk_3 (blk_at bk_cX1_carrierNamed_0 0 rfl)
theorem dX1_carrierNamed_1 : decode cX1_carrierNamed 1 = .ok (.istore 4, 2) := dq_54 bk_cX1_carrierNamed_0 1 rfl rfl
theorem dX1_carrierNamed_3 : decode cX1_carrierNamed 3 = .ok (.iload 4, 2) := dq_21 bk_cX1_carrierNamed_0 3 rfl rfl
theorem dX1_carrierNamed_5 : decode cX1_carrierNamed 5 = .ok (.aload_n 0, 1) := dk_42 (blk_at bk_cX1_carrierNamed_0 5 rfl)
theorem dX1_carrierNamed_6 : decode cX1_carrierNamed 6 = .ok (.getfield 9, 3) := dq_180 bk_cX1_carrierNamed_0 6 rfl rfl
theorem dX1_carrierNamed_9 : decode cX1_carrierNamed 9 = .ok (.if_icmp .ge 24, 3) := dq_162 bk_cX1_carrierNamed_0 9 rfl (by decide)
theorem dX1_carrierNamed_12 : decode cX1_carrierNamed 12 = .ok (.aload_n 0, 1) := dk_42 (blk_at bk_cX1_carrierNamed_0 12 rfl)
theorem dX1_carrierNamed_13 : decode cX1_carrierNamed 13 = .ok (.iload 4, 2) := dq_21 bk_cX1_carrierNamed_0 13 rfl rfl
theorem dX1_carrierNamed_15 : decode cX1_carrierNamed 15 = .ok (.aload_n 1, 1) := dk_43 (blk_at bk_cX1_carrierNamed_0 15 rfl)
theorem dX1_carrierNamed_16 : decode cX1_carrierNamed 16 = .ok (.iload_n 2, 1) := dk_28 (blk_at bk_cX1_carrierNamed_0 16 rfl)
theorem dX1_carrierNamed_17 : decode cX1_carrierNamed 17 = .ok (.iload_n 3, 1) := dk_29 (blk_at bk_cX1_carrierNamed_0 17 rfl)
theorem dX1_carrierNamed_18 : decode cX1_carrierNamed 18 = .ok (.invokevirtual 19, 3) := dq_182 bk_cX1_carrierNamed_0 18 rfl rfl
theorem dX1_carrierNamed_21 : decode cX1_carrierNamed 21 = .ok (.ifCond .eq 6, 3) := dq_153 bk_cX1_carrierNamed_0 21 rfl (by decide)
theorem dX1_carrierNamed_24 : decode cX1_carrierNamed 24 = .ok (.iload 4, 2) := dq_21 bk_cX1_carrierNamed_0 24 rfl rfl
theorem dX1_carrierNamed_26 : decode cX1_carrierNamed 26 = .ok (.ireturn, 1) := dk_172 (blk_at bk_cX1_carrierNamed_0 26 rfl)
theorem dX1_carrierNamed_27 : decode cX1_carrierNamed 27 = .ok (.iinc 4 1, 3) := dq_132 bk_cX1_carrierNamed_0 27 rfl rfl (by decide)
theorem dX1_carrierNamed_30 : decode cX1_carrierNamed 30 = .ok (.goto (-27), 3) := dq_167 bk_cX1_carrierNamed_0 30 rfl (by decide)
theorem dX1_carrierNamed_33 : decode cX1_carrierNamed 33 = .ok (.iconst (-1), 1) := dk_2 (blk_at bk_cX1_carrierNamed_0 33 rfl)
theorem dX1_carrierNamed_34 : decode cX1_carrierNamed 34 = .ok (.ireturn, 1) := dk_172 (blk_at bk_cX1_carrierNamed_0 34 rfl)
theorem bk_cX1_isNamed_0 : (cX1_isNamed.data.toList.drop 0).take 40 = [3, 54, 5, 21, 5, 16, 6, 162, 0, 54, 29, 21, 5, 96, 21, 4, 162, 0, 17, 44, 29, 21, 5, 96, 51, 16, 97, 100, 4, 96, 167, 0, 4, 3, 54, 6, 42, 180, 0, 15] := by decide +kernel
theorem dX1_isNamed_0 : decode cX1_isNamed 0 = .ok (.iconst 0, 1) := dk_3 (blk_at bk_cX1_isNamed_0 0 rfl)
theorem dX1_isNamed_1 : decode cX1_isNamed 1 = .ok (.istore 5, 2) := dq_54 bk_cX1_isNamed_0 1 rfl rfl
theorem dX1_isNamed_3 : decode cX1_isNamed 3 = .ok (.iload 5, 2) := dq_21 bk_cX1_isNamed_0 3 rfl rfl
theorem dX1_isNamed_5 : decode cX1_isNamed 5 = .ok (.bipush 6, 2) := dq_16 bk_cX1_isNamed_0 5 rfl (by decide)
theorem dX1_isNamed_7 : decode cX1_isNamed 7 = .ok (.if_icmp .ge 54, 3) := dq_162 bk_cX1_isNamed_0 7 rfl (by decide)
theorem dX1_isNamed_10 : decode cX1_isNamed 10 = .ok (.iload_n 3, 1) := dk_29 (blk_at bk_cX1_isNamed_0 10 rfl)
theorem dX1_isNamed_11 : decode cX1_isNamed 11 = .ok (.iload 5, 2) := dq_21 bk_cX1_isNamed_0 11 rfl rfl
theorem dX1_isNamed_13 : decode cX1_isNamed 13 = .ok (.iadd, 1) := dk_96 (blk_at bk_cX1_isNamed_0 13 rfl)
theorem dX1_isNamed_14 : decode cX1_isNamed 14 = .ok (.iload 4, 2) := dq_21 bk_cX1_isNamed_0 14 rfl rfl
theorem dX1_isNamed_16 : decode cX1_isNamed 16 = .ok (.if_icmp .ge 17, 3) := dq_162 bk_cX1_isNamed_0 16 rfl (by decide)
theorem dX1_isNamed_19 : decode cX1_isNamed 19 = .ok (.aload_n 2, 1) := dk_44 (blk_at bk_cX1_isNamed_0 19 rfl)
theorem dX1_isNamed_20 : decode cX1_isNamed 20 = .ok (.iload_n 3, 1) := dk_29 (blk_at bk_cX1_isNamed_0 20 rfl)
theorem dX1_isNamed_21 : decode cX1_isNamed 21 = .ok (.iload 5, 2) := dq_21 bk_cX1_isNamed_0 21 rfl rfl
theorem dX1_isNamed_23 : decode cX1_isNamed 23 = .ok (.iadd, 1) := dk_96 (blk_at bk_cX1_isNamed_0 23 rfl)
theorem dX1_isNamed_24 : decode cX1_isNamed 24 = .ok (.baload, 1) := dk_51 (blk_at bk_cX1_isNamed_0 24 rfl)
theorem dX1_isNamed_25 : decode cX1_isNamed 25 = .ok (.bipush 97, 2) := dq_16 bk_cX1_isNamed_0 25 rfl (by decide)
theorem dX1_isNamed_27 : decode cX1_isNamed 27 = .ok (.isub, 1) := dk_100 (blk_at bk_cX1_isNamed_0 27 rfl)
theorem dX1_isNamed_28 : decode cX1_isNamed 28 = .ok (.iconst 1, 1) := dk_4 (blk_at bk_cX1_isNamed_0 28 rfl)
theorem dX1_isNamed_29 : decode cX1_isNamed 29 = .ok (.iadd, 1) := dk_96 (blk_at bk_cX1_isNamed_0 29 rfl)
theorem dX1_isNamed_30 : decode cX1_isNamed 30 = .ok (.goto 4, 3) := dq_167 bk_cX1_isNamed_0 30 rfl (by decide)
theorem dX1_isNamed_33 : decode cX1_isNamed 33 = .ok (.iconst 0, 1) := dk_3 (blk_at bk_cX1_isNamed_0 33 rfl)
theorem dX1_isNamed_34 : decode cX1_isNamed 34 = .ok (.istore 6, 2) := dq_54 bk_cX1_isNamed_0 34 rfl rfl
theorem dX1_isNamed_36 : decode cX1_isNamed 36 = .ok (.aload_n 0, 1) := dk_42 (blk_at bk_cX1_isNamed_0 36 rfl)
theorem dX1_isNamed_37 : decode cX1_isNamed 37 = .ok (.getfield 15, 3) := dq_180 bk_cX1_isNamed_0 37 rfl rfl
theorem bk_cX1_isNamed_40 : (cX1_isNamed.data.toList.drop 40).take 23 = [27, 16, 6, 104, 21, 5, 96, 46, 21, 6, 159, 0, 5, 3, 172, 132, 5, 1, 167, 255, 201, 4, 172] := by decide +kernel
theorem dX1_isNamed_40 : decode cX1_isNamed 40 = .ok (.iload_n 1, 1) := dk_27 (blk_at bk_cX1_isNamed_40 0 rfl)
theorem dX1_isNamed_41 : decode cX1_isNamed 41 = .ok (.bipush 6, 2) := dq_16 bk_cX1_isNamed_40 1 rfl (by decide)
theorem dX1_isNamed_43 : decode cX1_isNamed 43 = .ok (.imul, 1) := dk_104 (blk_at bk_cX1_isNamed_40 3 rfl)
theorem dX1_isNamed_44 : decode cX1_isNamed 44 = .ok (.iload 5, 2) := dq_21 bk_cX1_isNamed_40 4 rfl rfl
theorem dX1_isNamed_46 : decode cX1_isNamed 46 = .ok (.iadd, 1) := dk_96 (blk_at bk_cX1_isNamed_40 6 rfl)
theorem dX1_isNamed_47 : decode cX1_isNamed 47 = .ok (.iaload, 1) := dk_46 (blk_at bk_cX1_isNamed_40 7 rfl)
theorem dX1_isNamed_48 : decode cX1_isNamed 48 = .ok (.iload 6, 2) := dq_21 bk_cX1_isNamed_40 8 rfl rfl
theorem dX1_isNamed_50 : decode cX1_isNamed 50 = .ok (.if_icmp .eq 5, 3) := dq_159 bk_cX1_isNamed_40 10 rfl (by decide)
theorem dX1_isNamed_53 : decode cX1_isNamed 53 = .ok (.iconst 0, 1) := dk_3 (blk_at bk_cX1_isNamed_40 13 rfl)
theorem dX1_isNamed_54 : decode cX1_isNamed 54 = .ok (.ireturn, 1) := dk_172 (blk_at bk_cX1_isNamed_40 14 rfl)
theorem dX1_isNamed_55 : decode cX1_isNamed 55 = .ok (.iinc 5 1, 3) := dq_132 bk_cX1_isNamed_40 15 rfl rfl (by decide)
theorem dX1_isNamed_58 : decode cX1_isNamed 58 = .ok (.goto (-55), 3) := dq_167 bk_cX1_isNamed_40 18 rfl (by decide)
theorem dX1_isNamed_61 : decode cX1_isNamed 61 = .ok (.iconst 1, 1) := dk_4 (blk_at bk_cX1_isNamed_40 21 rfl)
theorem dX1_isNamed_62 : decode cX1_isNamed 62 = .ok (.ireturn, 1) := dk_172 (blk_at bk_cX1_isNamed_40 22 rfl)
theorem bk_cX1_add_0 : (cX1_add.data.toList.drop 0).take 40 = [42, 180, 0, 9, 16, 7, 184, 0, 23, 54, 4, 3, 54, 5, 21, 5, 16, 6, 162, 0, 49, 28, 21, 5, 96, 29, 162, 0, 17, 43, 28, 21, 5, 96, 51, 16, 97, 100, 4, 96] := by decide +kernel
theorem dX1_add_0 : decode cX1_add 0 = .ok (.aload_n 0, 1) := dk_42 (blk_at bk_cX1_add_0 0 rfl)
theorem dX1_add_1 : decode cX1_add 1 = .ok (.getfield 9, 3) := dq_180 bk_cX1_add_0 1 rfl rfl
theorem dX1_add_4 : decode cX1_add 4 = .ok (.bipush 7, 2) := dq_16 bk_cX1_add_0 4 rfl (by decide)
theorem dX1_add_6 : decode cX1_add 6 = .ok (.invokestatic 23, 3) := dq_184 bk_cX1_add_0 6 rfl rfl
theorem dX1_add_9 : decode cX1_add 9 = .ok (.istore 4, 2) := dq_54 bk_cX1_add_0 9 rfl rfl
theorem dX1_add_11 : decode cX1_add 11 = .ok (.iconst 0, 1) := dk_3 (blk_at bk_cX1_add_0 11 rfl)
theorem dX1_add_12 : decode cX1_add 12 = .ok (.istore 5, 2) := dq_54 bk_cX1_add_0 12 rfl rfl
theorem dX1_add_14 : decode cX1_add 14 = .ok (.iload 5, 2) := dq_21 bk_cX1_add_0 14 rfl rfl
theorem dX1_add_16 : decode cX1_add 16 = .ok (.bipush 6, 2) := dq_16 bk_cX1_add_0 16 rfl (by decide)
theorem dX1_add_18 : decode cX1_add 18 = .ok (.if_icmp .ge 49, 3) := dq_162 bk_cX1_add_0 18 rfl (by decide)
theorem dX1_add_21 : decode cX1_add 21 = .ok (.iload_n 2, 1) := dk_28 (blk_at bk_cX1_add_0 21 rfl)
theorem dX1_add_22 : decode cX1_add 22 = .ok (.iload 5, 2) := dq_21 bk_cX1_add_0 22 rfl rfl
theorem dX1_add_24 : decode cX1_add 24 = .ok (.iadd, 1) := dk_96 (blk_at bk_cX1_add_0 24 rfl)
theorem dX1_add_25 : decode cX1_add 25 = .ok (.iload_n 3, 1) := dk_29 (blk_at bk_cX1_add_0 25 rfl)
theorem dX1_add_26 : decode cX1_add 26 = .ok (.if_icmp .ge 17, 3) := dq_162 bk_cX1_add_0 26 rfl (by decide)
theorem dX1_add_29 : decode cX1_add 29 = .ok (.aload_n 1, 1) := dk_43 (blk_at bk_cX1_add_0 29 rfl)
theorem dX1_add_30 : decode cX1_add 30 = .ok (.iload_n 2, 1) := dk_28 (blk_at bk_cX1_add_0 30 rfl)
theorem dX1_add_31 : decode cX1_add 31 = .ok (.iload 5, 2) := dq_21 bk_cX1_add_0 31 rfl rfl
theorem dX1_add_33 : decode cX1_add 33 = .ok (.iadd, 1) := dk_96 (blk_at bk_cX1_add_0 33 rfl)
theorem dX1_add_34 : decode cX1_add 34 = .ok (.baload, 1) := dk_51 (blk_at bk_cX1_add_0 34 rfl)
theorem dX1_add_35 : decode cX1_add 35 = .ok (.bipush 97, 2) := dq_16 bk_cX1_add_0 35 rfl (by decide)
theorem dX1_add_37 : decode cX1_add 37 = .ok (.isub, 1) := dk_100 (blk_at bk_cX1_add_0 37 rfl)
theorem dX1_add_38 : decode cX1_add 38 = .ok (.iconst 1, 1) := dk_4 (blk_at bk_cX1_add_0 38 rfl)
theorem dX1_add_39 : decode cX1_add 39 = .ok (.iadd, 1) := dk_96 (blk_at bk_cX1_add_0 39 rfl)
theorem bk_cX1_add_40 : (cX1_add.data.toList.drop 40).take 36 = [167, 0, 4, 3, 54, 6, 42, 180, 0, 15, 21, 4, 16, 6, 104, 21, 5, 96, 21, 6, 79, 132, 5, 1, 167, 255, 206, 42, 21, 4, 4, 96, 181, 0, 9, 177] := by decide +kernel
theorem dX1_add_40 : decode cX1_add 40 = .ok (.goto 4, 3) := dq_167 bk_cX1_add_40 0 rfl (by decide)
theorem dX1_add_43 : decode cX1_add 43 = .ok (.iconst 0, 1) := dk_3 (blk_at bk_cX1_add_40 3 rfl)
theorem dX1_add_44 : decode cX1_add 44 = .ok (.istore 6, 2) := dq_54 bk_cX1_add_40 4 rfl rfl
theorem dX1_add_46 : decode cX1_add 46 = .ok (.aload_n 0, 1) := dk_42 (blk_at bk_cX1_add_40 6 rfl)
theorem dX1_add_47 : decode cX1_add 47 = .ok (.getfield 15, 3) := dq_180 bk_cX1_add_40 7 rfl rfl
theorem dX1_add_50 : decode cX1_add 50 = .ok (.iload 4, 2) := dq_21 bk_cX1_add_40 10 rfl rfl
theorem dX1_add_52 : decode cX1_add 52 = .ok (.bipush 6, 2) := dq_16 bk_cX1_add_40 12 rfl (by decide)
theorem dX1_add_54 : decode cX1_add 54 = .ok (.imul, 1) := dk_104 (blk_at bk_cX1_add_40 14 rfl)
theorem dX1_add_55 : decode cX1_add 55 = .ok (.iload 5, 2) := dq_21 bk_cX1_add_40 15 rfl rfl
theorem dX1_add_57 : decode cX1_add 57 = .ok (.iadd, 1) := dk_96 (blk_at bk_cX1_add_40 17 rfl)
theorem dX1_add_58 : decode cX1_add 58 = .ok (.iload 6, 2) := dq_21 bk_cX1_add_40 18 rfl rfl
theorem dX1_add_60 : decode cX1_add 60 = .ok (.iastore, 1) := dk_79 (blk_at bk_cX1_add_40 20 rfl)
theorem dX1_add_61 : decode cX1_add 61 = .ok (.iinc 5 1, 3) := dq_132 bk_cX1_add_40 21 rfl rfl (by decide)
theorem dX1_add_64 : decode cX1_add 64 = .ok (.goto (-50), 3) := dq_167 bk_cX1_add_40 24 rfl (by decide)
theorem dX1_add_67 : decode cX1_add 67 = .ok (.aload_n 0, 1) := dk_42 (blk_at bk_cX1_add_40 27 rfl)
theorem dX1_add_68 : decode cX1_add 68 = .ok (.iload 4, 2) := dq_21 bk_cX1_add_40 28 rfl rfl
theorem dX1_add_70 : decode cX1_add 70 = .ok (.iconst 1, 1) := dk_4 (blk_at bk_cX1_add_40 30 rfl)
theorem dX1_add_71 : decode cX1_add 71 = .ok (.iadd, 1) := dk_96 (blk_at bk_cX1_add_40 31 rfl)
theorem dX1_add_72 : decode cX1_add 72 = .ok (.putfield 9, 3) := dq_181 bk_cX1_add_40 32 rfl rfl
theorem dX1_add_75 : decode cX1_add 75 = .ok (.return_, 1) := dk_177 (blk_at bk_cX1_add_40 35 rfl)
theorem dX2_init_18 : decode cX2_init 18 = .ok (.newarray .int, 2) := by decide +kernel
theorem dX2_init_26 : decode cX2_init 26 = .ok (.newarray .int, 2) := by decide +kernel
theorem dX2_init_34 : decode cX2_init 34 = .ok (.newarray .int, 2) := by decide +kernel
theorem bk_cX2_init_0 : (cX2_init.data.toList.drop 0).take 40 = [42, 183, 0, 3, 42, 187, 0, 9, 89, 183, 0, 11, 181, 0, 12, 42, 16, 56, 188, 10, 181, 0, 18, 42, 16, 24, 188, 10, 181, 0, 22, 42, 16, 24, 188, 10, 181, 0, 25, 42] := by decide +kernel
theorem dX2_init_0 : decode cX2_init 0 = .ok (.aload_n 0, 1) := dk_42 (blk_at bk_cX2_init_0 0 rfl)
theorem dX2_init_1 : decode cX2_init 1 = .ok (.invokespecial 3, 3) := dq_183 bk_cX2_init_0 1 rfl rfl
theorem dX2_init_4 : decode cX2_init 4 = .ok (.aload_n 0, 1) := dk_42 (blk_at bk_cX2_init_0 4 rfl)
theorem dX2_init_5 : decode cX2_init 5 = .ok (.new 9, 3) := dq_187 bk_cX2_init_0 5 rfl rfl
theorem dX2_init_8 : decode cX2_init 8 = .ok (.dup, 1) := dk_89 (blk_at bk_cX2_init_0 8 rfl)
theorem dX2_init_9 : decode cX2_init 9 = .ok (.invokespecial 11, 3) := dq_183 bk_cX2_init_0 9 rfl rfl
theorem dX2_init_12 : decode cX2_init 12 = .ok (.putfield 12, 3) := dq_181 bk_cX2_init_0 12 rfl rfl
theorem dX2_init_15 : decode cX2_init 15 = .ok (.aload_n 0, 1) := dk_42 (blk_at bk_cX2_init_0 15 rfl)
theorem dX2_init_16 : decode cX2_init 16 = .ok (.bipush 56, 2) := dq_16 bk_cX2_init_0 16 rfl (by decide)
theorem dX2_init_20 : decode cX2_init 20 = .ok (.putfield 18, 3) := dq_181 bk_cX2_init_0 20 rfl rfl
theorem dX2_init_23 : decode cX2_init 23 = .ok (.aload_n 0, 1) := dk_42 (blk_at bk_cX2_init_0 23 rfl)
theorem dX2_init_24 : decode cX2_init 24 = .ok (.bipush 24, 2) := dq_16 bk_cX2_init_0 24 rfl (by decide)
theorem dX2_init_28 : decode cX2_init 28 = .ok (.putfield 22, 3) := dq_181 bk_cX2_init_0 28 rfl rfl
theorem dX2_init_31 : decode cX2_init 31 = .ok (.aload_n 0, 1) := dk_42 (blk_at bk_cX2_init_0 31 rfl)
theorem dX2_init_32 : decode cX2_init 32 = .ok (.bipush 24, 2) := dq_16 bk_cX2_init_0 32 rfl (by decide)
theorem dX2_init_36 : decode cX2_init 36 = .ok (.putfield 25, 3) := dq_181 bk_cX2_init_0 36 rfl rfl
theorem dX2_init_39 : decode cX2_init 39 = .ok (.aload_n 0, 1) := dk_42 (blk_at bk_cX2_init_0 39 rfl)
theorem bk_cX2_init_40 : (cX2_init.data.toList.drop 40).take 5 = [3, 181, 0, 28, 177] := by decide +kernel
theorem dX2_init_40 : decode cX2_init 40 = .ok (.iconst 0, 1) := dk_3 (blk_at bk_cX2_init_40 0 rfl)
theorem dX2_init_41 : decode cX2_init 41 = .ok (.putfield 28, 3) := dq_181 bk_cX2_init_40 1 rfl rfl
theorem dX2_init_44 : decode cX2_init 44 = .ok (.return_, 1) := dk_177 (blk_at bk_cX2_init_40 4 rfl)
theorem bk_cX2_firstOf_0 : (cX2_firstOf.data.toList.drop 0).take 22 = [42, 180, 0, 12, 43, 182, 0, 32, 42, 182, 0, 36, 42, 42, 182, 0, 39, 4, 182, 0, 43, 172] := by decide +kernel
theorem dX2_firstOf_0 : decode cX2_firstOf 0 = .ok (.aload_n 0, 1) := dk_42 (blk_at bk_cX2_firstOf_0 0 rfl)
theorem dX2_firstOf_1 : decode cX2_firstOf 1 = .ok (.getfield 12, 3) := dq_180 bk_cX2_firstOf_0 1 rfl rfl
theorem dX2_firstOf_4 : decode cX2_firstOf 4 = .ok (.aload_n 1, 1) := dk_43 (blk_at bk_cX2_firstOf_0 4 rfl)
theorem dX2_firstOf_5 : decode cX2_firstOf 5 = .ok (.invokevirtual 32, 3) := dq_182 bk_cX2_firstOf_0 5 rfl rfl
theorem dX2_firstOf_8 : decode cX2_firstOf 8 = .ok (.aload_n 0, 1) := dk_42 (blk_at bk_cX2_firstOf_0 8 rfl)
theorem dX2_firstOf_9 : decode cX2_firstOf 9 = .ok (.invokevirtual 36, 3) := dq_182 bk_cX2_firstOf_0 9 rfl rfl
theorem dX2_firstOf_12 : decode cX2_firstOf 12 = .ok (.aload_n 0, 1) := dk_42 (blk_at bk_cX2_firstOf_0 12 rfl)
theorem dX2_firstOf_13 : decode cX2_firstOf 13 = .ok (.aload_n 0, 1) := dk_42 (blk_at bk_cX2_firstOf_0 13 rfl)
theorem dX2_firstOf_14 : decode cX2_firstOf 14 = .ok (.invokevirtual 39, 3) := dq_182 bk_cX2_firstOf_0 14 rfl rfl
theorem dX2_firstOf_17 : decode cX2_firstOf 17 = .ok (.iconst 1, 1) := dk_4 (blk_at bk_cX2_firstOf_0 17 rfl)
theorem dX2_firstOf_18 : decode cX2_firstOf 18 = .ok (.invokevirtual 43, 3) := dq_182 bk_cX2_firstOf_0 18 rfl rfl
theorem dX2_firstOf_21 : decode cX2_firstOf 21 = .ok (.ireturn, 1) := dk_172 (blk_at bk_cX2_firstOf_0 21 rfl)
theorem bk_cX2_serve_0 : (cX2_serve.data.toList.drop 0).take 40 = [42, 180, 0, 12, 43, 182, 0, 32, 28, 155, 0, 35, 28, 16, 24, 162, 0, 29, 42, 180, 0, 12, 180, 0, 47, 28, 92, 46, 4, 96, 79, 42, 180, 0, 12, 180, 0, 50, 28, 92] := by decide +kernel
theorem dX2_serve_0 : decode cX2_serve 0 = .ok (.aload_n 0, 1) := dk_42 (blk_at bk_cX2_serve_0 0 rfl)
theorem dX2_serve_1 : decode cX2_serve 1 = .ok (.getfield 12, 3) := dq_180 bk_cX2_serve_0 1 rfl rfl
theorem dX2_serve_4 : decode cX2_serve 4 = .ok (.aload_n 1, 1) := dk_43 (blk_at bk_cX2_serve_0 4 rfl)
theorem dX2_serve_5 : decode cX2_serve 5 = .ok (.invokevirtual 32, 3) := dq_182 bk_cX2_serve_0 5 rfl rfl
theorem dX2_serve_8 : decode cX2_serve 8 = .ok (.iload_n 2, 1) := dk_28 (blk_at bk_cX2_serve_0 8 rfl)
theorem dX2_serve_9 : decode cX2_serve 9 = .ok (.ifCond .lt 35, 3) := dq_155 bk_cX2_serve_0 9 rfl (by decide)
theorem dX2_serve_12 : decode cX2_serve 12 = .ok (.iload_n 2, 1) := dk_28 (blk_at bk_cX2_serve_0 12 rfl)
theorem dX2_serve_13 : decode cX2_serve 13 = .ok (.bipush 24, 2) := dq_16 bk_cX2_serve_0 13 rfl (by decide)
theorem dX2_serve_15 : decode cX2_serve 15 = .ok (.if_icmp .ge 29, 3) := dq_162 bk_cX2_serve_0 15 rfl (by decide)
theorem dX2_serve_18 : decode cX2_serve 18 = .ok (.aload_n 0, 1) := dk_42 (blk_at bk_cX2_serve_0 18 rfl)
theorem dX2_serve_19 : decode cX2_serve 19 = .ok (.getfield 12, 3) := dq_180 bk_cX2_serve_0 19 rfl rfl
theorem dX2_serve_22 : decode cX2_serve 22 = .ok (.getfield 47, 3) := dq_180 bk_cX2_serve_0 22 rfl rfl
theorem dX2_serve_25 : decode cX2_serve 25 = .ok (.iload_n 2, 1) := dk_28 (blk_at bk_cX2_serve_0 25 rfl)
theorem dX2_serve_26 : decode cX2_serve 26 = .ok (.dup2, 1) := dk_92 (blk_at bk_cX2_serve_0 26 rfl)
theorem dX2_serve_27 : decode cX2_serve 27 = .ok (.iaload, 1) := dk_46 (blk_at bk_cX2_serve_0 27 rfl)
theorem dX2_serve_28 : decode cX2_serve 28 = .ok (.iconst 1, 1) := dk_4 (blk_at bk_cX2_serve_0 28 rfl)
theorem dX2_serve_29 : decode cX2_serve 29 = .ok (.iadd, 1) := dk_96 (blk_at bk_cX2_serve_0 29 rfl)
theorem dX2_serve_30 : decode cX2_serve 30 = .ok (.iastore, 1) := dk_79 (blk_at bk_cX2_serve_0 30 rfl)
theorem dX2_serve_31 : decode cX2_serve 31 = .ok (.aload_n 0, 1) := dk_42 (blk_at bk_cX2_serve_0 31 rfl)
theorem dX2_serve_32 : decode cX2_serve 32 = .ok (.getfield 12, 3) := dq_180 bk_cX2_serve_0 32 rfl rfl
theorem dX2_serve_35 : decode cX2_serve 35 = .ok (.getfield 50, 3) := dq_180 bk_cX2_serve_0 35 rfl rfl
theorem dX2_serve_38 : decode cX2_serve 38 = .ok (.iload_n 2, 1) := dk_28 (blk_at bk_cX2_serve_0 38 rfl)
theorem dX2_serve_39 : decode cX2_serve 39 = .ok (.dup2, 1) := dk_92 (blk_at bk_cX2_serve_0 39 rfl)
theorem bk_cX2_serve_40 : (cX2_serve.data.toList.drop 40).take 39 = [46, 4, 96, 79, 42, 182, 0, 36, 42, 3, 181, 0, 28, 42, 182, 0, 39, 62, 3, 54, 4, 21, 4, 42, 180, 0, 12, 180, 0, 53, 162, 0, 69, 42, 29, 21, 4, 5, 112] := by decide +kernel
theorem dX2_serve_40 : decode cX2_serve 40 = .ok (.iaload, 1) := dk_46 (blk_at bk_cX2_serve_40 0 rfl)
theorem dX2_serve_41 : decode cX2_serve 41 = .ok (.iconst 1, 1) := dk_4 (blk_at bk_cX2_serve_40 1 rfl)
theorem dX2_serve_42 : decode cX2_serve 42 = .ok (.iadd, 1) := dk_96 (blk_at bk_cX2_serve_40 2 rfl)
theorem dX2_serve_43 : decode cX2_serve 43 = .ok (.iastore, 1) := dk_79 (blk_at bk_cX2_serve_40 3 rfl)
theorem dX2_serve_44 : decode cX2_serve 44 = .ok (.aload_n 0, 1) := dk_42 (blk_at bk_cX2_serve_40 4 rfl)
theorem dX2_serve_45 : decode cX2_serve 45 = .ok (.invokevirtual 36, 3) := dq_182 bk_cX2_serve_40 5 rfl rfl
theorem dX2_serve_48 : decode cX2_serve 48 = .ok (.aload_n 0, 1) := dk_42 (blk_at bk_cX2_serve_40 8 rfl)
theorem dX2_serve_49 : decode cX2_serve 49 = .ok (.iconst 0, 1) := dk_3 (blk_at bk_cX2_serve_40 9 rfl)
theorem dX2_serve_50 : decode cX2_serve 50 = .ok (.putfield 28, 3) := dq_181 bk_cX2_serve_40 10 rfl rfl
theorem dX2_serve_53 : decode cX2_serve 53 = .ok (.aload_n 0, 1) := dk_42 (blk_at bk_cX2_serve_40 13 rfl)
theorem dX2_serve_54 : decode cX2_serve 54 = .ok (.invokevirtual 39, 3) := dq_182 bk_cX2_serve_40 14 rfl rfl
theorem dX2_serve_57 : decode cX2_serve 57 = .ok (.istore_n 3, 1) := dk_62 (blk_at bk_cX2_serve_40 17 rfl)
theorem dX2_serve_58 : decode cX2_serve 58 = .ok (.iconst 0, 1) := dk_3 (blk_at bk_cX2_serve_40 18 rfl)
theorem dX2_serve_59 : decode cX2_serve 59 = .ok (.istore 4, 2) := dq_54 bk_cX2_serve_40 19 rfl rfl
theorem dX2_serve_61 : decode cX2_serve 61 = .ok (.iload 4, 2) := dq_21 bk_cX2_serve_40 21 rfl rfl
theorem dX2_serve_63 : decode cX2_serve 63 = .ok (.aload_n 0, 1) := dk_42 (blk_at bk_cX2_serve_40 23 rfl)
theorem dX2_serve_64 : decode cX2_serve 64 = .ok (.getfield 12, 3) := dq_180 bk_cX2_serve_40 24 rfl rfl
theorem dX2_serve_67 : decode cX2_serve 67 = .ok (.getfield 53, 3) := dq_180 bk_cX2_serve_40 27 rfl rfl
theorem dX2_serve_70 : decode cX2_serve 70 = .ok (.if_icmp .ge 69, 3) := dq_162 bk_cX2_serve_40 30 rfl (by decide)
theorem dX2_serve_73 : decode cX2_serve 73 = .ok (.aload_n 0, 1) := dk_42 (blk_at bk_cX2_serve_40 33 rfl)
theorem dX2_serve_74 : decode cX2_serve 74 = .ok (.iload_n 3, 1) := dk_29 (blk_at bk_cX2_serve_40 34 rfl)
theorem dX2_serve_75 : decode cX2_serve 75 = .ok (.iload 4, 2) := dq_21 bk_cX2_serve_40 35 rfl rfl
theorem dX2_serve_77 : decode cX2_serve 77 = .ok (.iconst 2, 1) := dk_5 (blk_at bk_cX2_serve_40 37 rfl)
theorem dX2_serve_78 : decode cX2_serve 78 = .ok (.irem, 1) := dk_112 (blk_at bk_cX2_serve_40 38 rfl)
theorem bk_cX2_serve_79 : (cX2_serve.data.toList.drop 79).take 40 = [154, 0, 7, 4, 167, 0, 4, 3, 182, 0, 43, 54, 5, 21, 5, 155, 0, 39, 21, 5, 42, 180, 0, 12, 180, 0, 53, 162, 0, 27, 29, 4, 21, 5, 120, 2, 130, 126, 62, 42] := by decide +kernel
theorem dX2_serve_79 : decode cX2_serve 79 = .ok (.ifCond .ne 7, 3) := dq_154 bk_cX2_serve_79 0 rfl (by decide)
theorem dX2_serve_82 : decode cX2_serve 82 = .ok (.iconst 1, 1) := dk_4 (blk_at bk_cX2_serve_79 3 rfl)
theorem dX2_serve_83 : decode cX2_serve 83 = .ok (.goto 4, 3) := dq_167 bk_cX2_serve_79 4 rfl (by decide)
theorem dX2_serve_86 : decode cX2_serve 86 = .ok (.iconst 0, 1) := dk_3 (blk_at bk_cX2_serve_79 7 rfl)
theorem dX2_serve_87 : decode cX2_serve 87 = .ok (.invokevirtual 43, 3) := dq_182 bk_cX2_serve_79 8 rfl rfl
theorem dX2_serve_90 : decode cX2_serve 90 = .ok (.istore 5, 2) := dq_54 bk_cX2_serve_79 11 rfl rfl
theorem dX2_serve_92 : decode cX2_serve 92 = .ok (.iload 5, 2) := dq_21 bk_cX2_serve_79 13 rfl rfl
theorem dX2_serve_94 : decode cX2_serve 94 = .ok (.ifCond .lt 39, 3) := dq_155 bk_cX2_serve_79 15 rfl (by decide)
theorem dX2_serve_97 : decode cX2_serve 97 = .ok (.iload 5, 2) := dq_21 bk_cX2_serve_79 18 rfl rfl
theorem dX2_serve_99 : decode cX2_serve 99 = .ok (.aload_n 0, 1) := dk_42 (blk_at bk_cX2_serve_79 20 rfl)
theorem dX2_serve_100 : decode cX2_serve 100 = .ok (.getfield 12, 3) := dq_180 bk_cX2_serve_79 21 rfl rfl
theorem dX2_serve_103 : decode cX2_serve 103 = .ok (.getfield 53, 3) := dq_180 bk_cX2_serve_79 24 rfl rfl
theorem dX2_serve_106 : decode cX2_serve 106 = .ok (.if_icmp .ge 27, 3) := dq_162 bk_cX2_serve_79 27 rfl (by decide)
theorem dX2_serve_109 : decode cX2_serve 109 = .ok (.iload_n 3, 1) := dk_29 (blk_at bk_cX2_serve_79 30 rfl)
theorem dX2_serve_110 : decode cX2_serve 110 = .ok (.iconst 1, 1) := dk_4 (blk_at bk_cX2_serve_79 31 rfl)
theorem dX2_serve_111 : decode cX2_serve 111 = .ok (.iload 5, 2) := dq_21 bk_cX2_serve_79 32 rfl rfl
theorem dX2_serve_113 : decode cX2_serve 113 = .ok (.ishl, 1) := dk_120 (blk_at bk_cX2_serve_79 34 rfl)
theorem dX2_serve_114 : decode cX2_serve 114 = .ok (.iconst (-1), 1) := dk_2 (blk_at bk_cX2_serve_79 35 rfl)
theorem dX2_serve_115 : decode cX2_serve 115 = .ok (.ixor, 1) := dk_130 (blk_at bk_cX2_serve_79 36 rfl)
theorem dX2_serve_116 : decode cX2_serve 116 = .ok (.iand, 1) := dk_126 (blk_at bk_cX2_serve_79 37 rfl)
theorem dX2_serve_117 : decode cX2_serve 117 = .ok (.istore_n 3, 1) := dk_62 (blk_at bk_cX2_serve_79 38 rfl)
theorem dX2_serve_118 : decode cX2_serve 118 = .ok (.aload_n 0, 1) := dk_42 (blk_at bk_cX2_serve_79 39 rfl)
theorem bk_cX2_serve_119 : (cX2_serve.data.toList.drop 119).take 21 = [180, 0, 22, 21, 5, 21, 4, 79, 42, 21, 5, 182, 0, 56, 132, 4, 1, 167, 255, 181, 177] := by decide +kernel
theorem dX2_serve_119 : decode cX2_serve 119 = .ok (.getfield 22, 3) := dq_180 bk_cX2_serve_119 0 rfl rfl
theorem dX2_serve_122 : decode cX2_serve 122 = .ok (.iload 5, 2) := dq_21 bk_cX2_serve_119 3 rfl rfl
theorem dX2_serve_124 : decode cX2_serve 124 = .ok (.iload 4, 2) := dq_21 bk_cX2_serve_119 5 rfl rfl
theorem dX2_serve_126 : decode cX2_serve 126 = .ok (.iastore, 1) := dk_79 (blk_at bk_cX2_serve_119 7 rfl)
theorem dX2_serve_127 : decode cX2_serve 127 = .ok (.aload_n 0, 1) := dk_42 (blk_at bk_cX2_serve_119 8 rfl)
theorem dX2_serve_128 : decode cX2_serve 128 = .ok (.iload 5, 2) := dq_21 bk_cX2_serve_119 9 rfl rfl
theorem dX2_serve_130 : decode cX2_serve 130 = .ok (.invokevirtual 56, 3) := dq_182 bk_cX2_serve_119 11 rfl rfl
theorem dX2_serve_133 : decode cX2_serve 133 = .ok (.iinc 4 1, 3) := dq_132 bk_cX2_serve_119 14 rfl rfl (by decide)
theorem dX2_serve_136 : decode cX2_serve 136 = .ok (.goto (-75), 3) := dq_167 bk_cX2_serve_119 17 rfl (by decide)
theorem dX2_serve_139 : decode cX2_serve 139 = .ok (.return_, 1) := dk_177 (blk_at bk_cX2_serve_119 20 rfl)
theorem bk_cX2_carryOver_0 : (cX2_carryOver.data.toList.drop 0).take 40 = [43, 42, 180, 0, 12, 182, 0, 32, 42, 180, 0, 12, 180, 0, 53, 4, 100, 61, 28, 155, 0, 24, 42, 180, 0, 25, 28, 46, 2, 159, 0, 8, 43, 28, 182, 0, 60, 132, 2, 255] := by decide +kernel
theorem dX2_carryOver_0 : decode cX2_carryOver 0 = .ok (.aload_n 1, 1) := dk_43 (blk_at bk_cX2_carryOver_0 0 rfl)
theorem dX2_carryOver_1 : decode cX2_carryOver 1 = .ok (.aload_n 0, 1) := dk_42 (blk_at bk_cX2_carryOver_0 1 rfl)
theorem dX2_carryOver_2 : decode cX2_carryOver 2 = .ok (.getfield 12, 3) := dq_180 bk_cX2_carryOver_0 2 rfl rfl
theorem dX2_carryOver_5 : decode cX2_carryOver 5 = .ok (.invokevirtual 32, 3) := dq_182 bk_cX2_carryOver_0 5 rfl rfl
theorem dX2_carryOver_8 : decode cX2_carryOver 8 = .ok (.aload_n 0, 1) := dk_42 (blk_at bk_cX2_carryOver_0 8 rfl)
theorem dX2_carryOver_9 : decode cX2_carryOver 9 = .ok (.getfield 12, 3) := dq_180 bk_cX2_carryOver_0 9 rfl rfl
theorem dX2_carryOver_12 : decode cX2_carryOver 12 = .ok (.getfield 53, 3) := dq_180 bk_cX2_carryOver_0 12 rfl rfl
theorem dX2_carryOver_15 : decode cX2_carryOver 15 = .ok (.iconst 1, 1) := dk_4 (blk_at bk_cX2_carryOver_0 15 rfl)
theorem dX2_carryOver_16 : decode cX2_carryOver 16 = .ok (.isub, 1) := dk_100 (blk_at bk_cX2_carryOver_0 16 rfl)
theorem dX2_carryOver_17 : decode cX2_carryOver 17 = .ok (.istore_n 2, 1) := dk_61 (blk_at bk_cX2_carryOver_0 17 rfl)
theorem dX2_carryOver_18 : decode cX2_carryOver 18 = .ok (.iload_n 2, 1) := dk_28 (blk_at bk_cX2_carryOver_0 18 rfl)
theorem dX2_carryOver_19 : decode cX2_carryOver 19 = .ok (.ifCond .lt 24, 3) := dq_155 bk_cX2_carryOver_0 19 rfl (by decide)
theorem dX2_carryOver_22 : decode cX2_carryOver 22 = .ok (.aload_n 0, 1) := dk_42 (blk_at bk_cX2_carryOver_0 22 rfl)
theorem dX2_carryOver_23 : decode cX2_carryOver 23 = .ok (.getfield 25, 3) := dq_180 bk_cX2_carryOver_0 23 rfl rfl
theorem dX2_carryOver_26 : decode cX2_carryOver 26 = .ok (.iload_n 2, 1) := dk_28 (blk_at bk_cX2_carryOver_0 26 rfl)
theorem dX2_carryOver_27 : decode cX2_carryOver 27 = .ok (.iaload, 1) := dk_46 (blk_at bk_cX2_carryOver_0 27 rfl)
theorem dX2_carryOver_28 : decode cX2_carryOver 28 = .ok (.iconst (-1), 1) := dk_2 (blk_at bk_cX2_carryOver_0 28 rfl)
theorem dX2_carryOver_29 : decode cX2_carryOver 29 = .ok (.if_icmp .eq 8, 3) := dq_159 bk_cX2_carryOver_0 29 rfl (by decide)
theorem dX2_carryOver_32 : decode cX2_carryOver 32 = .ok (.aload_n 1, 1) := dk_43 (blk_at bk_cX2_carryOver_0 32 rfl)
theorem dX2_carryOver_33 : decode cX2_carryOver 33 = .ok (.iload_n 2, 1) := dk_28 (blk_at bk_cX2_carryOver_0 33 rfl)
theorem dX2_carryOver_34 : decode cX2_carryOver 34 = .ok (.invokevirtual 60, 3) := dq_182 bk_cX2_carryOver_0 34 rfl rfl
theorem dX2_carryOver_37 : decode cX2_carryOver 37 = .ok (.iinc 2 (-1), 3) := dq_132 bk_cX2_carryOver_0 37 rfl rfl (by decide)
theorem bk_cX2_carryOver_40 : (cX2_carryOver.data.toList.drop 40).take 4 = [167, 255, 234, 177] := by decide +kernel
theorem dX2_carryOver_40 : decode cX2_carryOver 40 = .ok (.goto (-22), 3) := dq_167 bk_cX2_carryOver_40 0 rfl (by decide)
theorem dX2_carryOver_43 : decode cX2_carryOver 43 = .ok (.return_, 1) := dk_177 (blk_at bk_cX2_carryOver_40 3 rfl)
theorem bk_cX2_allAsks_0 : (cX2_allAsks.data.toList.drop 0).take 12 = [4, 42, 180, 0, 12, 180, 0, 53, 120, 4, 100, 172] := by decide +kernel
theorem dX2_allAsks_0 : decode cX2_allAsks 0 = .ok (.iconst 1, 1) := dk_4 (blk_at bk_cX2_allAsks_0 0 rfl)
theorem dX2_allAsks_1 : decode cX2_allAsks 1 = .ok (.aload_n 0, 1) := dk_42 (blk_at bk_cX2_allAsks_0 1 rfl)
theorem dX2_allAsks_2 : decode cX2_allAsks 2 = .ok (.getfield 12, 3) := dq_180 bk_cX2_allAsks_0 2 rfl rfl
theorem dX2_allAsks_5 : decode cX2_allAsks 5 = .ok (.getfield 53, 3) := dq_180 bk_cX2_allAsks_0 5 rfl rfl
theorem dX2_allAsks_8 : decode cX2_allAsks 8 = .ok (.ishl, 1) := dk_120 (blk_at bk_cX2_allAsks_0 8 rfl)
theorem dX2_allAsks_9 : decode cX2_allAsks 9 = .ok (.iconst 1, 1) := dk_4 (blk_at bk_cX2_allAsks_0 9 rfl)
theorem dX2_allAsks_10 : decode cX2_allAsks 10 = .ok (.isub, 1) := dk_100 (blk_at bk_cX2_allAsks_0 10 rfl)
theorem dX2_allAsks_11 : decode cX2_allAsks 11 = .ok (.ireturn, 1) := dk_172 (blk_at bk_cX2_allAsks_0 11 rfl)
theorem bk_cX2_countSlots_0 : (cX2_countSlots.data.toList.drop 0).take 38 = [3, 60, 27, 42, 180, 0, 18, 190, 162, 0, 16, 42, 180, 0, 18, 27, 3, 79, 132, 1, 1, 167, 255, 237, 3, 60, 27, 42, 180, 0, 12, 180, 0, 63, 162, 0, 46, 42] := by decide +kernel
theorem dX2_countSlots_0 : decode cX2_countSlots 0 = .ok (.iconst 0, 1) := dk_3 (blk_at bk_cX2_countSlots_0 0 rfl)
theorem dX2_countSlots_1 : decode cX2_countSlots 1 = .ok (.istore_n 1, 1) := dk_60 (blk_at bk_cX2_countSlots_0 1 rfl)
theorem dX2_countSlots_2 : decode cX2_countSlots 2 = .ok (.iload_n 1, 1) := dk_27 (blk_at bk_cX2_countSlots_0 2 rfl)
theorem dX2_countSlots_3 : decode cX2_countSlots 3 = .ok (.aload_n 0, 1) := dk_42 (blk_at bk_cX2_countSlots_0 3 rfl)
theorem dX2_countSlots_4 : decode cX2_countSlots 4 = .ok (.getfield 18, 3) := dq_180 bk_cX2_countSlots_0 4 rfl rfl
theorem dX2_countSlots_7 : decode cX2_countSlots 7 = .ok (.arraylength, 1) := dk_190 (blk_at bk_cX2_countSlots_0 7 rfl)
theorem dX2_countSlots_8 : decode cX2_countSlots 8 = .ok (.if_icmp .ge 16, 3) := dq_162 bk_cX2_countSlots_0 8 rfl (by decide)
theorem dX2_countSlots_11 : decode cX2_countSlots 11 = .ok (.aload_n 0, 1) := dk_42 (blk_at bk_cX2_countSlots_0 11 rfl)
theorem dX2_countSlots_12 : decode cX2_countSlots 12 = .ok (.getfield 18, 3) := dq_180 bk_cX2_countSlots_0 12 rfl rfl
theorem dX2_countSlots_15 : decode cX2_countSlots 15 = .ok (.iload_n 1, 1) := dk_27 (blk_at bk_cX2_countSlots_0 15 rfl)
theorem dX2_countSlots_16 : decode cX2_countSlots 16 = .ok (.iconst 0, 1) := dk_3 (blk_at bk_cX2_countSlots_0 16 rfl)
theorem dX2_countSlots_17 : decode cX2_countSlots 17 = .ok (.iastore, 1) := dk_79 (blk_at bk_cX2_countSlots_0 17 rfl)
theorem dX2_countSlots_18 : decode cX2_countSlots 18 = .ok (.iinc 1 1, 3) := dq_132 bk_cX2_countSlots_0 18 rfl rfl (by decide)
theorem dX2_countSlots_21 : decode cX2_countSlots 21 = .ok (.goto (-19), 3) := dq_167 bk_cX2_countSlots_0 21 rfl (by decide)
theorem dX2_countSlots_24 : decode cX2_countSlots 24 = .ok (.iconst 0, 1) := dk_3 (blk_at bk_cX2_countSlots_0 24 rfl)
theorem dX2_countSlots_25 : decode cX2_countSlots 25 = .ok (.istore_n 1, 1) := dk_60 (blk_at bk_cX2_countSlots_0 25 rfl)
theorem dX2_countSlots_26 : decode cX2_countSlots 26 = .ok (.iload_n 1, 1) := dk_27 (blk_at bk_cX2_countSlots_0 26 rfl)
theorem dX2_countSlots_27 : decode cX2_countSlots 27 = .ok (.aload_n 0, 1) := dk_42 (blk_at bk_cX2_countSlots_0 27 rfl)
theorem dX2_countSlots_28 : decode cX2_countSlots 28 = .ok (.getfield 12, 3) := dq_180 bk_cX2_countSlots_0 28 rfl rfl
theorem dX2_countSlots_31 : decode cX2_countSlots 31 = .ok (.getfield 63, 3) := dq_180 bk_cX2_countSlots_0 31 rfl rfl
theorem dX2_countSlots_34 : decode cX2_countSlots 34 = .ok (.if_icmp .ge 46, 3) := dq_162 bk_cX2_countSlots_0 34 rfl (by decide)
theorem dX2_countSlots_37 : decode cX2_countSlots 37 = .ok (.aload_n 0, 1) := dk_42 (blk_at bk_cX2_countSlots_0 37 rfl)
theorem bk_cX2_countSlots_38 : (cX2_countSlots.data.toList.drop 38).take 39 = [180, 0, 18, 42, 180, 0, 12, 180, 0, 66, 27, 50, 180, 0, 70, 16, 7, 104, 42, 180, 0, 12, 180, 0, 66, 27, 50, 180, 0, 75, 96, 92, 46, 4, 96, 79, 132, 1, 1] := by decide +kernel
theorem dX2_countSlots_38 : decode cX2_countSlots 38 = .ok (.getfield 18, 3) := dq_180 bk_cX2_countSlots_38 0 rfl rfl
theorem dX2_countSlots_41 : decode cX2_countSlots 41 = .ok (.aload_n 0, 1) := dk_42 (blk_at bk_cX2_countSlots_38 3 rfl)
theorem dX2_countSlots_42 : decode cX2_countSlots 42 = .ok (.getfield 12, 3) := dq_180 bk_cX2_countSlots_38 4 rfl rfl
theorem dX2_countSlots_45 : decode cX2_countSlots 45 = .ok (.getfield 66, 3) := dq_180 bk_cX2_countSlots_38 7 rfl rfl
theorem dX2_countSlots_48 : decode cX2_countSlots 48 = .ok (.iload_n 1, 1) := dk_27 (blk_at bk_cX2_countSlots_38 10 rfl)
theorem dX2_countSlots_49 : decode cX2_countSlots 49 = .ok (.aaload, 1) := dk_50 (blk_at bk_cX2_countSlots_38 11 rfl)
theorem dX2_countSlots_50 : decode cX2_countSlots 50 = .ok (.getfield 70, 3) := dq_180 bk_cX2_countSlots_38 12 rfl rfl
theorem dX2_countSlots_53 : decode cX2_countSlots 53 = .ok (.bipush 7, 2) := dq_16 bk_cX2_countSlots_38 15 rfl (by decide)
theorem dX2_countSlots_55 : decode cX2_countSlots 55 = .ok (.imul, 1) := dk_104 (blk_at bk_cX2_countSlots_38 17 rfl)
theorem dX2_countSlots_56 : decode cX2_countSlots 56 = .ok (.aload_n 0, 1) := dk_42 (blk_at bk_cX2_countSlots_38 18 rfl)
theorem dX2_countSlots_57 : decode cX2_countSlots 57 = .ok (.getfield 12, 3) := dq_180 bk_cX2_countSlots_38 19 rfl rfl
theorem dX2_countSlots_60 : decode cX2_countSlots 60 = .ok (.getfield 66, 3) := dq_180 bk_cX2_countSlots_38 22 rfl rfl
theorem dX2_countSlots_63 : decode cX2_countSlots 63 = .ok (.iload_n 1, 1) := dk_27 (blk_at bk_cX2_countSlots_38 25 rfl)
theorem dX2_countSlots_64 : decode cX2_countSlots 64 = .ok (.aaload, 1) := dk_50 (blk_at bk_cX2_countSlots_38 26 rfl)
theorem dX2_countSlots_65 : decode cX2_countSlots 65 = .ok (.getfield 75, 3) := dq_180 bk_cX2_countSlots_38 27 rfl rfl
theorem dX2_countSlots_68 : decode cX2_countSlots 68 = .ok (.iadd, 1) := dk_96 (blk_at bk_cX2_countSlots_38 30 rfl)
theorem dX2_countSlots_69 : decode cX2_countSlots 69 = .ok (.dup2, 1) := dk_92 (blk_at bk_cX2_countSlots_38 31 rfl)
theorem dX2_countSlots_70 : decode cX2_countSlots 70 = .ok (.iaload, 1) := dk_46 (blk_at bk_cX2_countSlots_38 32 rfl)
theorem dX2_countSlots_71 : decode cX2_countSlots 71 = .ok (.iconst 1, 1) := dk_4 (blk_at bk_cX2_countSlots_38 33 rfl)
theorem dX2_countSlots_72 : decode cX2_countSlots 72 = .ok (.iadd, 1) := dk_96 (blk_at bk_cX2_countSlots_38 34 rfl)
theorem dX2_countSlots_73 : decode cX2_countSlots 73 = .ok (.iastore, 1) := dk_79 (blk_at bk_cX2_countSlots_38 35 rfl)
theorem dX2_countSlots_74 : decode cX2_countSlots 74 = .ok (.iinc 1 1, 3) := dq_132 bk_cX2_countSlots_38 36 rfl rfl (by decide)
theorem bk_cX2_countSlots_77 : (cX2_countSlots.data.toList.drop 77).take 4 = [167, 255, 205, 177] := by decide +kernel
theorem dX2_countSlots_77 : decode cX2_countSlots 77 = .ok (.goto (-51), 3) := dq_167 bk_cX2_countSlots_77 0 rfl (by decide)
theorem dX2_countSlots_80 : decode cX2_countSlots 80 = .ok (.return_, 1) := dk_177 (blk_at bk_cX2_countSlots_77 3 rfl)
theorem bk_cX2_isEntrants_0 : (cX2_isEntrants.data.toList.drop 0).take 27 = [42, 180, 0, 18, 43, 180, 0, 78, 16, 7, 104, 43, 180, 0, 81, 96, 46, 5, 162, 0, 7, 4, 167, 0, 4, 3, 172] := by decide +kernel
theorem dX2_isEntrants_0 : decode cX2_isEntrants 0 = .ok (.aload_n 0, 1) := dk_42 (blk_at bk_cX2_isEntrants_0 0 rfl)
theorem dX2_isEntrants_1 : decode cX2_isEntrants 1 = .ok (.getfield 18, 3) := dq_180 bk_cX2_isEntrants_0 1 rfl rfl
theorem dX2_isEntrants_4 : decode cX2_isEntrants 4 = .ok (.aload_n 1, 1) := dk_43 (blk_at bk_cX2_isEntrants_0 4 rfl)
theorem dX2_isEntrants_5 : decode cX2_isEntrants 5 = .ok (.getfield 78, 3) := dq_180 bk_cX2_isEntrants_0 5 rfl rfl
theorem dX2_isEntrants_8 : decode cX2_isEntrants 8 = .ok (.bipush 7, 2) := dq_16 bk_cX2_isEntrants_0 8 rfl (by decide)
theorem dX2_isEntrants_10 : decode cX2_isEntrants 10 = .ok (.imul, 1) := dk_104 (blk_at bk_cX2_isEntrants_0 10 rfl)
theorem dX2_isEntrants_11 : decode cX2_isEntrants 11 = .ok (.aload_n 1, 1) := dk_43 (blk_at bk_cX2_isEntrants_0 11 rfl)
theorem dX2_isEntrants_12 : decode cX2_isEntrants 12 = .ok (.getfield 81, 3) := dq_180 bk_cX2_isEntrants_0 12 rfl rfl
theorem dX2_isEntrants_15 : decode cX2_isEntrants 15 = .ok (.iadd, 1) := dk_96 (blk_at bk_cX2_isEntrants_0 15 rfl)
theorem dX2_isEntrants_16 : decode cX2_isEntrants 16 = .ok (.iaload, 1) := dk_46 (blk_at bk_cX2_isEntrants_0 16 rfl)
theorem dX2_isEntrants_17 : decode cX2_isEntrants 17 = .ok (.iconst 2, 1) := dk_5 (blk_at bk_cX2_isEntrants_0 17 rfl)
theorem dX2_isEntrants_18 : decode cX2_isEntrants 18 = .ok (.if_icmp .ge 7, 3) := dq_162 bk_cX2_isEntrants_0 18 rfl (by decide)
theorem dX2_isEntrants_21 : decode cX2_isEntrants 21 = .ok (.iconst 1, 1) := dk_4 (blk_at bk_cX2_isEntrants_0 21 rfl)
theorem dX2_isEntrants_22 : decode cX2_isEntrants 22 = .ok (.goto 4, 3) := dq_167 bk_cX2_isEntrants_0 22 rfl (by decide)
theorem dX2_isEntrants_25 : decode cX2_isEntrants 25 = .ok (.iconst 0, 1) := dk_3 (blk_at bk_cX2_isEntrants_0 25 rfl)
theorem dX2_isEntrants_26 : decode cX2_isEntrants 26 = .ok (.ireturn, 1) := dk_172 (blk_at bk_cX2_isEntrants_0 26 rfl)
theorem bk_cX2_chosen_0 : (cX2_chosen.data.toList.drop 0).take 31 = [42, 27, 28, 182, 0, 82, 62, 29, 2, 159, 0, 7, 29, 167, 0, 17, 42, 27, 28, 154, 0, 7, 4, 167, 0, 4, 3, 182, 0, 82, 172] := by decide +kernel
theorem dX2_chosen_0 : decode cX2_chosen 0 = .ok (.aload_n 0, 1) := dk_42 (blk_at bk_cX2_chosen_0 0 rfl)
theorem dX2_chosen_1 : decode cX2_chosen 1 = .ok (.iload_n 1, 1) := dk_27 (blk_at bk_cX2_chosen_0 1 rfl)
theorem dX2_chosen_2 : decode cX2_chosen 2 = .ok (.iload_n 2, 1) := dk_28 (blk_at bk_cX2_chosen_0 2 rfl)
theorem dX2_chosen_3 : decode cX2_chosen 3 = .ok (.invokevirtual 82, 3) := dq_182 bk_cX2_chosen_0 3 rfl rfl
theorem dX2_chosen_6 : decode cX2_chosen 6 = .ok (.istore_n 3, 1) := dk_62 (blk_at bk_cX2_chosen_0 6 rfl)
theorem dX2_chosen_7 : decode cX2_chosen 7 = .ok (.iload_n 3, 1) := dk_29 (blk_at bk_cX2_chosen_0 7 rfl)
theorem dX2_chosen_8 : decode cX2_chosen 8 = .ok (.iconst (-1), 1) := dk_2 (blk_at bk_cX2_chosen_0 8 rfl)
theorem dX2_chosen_9 : decode cX2_chosen 9 = .ok (.if_icmp .eq 7, 3) := dq_159 bk_cX2_chosen_0 9 rfl (by decide)
theorem dX2_chosen_12 : decode cX2_chosen 12 = .ok (.iload_n 3, 1) := dk_29 (blk_at bk_cX2_chosen_0 12 rfl)
theorem dX2_chosen_13 : decode cX2_chosen 13 = .ok (.goto 17, 3) := dq_167 bk_cX2_chosen_0 13 rfl (by decide)
theorem dX2_chosen_16 : decode cX2_chosen 16 = .ok (.aload_n 0, 1) := dk_42 (blk_at bk_cX2_chosen_0 16 rfl)
theorem dX2_chosen_17 : decode cX2_chosen 17 = .ok (.iload_n 1, 1) := dk_27 (blk_at bk_cX2_chosen_0 17 rfl)
theorem dX2_chosen_18 : decode cX2_chosen 18 = .ok (.iload_n 2, 1) := dk_28 (blk_at bk_cX2_chosen_0 18 rfl)
theorem dX2_chosen_19 : decode cX2_chosen 19 = .ok (.ifCond .ne 7, 3) := dq_154 bk_cX2_chosen_0 19 rfl (by decide)
theorem dX2_chosen_22 : decode cX2_chosen 22 = .ok (.iconst 1, 1) := dk_4 (blk_at bk_cX2_chosen_0 22 rfl)
theorem dX2_chosen_23 : decode cX2_chosen 23 = .ok (.goto 4, 3) := dq_167 bk_cX2_chosen_0 23 rfl (by decide)
theorem dX2_chosen_26 : decode cX2_chosen 26 = .ok (.iconst 0, 1) := dk_3 (blk_at bk_cX2_chosen_0 26 rfl)
theorem dX2_chosen_27 : decode cX2_chosen 27 = .ok (.invokevirtual 82, 3) := dq_182 bk_cX2_chosen_0 27 rfl rfl
theorem dX2_chosen_30 : decode cX2_chosen 30 = .ok (.ireturn, 1) := dk_172 (blk_at bk_cX2_chosen_0 30 rfl)
theorem bk_cX2_longestOf_0 : (cX2_longestOf.data.toList.drop 0).take 39 = [2, 62, 3, 54, 4, 3, 54, 5, 21, 5, 42, 180, 0, 12, 180, 0, 53, 162, 0, 69, 42, 180, 0, 12, 180, 0, 85, 21, 5, 50, 58, 6, 25, 6, 180, 0, 89, 25, 6] := by decide +kernel
theorem dX2_longestOf_0 : decode cX2_longestOf 0 = .ok (.iconst (-1), 1) := dk_2 (blk_at bk_cX2_longestOf_0 0 rfl)
theorem dX2_longestOf_1 : decode cX2_longestOf 1 = .ok (.istore_n 3, 1) := dk_62 (blk_at bk_cX2_longestOf_0 1 rfl)
theorem dX2_longestOf_2 : decode cX2_longestOf 2 = .ok (.iconst 0, 1) := dk_3 (blk_at bk_cX2_longestOf_0 2 rfl)
theorem dX2_longestOf_3 : decode cX2_longestOf 3 = .ok (.istore 4, 2) := dq_54 bk_cX2_longestOf_0 3 rfl rfl
theorem dX2_longestOf_5 : decode cX2_longestOf 5 = .ok (.iconst 0, 1) := dk_3 (blk_at bk_cX2_longestOf_0 5 rfl)
theorem dX2_longestOf_6 : decode cX2_longestOf 6 = .ok (.istore 5, 2) := dq_54 bk_cX2_longestOf_0 6 rfl rfl
theorem dX2_longestOf_8 : decode cX2_longestOf 8 = .ok (.iload 5, 2) := dq_21 bk_cX2_longestOf_0 8 rfl rfl
theorem dX2_longestOf_10 : decode cX2_longestOf 10 = .ok (.aload_n 0, 1) := dk_42 (blk_at bk_cX2_longestOf_0 10 rfl)
theorem dX2_longestOf_11 : decode cX2_longestOf 11 = .ok (.getfield 12, 3) := dq_180 bk_cX2_longestOf_0 11 rfl rfl
theorem dX2_longestOf_14 : decode cX2_longestOf 14 = .ok (.getfield 53, 3) := dq_180 bk_cX2_longestOf_0 14 rfl rfl
theorem dX2_longestOf_17 : decode cX2_longestOf 17 = .ok (.if_icmp .ge 69, 3) := dq_162 bk_cX2_longestOf_0 17 rfl (by decide)
theorem dX2_longestOf_20 : decode cX2_longestOf 20 = .ok (.aload_n 0, 1) := dk_42 (blk_at bk_cX2_longestOf_0 20 rfl)
theorem dX2_longestOf_21 : decode cX2_longestOf 21 = .ok (.getfield 12, 3) := dq_180 bk_cX2_longestOf_0 21 rfl rfl
theorem dX2_longestOf_24 : decode cX2_longestOf 24 = .ok (.getfield 85, 3) := dq_180 bk_cX2_longestOf_0 24 rfl rfl
theorem dX2_longestOf_27 : decode cX2_longestOf 27 = .ok (.iload 5, 2) := dq_21 bk_cX2_longestOf_0 27 rfl rfl
theorem dX2_longestOf_29 : decode cX2_longestOf 29 = .ok (.aaload, 1) := dk_50 (blk_at bk_cX2_longestOf_0 29 rfl)
theorem dX2_longestOf_30 : decode cX2_longestOf 30 = .ok (.astore 6, 2) := dq_58 bk_cX2_longestOf_0 30 rfl rfl
theorem dX2_longestOf_32 : decode cX2_longestOf 32 = .ok (.aload 6, 2) := dq_25 bk_cX2_longestOf_0 32 rfl rfl
theorem dX2_longestOf_34 : decode cX2_longestOf 34 = .ok (.getfield 89, 3) := dq_180 bk_cX2_longestOf_0 34 rfl rfl
theorem dX2_longestOf_37 : decode cX2_longestOf 37 = .ok (.aload 6, 2) := dq_25 bk_cX2_longestOf_0 37 rfl rfl
theorem bk_cX2_longestOf_39 : (cX2_longestOf.data.toList.drop 39).take 39 = [180, 0, 92, 100, 4, 96, 54, 7, 27, 21, 5, 184, 0, 95, 153, 0, 27, 21, 7, 21, 4, 164, 0, 20, 42, 25, 6, 182, 0, 99, 28, 160, 0, 10, 21, 5, 62, 21, 7] := by decide +kernel
theorem dX2_longestOf_39 : decode cX2_longestOf 39 = .ok (.getfield 92, 3) := dq_180 bk_cX2_longestOf_39 0 rfl rfl
theorem dX2_longestOf_42 : decode cX2_longestOf 42 = .ok (.isub, 1) := dk_100 (blk_at bk_cX2_longestOf_39 3 rfl)
theorem dX2_longestOf_43 : decode cX2_longestOf 43 = .ok (.iconst 1, 1) := dk_4 (blk_at bk_cX2_longestOf_39 4 rfl)
theorem dX2_longestOf_44 : decode cX2_longestOf 44 = .ok (.iadd, 1) := dk_96 (blk_at bk_cX2_longestOf_39 5 rfl)
theorem dX2_longestOf_45 : decode cX2_longestOf 45 = .ok (.istore 7, 2) := dq_54 bk_cX2_longestOf_39 6 rfl rfl
theorem dX2_longestOf_47 : decode cX2_longestOf 47 = .ok (.iload_n 1, 1) := dk_27 (blk_at bk_cX2_longestOf_39 8 rfl)
theorem dX2_longestOf_48 : decode cX2_longestOf 48 = .ok (.iload 5, 2) := dq_21 bk_cX2_longestOf_39 9 rfl rfl
theorem dX2_longestOf_50 : decode cX2_longestOf 50 = .ok (.invokestatic 95, 3) := dq_184 bk_cX2_longestOf_39 11 rfl rfl
theorem dX2_longestOf_53 : decode cX2_longestOf 53 = .ok (.ifCond .eq 27, 3) := dq_153 bk_cX2_longestOf_39 14 rfl (by decide)
theorem dX2_longestOf_56 : decode cX2_longestOf 56 = .ok (.iload 7, 2) := dq_21 bk_cX2_longestOf_39 17 rfl rfl
theorem dX2_longestOf_58 : decode cX2_longestOf 58 = .ok (.iload 4, 2) := dq_21 bk_cX2_longestOf_39 19 rfl rfl
theorem dX2_longestOf_60 : decode cX2_longestOf 60 = .ok (.if_icmp .le 20, 3) := dq_164 bk_cX2_longestOf_39 21 rfl (by decide)
theorem dX2_longestOf_63 : decode cX2_longestOf 63 = .ok (.aload_n 0, 1) := dk_42 (blk_at bk_cX2_longestOf_39 24 rfl)
theorem dX2_longestOf_64 : decode cX2_longestOf 64 = .ok (.aload 6, 2) := dq_25 bk_cX2_longestOf_39 25 rfl rfl
theorem dX2_longestOf_66 : decode cX2_longestOf 66 = .ok (.invokevirtual 99, 3) := dq_182 bk_cX2_longestOf_39 27 rfl rfl
theorem dX2_longestOf_69 : decode cX2_longestOf 69 = .ok (.iload_n 2, 1) := dk_28 (blk_at bk_cX2_longestOf_39 30 rfl)
theorem dX2_longestOf_70 : decode cX2_longestOf 70 = .ok (.if_icmp .ne 10, 3) := dq_160 bk_cX2_longestOf_39 31 rfl (by decide)
theorem dX2_longestOf_73 : decode cX2_longestOf 73 = .ok (.iload 5, 2) := dq_21 bk_cX2_longestOf_39 34 rfl rfl
theorem dX2_longestOf_75 : decode cX2_longestOf 75 = .ok (.istore_n 3, 1) := dk_62 (blk_at bk_cX2_longestOf_39 36 rfl)
theorem dX2_longestOf_76 : decode cX2_longestOf 76 = .ok (.iload 7, 2) := dq_21 bk_cX2_longestOf_39 37 rfl rfl
theorem bk_cX2_longestOf_78 : (cX2_longestOf.data.toList.drop 78).take 10 = [54, 4, 132, 5, 1, 167, 255, 181, 29, 172] := by decide +kernel
theorem dX2_longestOf_78 : decode cX2_longestOf 78 = .ok (.istore 4, 2) := dq_54 bk_cX2_longestOf_78 0 rfl rfl
theorem dX2_longestOf_80 : decode cX2_longestOf 80 = .ok (.iinc 5 1, 3) := dq_132 bk_cX2_longestOf_78 2 rfl rfl (by decide)
theorem dX2_longestOf_83 : decode cX2_longestOf 83 = .ok (.goto (-75), 3) := dq_167 bk_cX2_longestOf_78 5 rfl (by decide)
theorem dX2_longestOf_86 : decode cX2_longestOf 86 = .ok (.iload_n 3, 1) := dk_29 (blk_at bk_cX2_longestOf_78 8 rfl)
theorem dX2_longestOf_87 : decode cX2_longestOf 87 = .ok (.ireturn, 1) := dk_172 (blk_at bk_cX2_longestOf_78 9 rfl)
theorem bk_cX2_lookAt_0 : (cX2_lookAt.data.toList.drop 0).take 40 = [42, 180, 0, 12, 180, 0, 85, 27, 50, 77, 42, 180, 0, 25, 27, 42, 180, 0, 12, 44, 182, 0, 103, 79, 42, 180, 0, 25, 27, 46, 2, 159, 0, 48, 42, 180, 0, 12, 44, 42] := by decide +kernel
theorem dX2_lookAt_0 : decode cX2_lookAt 0 = .ok (.aload_n 0, 1) := dk_42 (blk_at bk_cX2_lookAt_0 0 rfl)
theorem dX2_lookAt_1 : decode cX2_lookAt 1 = .ok (.getfield 12, 3) := dq_180 bk_cX2_lookAt_0 1 rfl rfl
theorem dX2_lookAt_4 : decode cX2_lookAt 4 = .ok (.getfield 85, 3) := dq_180 bk_cX2_lookAt_0 4 rfl rfl
theorem dX2_lookAt_7 : decode cX2_lookAt 7 = .ok (.iload_n 1, 1) := dk_27 (blk_at bk_cX2_lookAt_0 7 rfl)
theorem dX2_lookAt_8 : decode cX2_lookAt 8 = .ok (.aaload, 1) := dk_50 (blk_at bk_cX2_lookAt_0 8 rfl)
theorem dX2_lookAt_9 : decode cX2_lookAt 9 = .ok (.astore_n 2, 1) := dk_77 (blk_at bk_cX2_lookAt_0 9 rfl)
theorem dX2_lookAt_10 : decode cX2_lookAt 10 = .ok (.aload_n 0, 1) := dk_42 (blk_at bk_cX2_lookAt_0 10 rfl)
theorem dX2_lookAt_11 : decode cX2_lookAt 11 = .ok (.getfield 25, 3) := dq_180 bk_cX2_lookAt_0 11 rfl rfl
theorem dX2_lookAt_14 : decode cX2_lookAt 14 = .ok (.iload_n 1, 1) := dk_27 (blk_at bk_cX2_lookAt_0 14 rfl)
theorem dX2_lookAt_15 : decode cX2_lookAt 15 = .ok (.aload_n 0, 1) := dk_42 (blk_at bk_cX2_lookAt_0 15 rfl)
theorem dX2_lookAt_16 : decode cX2_lookAt 16 = .ok (.getfield 12, 3) := dq_180 bk_cX2_lookAt_0 16 rfl rfl
theorem dX2_lookAt_19 : decode cX2_lookAt 19 = .ok (.aload_n 2, 1) := dk_44 (blk_at bk_cX2_lookAt_0 19 rfl)
theorem dX2_lookAt_20 : decode cX2_lookAt 20 = .ok (.invokevirtual 103, 3) := dq_182 bk_cX2_lookAt_0 20 rfl rfl
theorem dX2_lookAt_23 : decode cX2_lookAt 23 = .ok (.iastore, 1) := dk_79 (blk_at bk_cX2_lookAt_0 23 rfl)
theorem dX2_lookAt_24 : decode cX2_lookAt 24 = .ok (.aload_n 0, 1) := dk_42 (blk_at bk_cX2_lookAt_0 24 rfl)
theorem dX2_lookAt_25 : decode cX2_lookAt 25 = .ok (.getfield 25, 3) := dq_180 bk_cX2_lookAt_0 25 rfl rfl
theorem dX2_lookAt_28 : decode cX2_lookAt 28 = .ok (.iload_n 1, 1) := dk_27 (blk_at bk_cX2_lookAt_0 28 rfl)
theorem dX2_lookAt_29 : decode cX2_lookAt 29 = .ok (.iaload, 1) := dk_46 (blk_at bk_cX2_lookAt_0 29 rfl)
theorem dX2_lookAt_30 : decode cX2_lookAt 30 = .ok (.iconst (-1), 1) := dk_2 (blk_at bk_cX2_lookAt_0 30 rfl)
theorem dX2_lookAt_31 : decode cX2_lookAt 31 = .ok (.if_icmp .eq 48, 3) := dq_159 bk_cX2_lookAt_0 31 rfl (by decide)
theorem dX2_lookAt_34 : decode cX2_lookAt 34 = .ok (.aload_n 0, 1) := dk_42 (blk_at bk_cX2_lookAt_0 34 rfl)
theorem dX2_lookAt_35 : decode cX2_lookAt 35 = .ok (.getfield 12, 3) := dq_180 bk_cX2_lookAt_0 35 rfl rfl
theorem dX2_lookAt_38 : decode cX2_lookAt 38 = .ok (.aload_n 2, 1) := dk_44 (blk_at bk_cX2_lookAt_0 38 rfl)
theorem dX2_lookAt_39 : decode cX2_lookAt 39 = .ok (.aload_n 0, 1) := dk_42 (blk_at bk_cX2_lookAt_0 39 rfl)
theorem bk_cX2_lookAt_40 : (cX2_lookAt.data.toList.drop 40).take 40 = [180, 0, 25, 27, 46, 182, 0, 107, 42, 180, 0, 18, 44, 180, 0, 78, 16, 7, 104, 44, 180, 0, 81, 96, 92, 46, 4, 96, 79, 42, 89, 180, 0, 28, 4, 96, 181, 0, 28, 177] := by decide +kernel
theorem dX2_lookAt_40 : decode cX2_lookAt 40 = .ok (.getfield 25, 3) := dq_180 bk_cX2_lookAt_40 0 rfl rfl
theorem dX2_lookAt_43 : decode cX2_lookAt 43 = .ok (.iload_n 1, 1) := dk_27 (blk_at bk_cX2_lookAt_40 3 rfl)
theorem dX2_lookAt_44 : decode cX2_lookAt 44 = .ok (.iaload, 1) := dk_46 (blk_at bk_cX2_lookAt_40 4 rfl)
theorem dX2_lookAt_45 : decode cX2_lookAt 45 = .ok (.invokevirtual 107, 3) := dq_182 bk_cX2_lookAt_40 5 rfl rfl
theorem dX2_lookAt_48 : decode cX2_lookAt 48 = .ok (.aload_n 0, 1) := dk_42 (blk_at bk_cX2_lookAt_40 8 rfl)
theorem dX2_lookAt_49 : decode cX2_lookAt 49 = .ok (.getfield 18, 3) := dq_180 bk_cX2_lookAt_40 9 rfl rfl
theorem dX2_lookAt_52 : decode cX2_lookAt 52 = .ok (.aload_n 2, 1) := dk_44 (blk_at bk_cX2_lookAt_40 12 rfl)
theorem dX2_lookAt_53 : decode cX2_lookAt 53 = .ok (.getfield 78, 3) := dq_180 bk_cX2_lookAt_40 13 rfl rfl
theorem dX2_lookAt_56 : decode cX2_lookAt 56 = .ok (.bipush 7, 2) := dq_16 bk_cX2_lookAt_40 16 rfl (by decide)
theorem dX2_lookAt_58 : decode cX2_lookAt 58 = .ok (.imul, 1) := dk_104 (blk_at bk_cX2_lookAt_40 18 rfl)
theorem dX2_lookAt_59 : decode cX2_lookAt 59 = .ok (.aload_n 2, 1) := dk_44 (blk_at bk_cX2_lookAt_40 19 rfl)
theorem dX2_lookAt_60 : decode cX2_lookAt 60 = .ok (.getfield 81, 3) := dq_180 bk_cX2_lookAt_40 20 rfl rfl
theorem dX2_lookAt_63 : decode cX2_lookAt 63 = .ok (.iadd, 1) := dk_96 (blk_at bk_cX2_lookAt_40 23 rfl)
theorem dX2_lookAt_64 : decode cX2_lookAt 64 = .ok (.dup2, 1) := dk_92 (blk_at bk_cX2_lookAt_40 24 rfl)
theorem dX2_lookAt_65 : decode cX2_lookAt 65 = .ok (.iaload, 1) := dk_46 (blk_at bk_cX2_lookAt_40 25 rfl)
theorem dX2_lookAt_66 : decode cX2_lookAt 66 = .ok (.iconst 1, 1) := dk_4 (blk_at bk_cX2_lookAt_40 26 rfl)
theorem dX2_lookAt_67 : decode cX2_lookAt 67 = .ok (.iadd, 1) := dk_96 (blk_at bk_cX2_lookAt_40 27 rfl)
theorem dX2_lookAt_68 : decode cX2_lookAt 68 = .ok (.iastore, 1) := dk_79 (blk_at bk_cX2_lookAt_40 28 rfl)
theorem dX2_lookAt_69 : decode cX2_lookAt 69 = .ok (.aload_n 0, 1) := dk_42 (blk_at bk_cX2_lookAt_40 29 rfl)
theorem dX2_lookAt_70 : decode cX2_lookAt 70 = .ok (.dup, 1) := dk_89 (blk_at bk_cX2_lookAt_40 30 rfl)
theorem dX2_lookAt_71 : decode cX2_lookAt 71 = .ok (.getfield 28, 3) := dq_180 bk_cX2_lookAt_40 31 rfl rfl
theorem dX2_lookAt_74 : decode cX2_lookAt 74 = .ok (.iconst 1, 1) := dk_4 (blk_at bk_cX2_lookAt_40 34 rfl)
theorem dX2_lookAt_75 : decode cX2_lookAt 75 = .ok (.iadd, 1) := dk_96 (blk_at bk_cX2_lookAt_40 35 rfl)
theorem dX2_lookAt_76 : decode cX2_lookAt 76 = .ok (.putfield 28, 3) := dq_181 bk_cX2_lookAt_40 36 rfl rfl
theorem dX2_lookAt_79 : decode cX2_lookAt 79 = .ok (.return_, 1) := dk_177 (blk_at bk_cX2_lookAt_40 39 rfl)
theorem bk_cX3_init_0 : (cX3_init.data.toList.drop 0).take 38 = [42, 183, 0, 3, 42, 187, 0, 9, 89, 183, 0, 11, 181, 0, 12, 42, 187, 0, 18, 89, 183, 0, 20, 181, 0, 21, 42, 3, 181, 0, 25, 42, 3, 181, 0, 29, 42, 2] := by decide +kernel
theorem dX3_init_0 : decode cX3_init 0 = .ok (.aload_n 0, 1) := dk_42 (blk_at bk_cX3_init_0 0 rfl)
theorem dX3_init_1 : decode cX3_init 1 = .ok (.invokespecial 3, 3) := dq_183 bk_cX3_init_0 1 rfl rfl
theorem dX3_init_4 : decode cX3_init 4 = .ok (.aload_n 0, 1) := dk_42 (blk_at bk_cX3_init_0 4 rfl)
theorem dX3_init_5 : decode cX3_init 5 = .ok (.new 9, 3) := dq_187 bk_cX3_init_0 5 rfl rfl
theorem dX3_init_8 : decode cX3_init 8 = .ok (.dup, 1) := dk_89 (blk_at bk_cX3_init_0 8 rfl)
theorem dX3_init_9 : decode cX3_init 9 = .ok (.invokespecial 11, 3) := dq_183 bk_cX3_init_0 9 rfl rfl
theorem dX3_init_12 : decode cX3_init 12 = .ok (.putfield 12, 3) := dq_181 bk_cX3_init_0 12 rfl rfl
theorem dX3_init_15 : decode cX3_init 15 = .ok (.aload_n 0, 1) := dk_42 (blk_at bk_cX3_init_0 15 rfl)
theorem dX3_init_16 : decode cX3_init 16 = .ok (.new 18, 3) := dq_187 bk_cX3_init_0 16 rfl rfl
theorem dX3_init_19 : decode cX3_init 19 = .ok (.dup, 1) := dk_89 (blk_at bk_cX3_init_0 19 rfl)
theorem dX3_init_20 : decode cX3_init 20 = .ok (.invokespecial 20, 3) := dq_183 bk_cX3_init_0 20 rfl rfl
theorem dX3_init_23 : decode cX3_init 23 = .ok (.putfield 21, 3) := dq_181 bk_cX3_init_0 23 rfl rfl
theorem dX3_init_26 : decode cX3_init 26 = .ok (.aload_n 0, 1) := dk_42 (blk_at bk_cX3_init_0 26 rfl)
theorem dX3_init_27 : decode cX3_init 27 = .ok (.iconst 0, 1) := dk_3 (blk_at bk_cX3_init_0 27 rfl)
theorem dX3_init_28 : decode cX3_init 28 = .ok (.putfield 25, 3) := dq_181 bk_cX3_init_0 28 rfl rfl
theorem dX3_init_31 : decode cX3_init 31 = .ok (.aload_n 0, 1) := dk_42 (blk_at bk_cX3_init_0 31 rfl)
theorem dX3_init_32 : decode cX3_init 32 = .ok (.iconst 0, 1) := dk_3 (blk_at bk_cX3_init_0 32 rfl)
theorem dX3_init_33 : decode cX3_init 33 = .ok (.putfield 29, 3) := dq_181 bk_cX3_init_0 33 rfl rfl
theorem dX3_init_36 : decode cX3_init 36 = .ok (.aload_n 0, 1) := dk_42 (blk_at bk_cX3_init_0 36 rfl)
theorem dX3_init_37 : decode cX3_init 37 = .ok (.iconst (-1), 1) := dk_2 (blk_at bk_cX3_init_0 37 rfl)
theorem dX3_init_43 : decode cX3_init 43 = .ok (.newarray .byte, 2) := by decide +kernel
theorem bk_cX3_init_38 : (cX3_init.data.toList.drop 38).take 40 = [181, 0, 32, 42, 3, 188, 8, 181, 0, 35, 42, 3, 181, 0, 39, 42, 3, 181, 0, 42, 42, 3, 181, 0, 45, 42, 3, 181, 0, 48, 42, 3, 181, 0, 51, 42, 3, 181, 0, 54] := by decide +kernel
theorem dX3_init_38 : decode cX3_init 38 = .ok (.putfield 32, 3) := dq_181 bk_cX3_init_38 0 rfl rfl
theorem dX3_init_41 : decode cX3_init 41 = .ok (.aload_n 0, 1) := dk_42 (blk_at bk_cX3_init_38 3 rfl)
theorem dX3_init_42 : decode cX3_init 42 = .ok (.iconst 0, 1) := dk_3 (blk_at bk_cX3_init_38 4 rfl)
theorem dX3_init_45 : decode cX3_init 45 = .ok (.putfield 35, 3) := dq_181 bk_cX3_init_38 7 rfl rfl
theorem dX3_init_48 : decode cX3_init 48 = .ok (.aload_n 0, 1) := dk_42 (blk_at bk_cX3_init_38 10 rfl)
theorem dX3_init_49 : decode cX3_init 49 = .ok (.iconst 0, 1) := dk_3 (blk_at bk_cX3_init_38 11 rfl)
theorem dX3_init_50 : decode cX3_init 50 = .ok (.putfield 39, 3) := dq_181 bk_cX3_init_38 12 rfl rfl
theorem dX3_init_53 : decode cX3_init 53 = .ok (.aload_n 0, 1) := dk_42 (blk_at bk_cX3_init_38 15 rfl)
theorem dX3_init_54 : decode cX3_init 54 = .ok (.iconst 0, 1) := dk_3 (blk_at bk_cX3_init_38 16 rfl)
theorem dX3_init_55 : decode cX3_init 55 = .ok (.putfield 42, 3) := dq_181 bk_cX3_init_38 17 rfl rfl
theorem dX3_init_58 : decode cX3_init 58 = .ok (.aload_n 0, 1) := dk_42 (blk_at bk_cX3_init_38 20 rfl)
theorem dX3_init_59 : decode cX3_init 59 = .ok (.iconst 0, 1) := dk_3 (blk_at bk_cX3_init_38 21 rfl)
theorem dX3_init_60 : decode cX3_init 60 = .ok (.putfield 45, 3) := dq_181 bk_cX3_init_38 22 rfl rfl
theorem dX3_init_63 : decode cX3_init 63 = .ok (.aload_n 0, 1) := dk_42 (blk_at bk_cX3_init_38 25 rfl)
theorem dX3_init_64 : decode cX3_init 64 = .ok (.iconst 0, 1) := dk_3 (blk_at bk_cX3_init_38 26 rfl)
theorem dX3_init_65 : decode cX3_init 65 = .ok (.putfield 48, 3) := dq_181 bk_cX3_init_38 27 rfl rfl
theorem dX3_init_68 : decode cX3_init 68 = .ok (.aload_n 0, 1) := dk_42 (blk_at bk_cX3_init_38 30 rfl)
theorem dX3_init_69 : decode cX3_init 69 = .ok (.iconst 0, 1) := dk_3 (blk_at bk_cX3_init_38 31 rfl)
theorem dX3_init_70 : decode cX3_init 70 = .ok (.putfield 51, 3) := dq_181 bk_cX3_init_38 32 rfl rfl
theorem dX3_init_73 : decode cX3_init 73 = .ok (.aload_n 0, 1) := dk_42 (blk_at bk_cX3_init_38 35 rfl)
theorem dX3_init_74 : decode cX3_init 74 = .ok (.iconst 0, 1) := dk_3 (blk_at bk_cX3_init_38 36 rfl)
theorem dX3_init_75 : decode cX3_init 75 = .ok (.putfield 54, 3) := dq_181 bk_cX3_init_38 37 rfl rfl
theorem bk_cX3_init_78 : (cX3_init.data.toList.drop 78).take 31 = [42, 3, 181, 0, 57, 42, 3, 181, 0, 60, 42, 3, 181, 0, 63, 42, 3, 181, 0, 66, 42, 3, 181, 0, 69, 42, 3, 181, 0, 72, 177] := by decide +kernel
theorem dX3_init_78 : decode cX3_init 78 = .ok (.aload_n 0, 1) := dk_42 (blk_at bk_cX3_init_78 0 rfl)
theorem dX3_init_79 : decode cX3_init 79 = .ok (.iconst 0, 1) := dk_3 (blk_at bk_cX3_init_78 1 rfl)
theorem dX3_init_80 : decode cX3_init 80 = .ok (.putfield 57, 3) := dq_181 bk_cX3_init_78 2 rfl rfl
theorem dX3_init_83 : decode cX3_init 83 = .ok (.aload_n 0, 1) := dk_42 (blk_at bk_cX3_init_78 5 rfl)
theorem dX3_init_84 : decode cX3_init 84 = .ok (.iconst 0, 1) := dk_3 (blk_at bk_cX3_init_78 6 rfl)
theorem dX3_init_85 : decode cX3_init 85 = .ok (.putfield 60, 3) := dq_181 bk_cX3_init_78 7 rfl rfl
theorem dX3_init_88 : decode cX3_init 88 = .ok (.aload_n 0, 1) := dk_42 (blk_at bk_cX3_init_78 10 rfl)
theorem dX3_init_89 : decode cX3_init 89 = .ok (.iconst 0, 1) := dk_3 (blk_at bk_cX3_init_78 11 rfl)
theorem dX3_init_90 : decode cX3_init 90 = .ok (.putfield 63, 3) := dq_181 bk_cX3_init_78 12 rfl rfl
theorem dX3_init_93 : decode cX3_init 93 = .ok (.aload_n 0, 1) := dk_42 (blk_at bk_cX3_init_78 15 rfl)
theorem dX3_init_94 : decode cX3_init 94 = .ok (.iconst 0, 1) := dk_3 (blk_at bk_cX3_init_78 16 rfl)
theorem dX3_init_95 : decode cX3_init 95 = .ok (.putfield 66, 3) := dq_181 bk_cX3_init_78 17 rfl rfl
theorem dX3_init_98 : decode cX3_init 98 = .ok (.aload_n 0, 1) := dk_42 (blk_at bk_cX3_init_78 20 rfl)
theorem dX3_init_99 : decode cX3_init 99 = .ok (.iconst 0, 1) := dk_3 (blk_at bk_cX3_init_78 21 rfl)
theorem dX3_init_100 : decode cX3_init 100 = .ok (.putfield 69, 3) := dq_181 bk_cX3_init_78 22 rfl rfl
theorem dX3_init_103 : decode cX3_init 103 = .ok (.aload_n 0, 1) := dk_42 (blk_at bk_cX3_init_78 25 rfl)
theorem dX3_init_104 : decode cX3_init 104 = .ok (.iconst 0, 1) := dk_3 (blk_at bk_cX3_init_78 26 rfl)
theorem dX3_init_105 : decode cX3_init 105 = .ok (.putfield 72, 3) := dq_181 bk_cX3_init_78 27 rfl rfl
theorem dX3_init_108 : decode cX3_init 108 = .ok (.return_, 1) := dk_177 (blk_at bk_cX3_init_78 30 rfl)
theorem bk_cX3_readText_0 : (cX3_readText.data.toList.drop 0).take 40 = [42, 43, 181, 0, 35, 42, 28, 43, 190, 184, 0, 75, 181, 0, 39, 42, 3, 181, 0, 45, 42, 3, 181, 0, 25, 42, 3, 181, 0, 29, 42, 2, 181, 0, 32, 42, 3, 181, 0, 54] := by decide +kernel
theorem dX3_readText_0 : decode cX3_readText 0 = .ok (.aload_n 0, 1) := dk_42 (blk_at bk_cX3_readText_0 0 rfl)
theorem dX3_readText_1 : decode cX3_readText 1 = .ok (.aload_n 1, 1) := dk_43 (blk_at bk_cX3_readText_0 1 rfl)
theorem dX3_readText_2 : decode cX3_readText 2 = .ok (.putfield 35, 3) := dq_181 bk_cX3_readText_0 2 rfl rfl
theorem dX3_readText_5 : decode cX3_readText 5 = .ok (.aload_n 0, 1) := dk_42 (blk_at bk_cX3_readText_0 5 rfl)
theorem dX3_readText_6 : decode cX3_readText 6 = .ok (.iload_n 2, 1) := dk_28 (blk_at bk_cX3_readText_0 6 rfl)
theorem dX3_readText_7 : decode cX3_readText 7 = .ok (.aload_n 1, 1) := dk_43 (blk_at bk_cX3_readText_0 7 rfl)
theorem dX3_readText_8 : decode cX3_readText 8 = .ok (.arraylength, 1) := dk_190 (blk_at bk_cX3_readText_0 8 rfl)
theorem dX3_readText_9 : decode cX3_readText 9 = .ok (.invokestatic 75, 3) := dq_184 bk_cX3_readText_0 9 rfl rfl
theorem dX3_readText_12 : decode cX3_readText 12 = .ok (.putfield 39, 3) := dq_181 bk_cX3_readText_0 12 rfl rfl
theorem dX3_readText_15 : decode cX3_readText 15 = .ok (.aload_n 0, 1) := dk_42 (blk_at bk_cX3_readText_0 15 rfl)
theorem dX3_readText_16 : decode cX3_readText 16 = .ok (.iconst 0, 1) := dk_3 (blk_at bk_cX3_readText_0 16 rfl)
theorem dX3_readText_17 : decode cX3_readText 17 = .ok (.putfield 45, 3) := dq_181 bk_cX3_readText_0 17 rfl rfl
theorem dX3_readText_20 : decode cX3_readText 20 = .ok (.aload_n 0, 1) := dk_42 (blk_at bk_cX3_readText_0 20 rfl)
theorem dX3_readText_21 : decode cX3_readText 21 = .ok (.iconst 0, 1) := dk_3 (blk_at bk_cX3_readText_0 21 rfl)
theorem dX3_readText_22 : decode cX3_readText 22 = .ok (.putfield 25, 3) := dq_181 bk_cX3_readText_0 22 rfl rfl
theorem dX3_readText_25 : decode cX3_readText 25 = .ok (.aload_n 0, 1) := dk_42 (blk_at bk_cX3_readText_0 25 rfl)
theorem dX3_readText_26 : decode cX3_readText 26 = .ok (.iconst 0, 1) := dk_3 (blk_at bk_cX3_readText_0 26 rfl)
theorem dX3_readText_27 : decode cX3_readText 27 = .ok (.putfield 29, 3) := dq_181 bk_cX3_readText_0 27 rfl rfl
theorem dX3_readText_30 : decode cX3_readText 30 = .ok (.aload_n 0, 1) := dk_42 (blk_at bk_cX3_readText_0 30 rfl)
theorem dX3_readText_31 : decode cX3_readText 31 = .ok (.iconst (-1), 1) := dk_2 (blk_at bk_cX3_readText_0 31 rfl)
theorem dX3_readText_32 : decode cX3_readText 32 = .ok (.putfield 32, 3) := dq_181 bk_cX3_readText_0 32 rfl rfl
theorem dX3_readText_35 : decode cX3_readText 35 = .ok (.aload_n 0, 1) := dk_42 (blk_at bk_cX3_readText_0 35 rfl)
theorem dX3_readText_36 : decode cX3_readText 36 = .ok (.iconst 0, 1) := dk_3 (blk_at bk_cX3_readText_0 36 rfl)
theorem dX3_readText_37 : decode cX3_readText 37 = .ok (.putfield 54, 3) := dq_181 bk_cX3_readText_0 37 rfl rfl
theorem bk_cX3_readText_40 : (cX3_readText.data.toList.drop 40).take 40 = [42, 180, 0, 12, 182, 0, 81, 42, 180, 0, 21, 3, 181, 0, 84, 42, 182, 0, 87, 42, 182, 0, 90, 154, 0, 5, 3, 172, 42, 4, 181, 0, 25, 3, 62, 29, 42, 180, 0, 39] := by decide +kernel
theorem dX3_readText_40 : decode cX3_readText 40 = .ok (.aload_n 0, 1) := dk_42 (blk_at bk_cX3_readText_40 0 rfl)
theorem dX3_readText_41 : decode cX3_readText 41 = .ok (.getfield 12, 3) := dq_180 bk_cX3_readText_40 1 rfl rfl
theorem dX3_readText_44 : decode cX3_readText 44 = .ok (.invokevirtual 81, 3) := dq_182 bk_cX3_readText_40 4 rfl rfl
theorem dX3_readText_47 : decode cX3_readText 47 = .ok (.aload_n 0, 1) := dk_42 (blk_at bk_cX3_readText_40 7 rfl)
theorem dX3_readText_48 : decode cX3_readText 48 = .ok (.getfield 21, 3) := dq_180 bk_cX3_readText_40 8 rfl rfl
theorem dX3_readText_51 : decode cX3_readText 51 = .ok (.iconst 0, 1) := dk_3 (blk_at bk_cX3_readText_40 11 rfl)
theorem dX3_readText_52 : decode cX3_readText 52 = .ok (.putfield 84, 3) := dq_181 bk_cX3_readText_40 12 rfl rfl
theorem dX3_readText_55 : decode cX3_readText 55 = .ok (.aload_n 0, 1) := dk_42 (blk_at bk_cX3_readText_40 15 rfl)
theorem dX3_readText_56 : decode cX3_readText 56 = .ok (.invokevirtual 87, 3) := dq_182 bk_cX3_readText_40 16 rfl rfl
theorem dX3_readText_59 : decode cX3_readText 59 = .ok (.aload_n 0, 1) := dk_42 (blk_at bk_cX3_readText_40 19 rfl)
theorem dX3_readText_60 : decode cX3_readText 60 = .ok (.invokevirtual 90, 3) := dq_182 bk_cX3_readText_40 20 rfl rfl
theorem dX3_readText_63 : decode cX3_readText 63 = .ok (.ifCond .ne 5, 3) := dq_154 bk_cX3_readText_40 23 rfl (by decide)
theorem dX3_readText_66 : decode cX3_readText 66 = .ok (.iconst 0, 1) := dk_3 (blk_at bk_cX3_readText_40 26 rfl)
theorem dX3_readText_67 : decode cX3_readText 67 = .ok (.ireturn, 1) := dk_172 (blk_at bk_cX3_readText_40 27 rfl)
theorem dX3_readText_68 : decode cX3_readText 68 = .ok (.aload_n 0, 1) := dk_42 (blk_at bk_cX3_readText_40 28 rfl)
theorem dX3_readText_69 : decode cX3_readText 69 = .ok (.iconst 1, 1) := dk_4 (blk_at bk_cX3_readText_40 29 rfl)
theorem dX3_readText_70 : decode cX3_readText 70 = .ok (.putfield 25, 3) := dq_181 bk_cX3_readText_40 30 rfl rfl
theorem dX3_readText_73 : decode cX3_readText 73 = .ok (.iconst 0, 1) := dk_3 (blk_at bk_cX3_readText_40 33 rfl)
theorem dX3_readText_74 : decode cX3_readText 74 = .ok (.istore_n 3, 1) := dk_62 (blk_at bk_cX3_readText_40 34 rfl)
theorem dX3_readText_75 : decode cX3_readText 75 = .ok (.iload_n 3, 1) := dk_29 (blk_at bk_cX3_readText_40 35 rfl)
theorem dX3_readText_76 : decode cX3_readText 76 = .ok (.aload_n 0, 1) := dk_42 (blk_at bk_cX3_readText_40 36 rfl)
theorem dX3_readText_77 : decode cX3_readText 77 = .ok (.getfield 39, 3) := dq_180 bk_cX3_readText_40 37 rfl rfl
theorem bk_cX3_readText_80 : (cX3_readText.data.toList.drop 80).take 37 = [162, 0, 35, 42, 180, 0, 48, 153, 0, 28, 42, 182, 0, 94, 154, 0, 5, 3, 172, 42, 89, 180, 0, 25, 4, 96, 181, 0, 25, 132, 3, 1, 167, 255, 219, 4, 172] := by decide +kernel
theorem dX3_readText_80 : decode cX3_readText 80 = .ok (.if_icmp .ge 35, 3) := dq_162 bk_cX3_readText_80 0 rfl (by decide)
theorem dX3_readText_83 : decode cX3_readText 83 = .ok (.aload_n 0, 1) := dk_42 (blk_at bk_cX3_readText_80 3 rfl)
theorem dX3_readText_84 : decode cX3_readText 84 = .ok (.getfield 48, 3) := dq_180 bk_cX3_readText_80 4 rfl rfl
theorem dX3_readText_87 : decode cX3_readText 87 = .ok (.ifCond .eq 28, 3) := dq_153 bk_cX3_readText_80 7 rfl (by decide)
theorem dX3_readText_90 : decode cX3_readText 90 = .ok (.aload_n 0, 1) := dk_42 (blk_at bk_cX3_readText_80 10 rfl)
theorem dX3_readText_91 : decode cX3_readText 91 = .ok (.invokevirtual 94, 3) := dq_182 bk_cX3_readText_80 11 rfl rfl
theorem dX3_readText_94 : decode cX3_readText 94 = .ok (.ifCond .ne 5, 3) := dq_154 bk_cX3_readText_80 14 rfl (by decide)
theorem dX3_readText_97 : decode cX3_readText 97 = .ok (.iconst 0, 1) := dk_3 (blk_at bk_cX3_readText_80 17 rfl)
theorem dX3_readText_98 : decode cX3_readText 98 = .ok (.ireturn, 1) := dk_172 (blk_at bk_cX3_readText_80 18 rfl)
theorem dX3_readText_99 : decode cX3_readText 99 = .ok (.aload_n 0, 1) := dk_42 (blk_at bk_cX3_readText_80 19 rfl)
theorem dX3_readText_100 : decode cX3_readText 100 = .ok (.dup, 1) := dk_89 (blk_at bk_cX3_readText_80 20 rfl)
theorem dX3_readText_101 : decode cX3_readText 101 = .ok (.getfield 25, 3) := dq_180 bk_cX3_readText_80 21 rfl rfl
theorem dX3_readText_104 : decode cX3_readText 104 = .ok (.iconst 1, 1) := dk_4 (blk_at bk_cX3_readText_80 24 rfl)
theorem dX3_readText_105 : decode cX3_readText 105 = .ok (.iadd, 1) := dk_96 (blk_at bk_cX3_readText_80 25 rfl)
theorem dX3_readText_106 : decode cX3_readText 106 = .ok (.putfield 25, 3) := dq_181 bk_cX3_readText_80 26 rfl rfl
theorem dX3_readText_109 : decode cX3_readText 109 = .ok (.iinc 3 1, 3) := dq_132 bk_cX3_readText_80 29 rfl rfl (by decide)
theorem dX3_readText_112 : decode cX3_readText 112 = .ok (.goto (-37), 3) := dq_167 bk_cX3_readText_80 32 rfl (by decide)
theorem dX3_readText_115 : decode cX3_readText 115 = .ok (.iconst 1, 1) := dk_4 (blk_at bk_cX3_readText_80 35 rfl)
theorem dX3_readText_116 : decode cX3_readText 116 = .ok (.ireturn, 1) := dk_172 (blk_at bk_cX3_readText_80 36 rfl)
theorem bk_cX3_readWeeks_0 : (cX3_readWeeks.data.toList.drop 0).take 39 = [42, 16, 7, 182, 0, 97, 153, 0, 13, 42, 8, 16, 30, 182, 0, 101, 154, 0, 5, 3, 172, 42, 180, 0, 12, 42, 180, 0, 51, 181, 0, 105, 42, 182, 0, 87, 42, 16, 59] := by decide +kernel
theorem dX3_readWeeks_0 : decode cX3_readWeeks 0 = .ok (.aload_n 0, 1) := dk_42 (blk_at bk_cX3_readWeeks_0 0 rfl)
theorem dX3_readWeeks_1 : decode cX3_readWeeks 1 = .ok (.bipush 7, 2) := dq_16 bk_cX3_readWeeks_0 1 rfl (by decide)
theorem dX3_readWeeks_3 : decode cX3_readWeeks 3 = .ok (.invokevirtual 97, 3) := dq_182 bk_cX3_readWeeks_0 3 rfl rfl
theorem dX3_readWeeks_6 : decode cX3_readWeeks 6 = .ok (.ifCond .eq 13, 3) := dq_153 bk_cX3_readWeeks_0 6 rfl (by decide)
theorem dX3_readWeeks_9 : decode cX3_readWeeks 9 = .ok (.aload_n 0, 1) := dk_42 (blk_at bk_cX3_readWeeks_0 9 rfl)
theorem dX3_readWeeks_10 : decode cX3_readWeeks 10 = .ok (.iconst 5, 1) := dk_8 (blk_at bk_cX3_readWeeks_0 10 rfl)
theorem dX3_readWeeks_11 : decode cX3_readWeeks 11 = .ok (.bipush 30, 2) := dq_16 bk_cX3_readWeeks_0 11 rfl (by decide)
theorem dX3_readWeeks_13 : decode cX3_readWeeks 13 = .ok (.invokevirtual 101, 3) := dq_182 bk_cX3_readWeeks_0 13 rfl rfl
theorem dX3_readWeeks_16 : decode cX3_readWeeks 16 = .ok (.ifCond .ne 5, 3) := dq_154 bk_cX3_readWeeks_0 16 rfl (by decide)
theorem dX3_readWeeks_19 : decode cX3_readWeeks 19 = .ok (.iconst 0, 1) := dk_3 (blk_at bk_cX3_readWeeks_0 19 rfl)
theorem dX3_readWeeks_20 : decode cX3_readWeeks 20 = .ok (.ireturn, 1) := dk_172 (blk_at bk_cX3_readWeeks_0 20 rfl)
theorem dX3_readWeeks_21 : decode cX3_readWeeks 21 = .ok (.aload_n 0, 1) := dk_42 (blk_at bk_cX3_readWeeks_0 21 rfl)
theorem dX3_readWeeks_22 : decode cX3_readWeeks 22 = .ok (.getfield 12, 3) := dq_180 bk_cX3_readWeeks_0 22 rfl rfl
theorem dX3_readWeeks_25 : decode cX3_readWeeks 25 = .ok (.aload_n 0, 1) := dk_42 (blk_at bk_cX3_readWeeks_0 25 rfl)
theorem dX3_readWeeks_26 : decode cX3_readWeeks 26 = .ok (.getfield 51, 3) := dq_180 bk_cX3_readWeeks_0 26 rfl rfl
theorem dX3_readWeeks_29 : decode cX3_readWeeks 29 = .ok (.putfield 105, 3) := dq_181 bk_cX3_readWeeks_0 29 rfl rfl
theorem dX3_readWeeks_32 : decode cX3_readWeeks 32 = .ok (.aload_n 0, 1) := dk_42 (blk_at bk_cX3_readWeeks_0 32 rfl)
theorem dX3_readWeeks_33 : decode cX3_readWeeks 33 = .ok (.invokevirtual 87, 3) := dq_182 bk_cX3_readWeeks_0 33 rfl rfl
theorem dX3_readWeeks_36 : decode cX3_readWeeks 36 = .ok (.aload_n 0, 1) := dk_42 (blk_at bk_cX3_readWeeks_0 36 rfl)
theorem dX3_readWeeks_37 : decode cX3_readWeeks 37 = .ok (.bipush 59, 2) := dq_16 bk_cX3_readWeeks_0 37 rfl (by decide)
theorem bk_cX3_readWeeks_39 : (cX3_readWeeks.data.toList.drop 39).take 4 = [182, 0, 106, 172] := by decide +kernel
theorem dX3_readWeeks_39 : decode cX3_readWeeks 39 = .ok (.invokevirtual 106, 3) := dq_182 bk_cX3_readWeeks_39 0 rfl rfl
theorem dX3_readWeeks_42 : decode cX3_readWeeks 42 = .ok (.ireturn, 1) := dk_172 (blk_at bk_cX3_readWeeks_39 3 rfl)
theorem bk_cX3_readLine_0 : (cX3_readLine.data.toList.drop 0).take 38 = [42, 16, 8, 182, 0, 110, 153, 0, 8, 42, 182, 0, 113, 172, 42, 16, 9, 182, 0, 110, 153, 0, 8, 42, 182, 0, 116, 172, 42, 16, 10, 182, 0, 110, 153, 0, 8, 42] := by decide +kernel
theorem dX3_readLine_0 : decode cX3_readLine 0 = .ok (.aload_n 0, 1) := dk_42 (blk_at bk_cX3_readLine_0 0 rfl)
theorem dX3_readLine_1 : decode cX3_readLine 1 = .ok (.bipush 8, 2) := dq_16 bk_cX3_readLine_0 1 rfl (by decide)
theorem dX3_readLine_3 : decode cX3_readLine 3 = .ok (.invokevirtual 110, 3) := dq_182 bk_cX3_readLine_0 3 rfl rfl
theorem dX3_readLine_6 : decode cX3_readLine 6 = .ok (.ifCond .eq 8, 3) := dq_153 bk_cX3_readLine_0 6 rfl (by decide)
theorem dX3_readLine_9 : decode cX3_readLine 9 = .ok (.aload_n 0, 1) := dk_42 (blk_at bk_cX3_readLine_0 9 rfl)
theorem dX3_readLine_10 : decode cX3_readLine 10 = .ok (.invokevirtual 113, 3) := dq_182 bk_cX3_readLine_0 10 rfl rfl
theorem dX3_readLine_13 : decode cX3_readLine 13 = .ok (.ireturn, 1) := dk_172 (blk_at bk_cX3_readLine_0 13 rfl)
theorem dX3_readLine_14 : decode cX3_readLine 14 = .ok (.aload_n 0, 1) := dk_42 (blk_at bk_cX3_readLine_0 14 rfl)
theorem dX3_readLine_15 : decode cX3_readLine 15 = .ok (.bipush 9, 2) := dq_16 bk_cX3_readLine_0 15 rfl (by decide)
theorem dX3_readLine_17 : decode cX3_readLine 17 = .ok (.invokevirtual 110, 3) := dq_182 bk_cX3_readLine_0 17 rfl rfl
theorem dX3_readLine_20 : decode cX3_readLine 20 = .ok (.ifCond .eq 8, 3) := dq_153 bk_cX3_readLine_0 20 rfl (by decide)
theorem dX3_readLine_23 : decode cX3_readLine 23 = .ok (.aload_n 0, 1) := dk_42 (blk_at bk_cX3_readLine_0 23 rfl)
theorem dX3_readLine_24 : decode cX3_readLine 24 = .ok (.invokevirtual 116, 3) := dq_182 bk_cX3_readLine_0 24 rfl rfl
theorem dX3_readLine_27 : decode cX3_readLine 27 = .ok (.ireturn, 1) := dk_172 (blk_at bk_cX3_readLine_0 27 rfl)
theorem dX3_readLine_28 : decode cX3_readLine 28 = .ok (.aload_n 0, 1) := dk_42 (blk_at bk_cX3_readLine_0 28 rfl)
theorem dX3_readLine_29 : decode cX3_readLine 29 = .ok (.bipush 10, 2) := dq_16 bk_cX3_readLine_0 29 rfl (by decide)
theorem dX3_readLine_31 : decode cX3_readLine 31 = .ok (.invokevirtual 110, 3) := dq_182 bk_cX3_readLine_0 31 rfl rfl
theorem dX3_readLine_34 : decode cX3_readLine 34 = .ok (.ifCond .eq 8, 3) := dq_153 bk_cX3_readLine_0 34 rfl (by decide)
theorem dX3_readLine_37 : decode cX3_readLine 37 = .ok (.aload_n 0, 1) := dk_42 (blk_at bk_cX3_readLine_0 37 rfl)
theorem bk_cX3_readLine_38 : (cX3_readLine.data.toList.drop 38).take 24 = [182, 0, 119, 172, 42, 16, 11, 182, 0, 110, 153, 0, 8, 42, 182, 0, 122, 172, 42, 4, 182, 0, 125, 172] := by decide +kernel
theorem dX3_readLine_38 : decode cX3_readLine 38 = .ok (.invokevirtual 119, 3) := dq_182 bk_cX3_readLine_38 0 rfl rfl
theorem dX3_readLine_41 : decode cX3_readLine 41 = .ok (.ireturn, 1) := dk_172 (blk_at bk_cX3_readLine_38 3 rfl)
theorem dX3_readLine_42 : decode cX3_readLine 42 = .ok (.aload_n 0, 1) := dk_42 (blk_at bk_cX3_readLine_38 4 rfl)
theorem dX3_readLine_43 : decode cX3_readLine 43 = .ok (.bipush 11, 2) := dq_16 bk_cX3_readLine_38 5 rfl (by decide)
theorem dX3_readLine_45 : decode cX3_readLine 45 = .ok (.invokevirtual 110, 3) := dq_182 bk_cX3_readLine_38 7 rfl rfl
theorem dX3_readLine_48 : decode cX3_readLine 48 = .ok (.ifCond .eq 8, 3) := dq_153 bk_cX3_readLine_38 10 rfl (by decide)
theorem dX3_readLine_51 : decode cX3_readLine 51 = .ok (.aload_n 0, 1) := dk_42 (blk_at bk_cX3_readLine_38 13 rfl)
theorem dX3_readLine_52 : decode cX3_readLine 52 = .ok (.invokevirtual 122, 3) := dq_182 bk_cX3_readLine_38 14 rfl rfl
theorem dX3_readLine_55 : decode cX3_readLine 55 = .ok (.ireturn, 1) := dk_172 (blk_at bk_cX3_readLine_38 17 rfl)
theorem dX3_readLine_56 : decode cX3_readLine 56 = .ok (.aload_n 0, 1) := dk_42 (blk_at bk_cX3_readLine_38 18 rfl)
theorem dX3_readLine_57 : decode cX3_readLine 57 = .ok (.iconst 1, 1) := dk_4 (blk_at bk_cX3_readLine_38 19 rfl)
theorem dX3_readLine_58 : decode cX3_readLine 58 = .ok (.invokevirtual 125, 3) := dq_182 bk_cX3_readLine_38 20 rfl rfl
theorem dX3_readLine_61 : decode cX3_readLine 61 = .ok (.ireturn, 1) := dk_172 (blk_at bk_cX3_readLine_38 23 rfl)
theorem bk_cX3_readLimit_0 : (cX3_readLimit.data.toList.drop 0).take 38 = [42, 180, 0, 12, 180, 0, 128, 158, 0, 9, 42, 8, 182, 0, 125, 172, 42, 182, 0, 87, 42, 3, 16, 23, 182, 0, 101, 154, 0, 5, 3, 172, 42, 180, 0, 51, 60, 42] := by decide +kernel
theorem dX3_readLimit_0 : decode cX3_readLimit 0 = .ok (.aload_n 0, 1) := dk_42 (blk_at bk_cX3_readLimit_0 0 rfl)
theorem dX3_readLimit_1 : decode cX3_readLimit 1 = .ok (.getfield 12, 3) := dq_180 bk_cX3_readLimit_0 1 rfl rfl
theorem dX3_readLimit_4 : decode cX3_readLimit 4 = .ok (.getfield 128, 3) := dq_180 bk_cX3_readLimit_0 4 rfl rfl
theorem dX3_readLimit_7 : decode cX3_readLimit 7 = .ok (.ifCond .le 9, 3) := dq_158 bk_cX3_readLimit_0 7 rfl (by decide)
theorem dX3_readLimit_10 : decode cX3_readLimit 10 = .ok (.aload_n 0, 1) := dk_42 (blk_at bk_cX3_readLimit_0 10 rfl)
theorem dX3_readLimit_11 : decode cX3_readLimit 11 = .ok (.iconst 5, 1) := dk_8 (blk_at bk_cX3_readLimit_0 11 rfl)
theorem dX3_readLimit_12 : decode cX3_readLimit 12 = .ok (.invokevirtual 125, 3) := dq_182 bk_cX3_readLimit_0 12 rfl rfl
theorem dX3_readLimit_15 : decode cX3_readLimit 15 = .ok (.ireturn, 1) := dk_172 (blk_at bk_cX3_readLimit_0 15 rfl)
theorem dX3_readLimit_16 : decode cX3_readLimit 16 = .ok (.aload_n 0, 1) := dk_42 (blk_at bk_cX3_readLimit_0 16 rfl)
theorem dX3_readLimit_17 : decode cX3_readLimit 17 = .ok (.invokevirtual 87, 3) := dq_182 bk_cX3_readLimit_0 17 rfl rfl
theorem dX3_readLimit_20 : decode cX3_readLimit 20 = .ok (.aload_n 0, 1) := dk_42 (blk_at bk_cX3_readLimit_0 20 rfl)
theorem dX3_readLimit_21 : decode cX3_readLimit 21 = .ok (.iconst 0, 1) := dk_3 (blk_at bk_cX3_readLimit_0 21 rfl)
theorem dX3_readLimit_22 : decode cX3_readLimit 22 = .ok (.bipush 23, 2) := dq_16 bk_cX3_readLimit_0 22 rfl (by decide)
theorem dX3_readLimit_24 : decode cX3_readLimit 24 = .ok (.invokevirtual 101, 3) := dq_182 bk_cX3_readLimit_0 24 rfl rfl
theorem dX3_readLimit_27 : decode cX3_readLimit 27 = .ok (.ifCond .ne 5, 3) := dq_154 bk_cX3_readLimit_0 27 rfl (by decide)
theorem dX3_readLimit_30 : decode cX3_readLimit 30 = .ok (.iconst 0, 1) := dk_3 (blk_at bk_cX3_readLimit_0 30 rfl)
theorem dX3_readLimit_31 : decode cX3_readLimit 31 = .ok (.ireturn, 1) := dk_172 (blk_at bk_cX3_readLimit_0 31 rfl)
theorem dX3_readLimit_32 : decode cX3_readLimit 32 = .ok (.aload_n 0, 1) := dk_42 (blk_at bk_cX3_readLimit_0 32 rfl)
theorem dX3_readLimit_33 : decode cX3_readLimit 33 = .ok (.getfield 51, 3) := dq_180 bk_cX3_readLimit_0 33 rfl rfl
theorem dX3_readLimit_36 : decode cX3_readLimit 36 = .ok (.istore_n 1, 1) := dk_60 (blk_at bk_cX3_readLimit_0 36 rfl)
theorem dX3_readLimit_37 : decode cX3_readLimit 37 = .ok (.aload_n 0, 1) := dk_42 (blk_at bk_cX3_readLimit_0 37 rfl)
theorem bk_cX3_readLimit_38 : (cX3_readLimit.data.toList.drop 38).take 39 = [180, 0, 54, 27, 184, 0, 131, 153, 0, 9, 42, 6, 182, 0, 125, 172, 42, 89, 180, 0, 54, 4, 27, 120, 128, 181, 0, 54, 42, 182, 0, 87, 42, 3, 16, 9, 182, 0, 101] := by decide +kernel
theorem dX3_readLimit_38 : decode cX3_readLimit 38 = .ok (.getfield 54, 3) := dq_180 bk_cX3_readLimit_38 0 rfl rfl
theorem dX3_readLimit_41 : decode cX3_readLimit 41 = .ok (.iload_n 1, 1) := dk_27 (blk_at bk_cX3_readLimit_38 3 rfl)
theorem dX3_readLimit_42 : decode cX3_readLimit 42 = .ok (.invokestatic 131, 3) := dq_184 bk_cX3_readLimit_38 4 rfl rfl
theorem dX3_readLimit_45 : decode cX3_readLimit 45 = .ok (.ifCond .eq 9, 3) := dq_153 bk_cX3_readLimit_38 7 rfl (by decide)
theorem dX3_readLimit_48 : decode cX3_readLimit 48 = .ok (.aload_n 0, 1) := dk_42 (blk_at bk_cX3_readLimit_38 10 rfl)
theorem dX3_readLimit_49 : decode cX3_readLimit 49 = .ok (.iconst 3, 1) := dk_6 (blk_at bk_cX3_readLimit_38 11 rfl)
theorem dX3_readLimit_50 : decode cX3_readLimit 50 = .ok (.invokevirtual 125, 3) := dq_182 bk_cX3_readLimit_38 12 rfl rfl
theorem dX3_readLimit_53 : decode cX3_readLimit 53 = .ok (.ireturn, 1) := dk_172 (blk_at bk_cX3_readLimit_38 15 rfl)
theorem dX3_readLimit_54 : decode cX3_readLimit 54 = .ok (.aload_n 0, 1) := dk_42 (blk_at bk_cX3_readLimit_38 16 rfl)
theorem dX3_readLimit_55 : decode cX3_readLimit 55 = .ok (.dup, 1) := dk_89 (blk_at bk_cX3_readLimit_38 17 rfl)
theorem dX3_readLimit_56 : decode cX3_readLimit 56 = .ok (.getfield 54, 3) := dq_180 bk_cX3_readLimit_38 18 rfl rfl
theorem dX3_readLimit_59 : decode cX3_readLimit 59 = .ok (.iconst 1, 1) := dk_4 (blk_at bk_cX3_readLimit_38 21 rfl)
theorem dX3_readLimit_60 : decode cX3_readLimit 60 = .ok (.iload_n 1, 1) := dk_27 (blk_at bk_cX3_readLimit_38 22 rfl)
theorem dX3_readLimit_61 : decode cX3_readLimit 61 = .ok (.ishl, 1) := dk_120 (blk_at bk_cX3_readLimit_38 23 rfl)
theorem dX3_readLimit_62 : decode cX3_readLimit 62 = .ok (.ior, 1) := dk_128 (blk_at bk_cX3_readLimit_38 24 rfl)
theorem dX3_readLimit_63 : decode cX3_readLimit 63 = .ok (.putfield 54, 3) := dq_181 bk_cX3_readLimit_38 25 rfl rfl
theorem dX3_readLimit_66 : decode cX3_readLimit 66 = .ok (.aload_n 0, 1) := dk_42 (blk_at bk_cX3_readLimit_38 28 rfl)
theorem dX3_readLimit_67 : decode cX3_readLimit 67 = .ok (.invokevirtual 87, 3) := dq_182 bk_cX3_readLimit_38 29 rfl rfl
theorem dX3_readLimit_70 : decode cX3_readLimit 70 = .ok (.aload_n 0, 1) := dk_42 (blk_at bk_cX3_readLimit_38 32 rfl)
theorem dX3_readLimit_71 : decode cX3_readLimit 71 = .ok (.iconst 0, 1) := dk_3 (blk_at bk_cX3_readLimit_38 33 rfl)
theorem dX3_readLimit_72 : decode cX3_readLimit 72 = .ok (.bipush 9, 2) := dq_16 bk_cX3_readLimit_38 34 rfl (by decide)
theorem dX3_readLimit_74 : decode cX3_readLimit 74 = .ok (.invokevirtual 101, 3) := dq_182 bk_cX3_readLimit_38 36 rfl rfl
theorem bk_cX3_readLimit_77 : (cX3_readLimit.data.toList.drop 77).take 38 = [154, 0, 5, 3, 172, 42, 180, 0, 51, 61, 42, 182, 0, 87, 42, 16, 12, 182, 0, 97, 153, 0, 12, 42, 3, 28, 182, 0, 101, 154, 0, 5, 3, 172, 42, 180, 0, 12] := by decide +kernel
theorem dX3_readLimit_77 : decode cX3_readLimit 77 = .ok (.ifCond .ne 5, 3) := dq_154 bk_cX3_readLimit_77 0 rfl (by decide)
theorem dX3_readLimit_80 : decode cX3_readLimit 80 = .ok (.iconst 0, 1) := dk_3 (blk_at bk_cX3_readLimit_77 3 rfl)
theorem dX3_readLimit_81 : decode cX3_readLimit 81 = .ok (.ireturn, 1) := dk_172 (blk_at bk_cX3_readLimit_77 4 rfl)
theorem dX3_readLimit_82 : decode cX3_readLimit 82 = .ok (.aload_n 0, 1) := dk_42 (blk_at bk_cX3_readLimit_77 5 rfl)
theorem dX3_readLimit_83 : decode cX3_readLimit 83 = .ok (.getfield 51, 3) := dq_180 bk_cX3_readLimit_77 6 rfl rfl
theorem dX3_readLimit_86 : decode cX3_readLimit 86 = .ok (.istore_n 2, 1) := dk_61 (blk_at bk_cX3_readLimit_77 9 rfl)
theorem dX3_readLimit_87 : decode cX3_readLimit 87 = .ok (.aload_n 0, 1) := dk_42 (blk_at bk_cX3_readLimit_77 10 rfl)
theorem dX3_readLimit_88 : decode cX3_readLimit 88 = .ok (.invokevirtual 87, 3) := dq_182 bk_cX3_readLimit_77 11 rfl rfl
theorem dX3_readLimit_91 : decode cX3_readLimit 91 = .ok (.aload_n 0, 1) := dk_42 (blk_at bk_cX3_readLimit_77 14 rfl)
theorem dX3_readLimit_92 : decode cX3_readLimit 92 = .ok (.bipush 12, 2) := dq_16 bk_cX3_readLimit_77 15 rfl (by decide)
theorem dX3_readLimit_94 : decode cX3_readLimit 94 = .ok (.invokevirtual 97, 3) := dq_182 bk_cX3_readLimit_77 17 rfl rfl
theorem dX3_readLimit_97 : decode cX3_readLimit 97 = .ok (.ifCond .eq 12, 3) := dq_153 bk_cX3_readLimit_77 20 rfl (by decide)
theorem dX3_readLimit_100 : decode cX3_readLimit 100 = .ok (.aload_n 0, 1) := dk_42 (blk_at bk_cX3_readLimit_77 23 rfl)
theorem dX3_readLimit_101 : decode cX3_readLimit 101 = .ok (.iconst 0, 1) := dk_3 (blk_at bk_cX3_readLimit_77 24 rfl)
theorem dX3_readLimit_102 : decode cX3_readLimit 102 = .ok (.iload_n 2, 1) := dk_28 (blk_at bk_cX3_readLimit_77 25 rfl)
theorem dX3_readLimit_103 : decode cX3_readLimit 103 = .ok (.invokevirtual 101, 3) := dq_182 bk_cX3_readLimit_77 26 rfl rfl
theorem dX3_readLimit_106 : decode cX3_readLimit 106 = .ok (.ifCond .ne 5, 3) := dq_154 bk_cX3_readLimit_77 29 rfl (by decide)
theorem dX3_readLimit_109 : decode cX3_readLimit 109 = .ok (.iconst 0, 1) := dk_3 (blk_at bk_cX3_readLimit_77 32 rfl)
theorem dX3_readLimit_110 : decode cX3_readLimit 110 = .ok (.ireturn, 1) := dk_172 (blk_at bk_cX3_readLimit_77 33 rfl)
theorem dX3_readLimit_111 : decode cX3_readLimit 111 = .ok (.aload_n 0, 1) := dk_42 (blk_at bk_cX3_readLimit_77 34 rfl)
theorem dX3_readLimit_112 : decode cX3_readLimit 112 = .ok (.getfield 12, 3) := dq_180 bk_cX3_readLimit_77 35 rfl rfl
theorem bk_cX3_readLimit_115 : (cX3_readLimit.data.toList.drop 115).take 30 = [180, 0, 134, 27, 28, 79, 42, 180, 0, 12, 180, 0, 138, 27, 42, 180, 0, 51, 79, 42, 182, 0, 87, 42, 16, 59, 182, 0, 106, 172] := by decide +kernel
theorem dX3_readLimit_115 : decode cX3_readLimit 115 = .ok (.getfield 134, 3) := dq_180 bk_cX3_readLimit_115 0 rfl rfl
theorem dX3_readLimit_118 : decode cX3_readLimit 118 = .ok (.iload_n 1, 1) := dk_27 (blk_at bk_cX3_readLimit_115 3 rfl)
theorem dX3_readLimit_119 : decode cX3_readLimit 119 = .ok (.iload_n 2, 1) := dk_28 (blk_at bk_cX3_readLimit_115 4 rfl)
theorem dX3_readLimit_120 : decode cX3_readLimit 120 = .ok (.iastore, 1) := dk_79 (blk_at bk_cX3_readLimit_115 5 rfl)
theorem dX3_readLimit_121 : decode cX3_readLimit 121 = .ok (.aload_n 0, 1) := dk_42 (blk_at bk_cX3_readLimit_115 6 rfl)
theorem dX3_readLimit_122 : decode cX3_readLimit 122 = .ok (.getfield 12, 3) := dq_180 bk_cX3_readLimit_115 7 rfl rfl
theorem dX3_readLimit_125 : decode cX3_readLimit 125 = .ok (.getfield 138, 3) := dq_180 bk_cX3_readLimit_115 10 rfl rfl
theorem dX3_readLimit_128 : decode cX3_readLimit 128 = .ok (.iload_n 1, 1) := dk_27 (blk_at bk_cX3_readLimit_115 13 rfl)
theorem dX3_readLimit_129 : decode cX3_readLimit 129 = .ok (.aload_n 0, 1) := dk_42 (blk_at bk_cX3_readLimit_115 14 rfl)
theorem dX3_readLimit_130 : decode cX3_readLimit 130 = .ok (.getfield 51, 3) := dq_180 bk_cX3_readLimit_115 15 rfl rfl
theorem dX3_readLimit_133 : decode cX3_readLimit 133 = .ok (.iastore, 1) := dk_79 (blk_at bk_cX3_readLimit_115 18 rfl)
theorem dX3_readLimit_134 : decode cX3_readLimit 134 = .ok (.aload_n 0, 1) := dk_42 (blk_at bk_cX3_readLimit_115 19 rfl)
theorem dX3_readLimit_135 : decode cX3_readLimit 135 = .ok (.invokevirtual 87, 3) := dq_182 bk_cX3_readLimit_115 20 rfl rfl
theorem dX3_readLimit_138 : decode cX3_readLimit 138 = .ok (.aload_n 0, 1) := dk_42 (blk_at bk_cX3_readLimit_115 23 rfl)
theorem dX3_readLimit_139 : decode cX3_readLimit 139 = .ok (.bipush 59, 2) := dq_16 bk_cX3_readLimit_115 24 rfl (by decide)
theorem dX3_readLimit_141 : decode cX3_readLimit 141 = .ok (.invokevirtual 106, 3) := dq_182 bk_cX3_readLimit_115 26 rfl rfl
theorem dX3_readLimit_144 : decode cX3_readLimit 144 = .ok (.ireturn, 1) := dk_172 (blk_at bk_cX3_readLimit_115 29 rfl)
theorem bk_cX3_readCarrier_0 : (cX3_readCarrier.data.toList.drop 0).take 40 = [42, 180, 0, 21, 180, 0, 84, 16, 8, 161, 0, 9, 42, 8, 182, 0, 125, 172, 42, 182, 0, 87, 42, 182, 0, 141, 154, 0, 9, 42, 4, 182, 0, 125, 172, 42, 180, 0, 21, 42] := by decide +kernel
theorem dX3_readCarrier_0 : decode cX3_readCarrier 0 = .ok (.aload_n 0, 1) := dk_42 (blk_at bk_cX3_readCarrier_0 0 rfl)
theorem dX3_readCarrier_1 : decode cX3_readCarrier 1 = .ok (.getfield 21, 3) := dq_180 bk_cX3_readCarrier_0 1 rfl rfl
theorem dX3_readCarrier_4 : decode cX3_readCarrier 4 = .ok (.getfield 84, 3) := dq_180 bk_cX3_readCarrier_0 4 rfl rfl
theorem dX3_readCarrier_7 : decode cX3_readCarrier 7 = .ok (.bipush 8, 2) := dq_16 bk_cX3_readCarrier_0 7 rfl (by decide)
theorem dX3_readCarrier_9 : decode cX3_readCarrier 9 = .ok (.if_icmp .lt 9, 3) := dq_161 bk_cX3_readCarrier_0 9 rfl (by decide)
theorem dX3_readCarrier_12 : decode cX3_readCarrier 12 = .ok (.aload_n 0, 1) := dk_42 (blk_at bk_cX3_readCarrier_0 12 rfl)
theorem dX3_readCarrier_13 : decode cX3_readCarrier 13 = .ok (.iconst 5, 1) := dk_8 (blk_at bk_cX3_readCarrier_0 13 rfl)
theorem dX3_readCarrier_14 : decode cX3_readCarrier 14 = .ok (.invokevirtual 125, 3) := dq_182 bk_cX3_readCarrier_0 14 rfl rfl
theorem dX3_readCarrier_17 : decode cX3_readCarrier 17 = .ok (.ireturn, 1) := dk_172 (blk_at bk_cX3_readCarrier_0 17 rfl)
theorem dX3_readCarrier_18 : decode cX3_readCarrier 18 = .ok (.aload_n 0, 1) := dk_42 (blk_at bk_cX3_readCarrier_0 18 rfl)
theorem dX3_readCarrier_19 : decode cX3_readCarrier 19 = .ok (.invokevirtual 87, 3) := dq_182 bk_cX3_readCarrier_0 19 rfl rfl
theorem dX3_readCarrier_22 : decode cX3_readCarrier 22 = .ok (.aload_n 0, 1) := dk_42 (blk_at bk_cX3_readCarrier_0 22 rfl)
theorem dX3_readCarrier_23 : decode cX3_readCarrier 23 = .ok (.invokevirtual 141, 3) := dq_182 bk_cX3_readCarrier_0 23 rfl rfl
theorem dX3_readCarrier_26 : decode cX3_readCarrier 26 = .ok (.ifCond .ne 9, 3) := dq_154 bk_cX3_readCarrier_0 26 rfl (by decide)
theorem dX3_readCarrier_29 : decode cX3_readCarrier 29 = .ok (.aload_n 0, 1) := dk_42 (blk_at bk_cX3_readCarrier_0 29 rfl)
theorem dX3_readCarrier_30 : decode cX3_readCarrier 30 = .ok (.iconst 1, 1) := dk_4 (blk_at bk_cX3_readCarrier_0 30 rfl)
theorem dX3_readCarrier_31 : decode cX3_readCarrier 31 = .ok (.invokevirtual 125, 3) := dq_182 bk_cX3_readCarrier_0 31 rfl rfl
theorem dX3_readCarrier_34 : decode cX3_readCarrier 34 = .ok (.ireturn, 1) := dk_172 (blk_at bk_cX3_readCarrier_0 34 rfl)
theorem dX3_readCarrier_35 : decode cX3_readCarrier 35 = .ok (.aload_n 0, 1) := dk_42 (blk_at bk_cX3_readCarrier_0 35 rfl)
theorem dX3_readCarrier_36 : decode cX3_readCarrier 36 = .ok (.getfield 21, 3) := dq_180 bk_cX3_readCarrier_0 36 rfl rfl
theorem dX3_readCarrier_39 : decode cX3_readCarrier 39 = .ok (.aload_n 0, 1) := dk_42 (blk_at bk_cX3_readCarrier_0 39 rfl)
theorem bk_cX3_readCarrier_40 : (cX3_readCarrier.data.toList.drop 40).take 40 = [180, 0, 35, 42, 180, 0, 42, 42, 180, 0, 45, 182, 0, 144, 2, 159, 0, 9, 42, 6, 182, 0, 125, 172, 42, 180, 0, 21, 42, 180, 0, 35, 42, 180, 0, 42, 42, 180, 0, 45] := by decide +kernel
theorem dX3_readCarrier_40 : decode cX3_readCarrier 40 = .ok (.getfield 35, 3) := dq_180 bk_cX3_readCarrier_40 0 rfl rfl
theorem dX3_readCarrier_43 : decode cX3_readCarrier 43 = .ok (.aload_n 0, 1) := dk_42 (blk_at bk_cX3_readCarrier_40 3 rfl)
theorem dX3_readCarrier_44 : decode cX3_readCarrier 44 = .ok (.getfield 42, 3) := dq_180 bk_cX3_readCarrier_40 4 rfl rfl
theorem dX3_readCarrier_47 : decode cX3_readCarrier 47 = .ok (.aload_n 0, 1) := dk_42 (blk_at bk_cX3_readCarrier_40 7 rfl)
theorem dX3_readCarrier_48 : decode cX3_readCarrier 48 = .ok (.getfield 45, 3) := dq_180 bk_cX3_readCarrier_40 8 rfl rfl
theorem dX3_readCarrier_51 : decode cX3_readCarrier 51 = .ok (.invokevirtual 144, 3) := dq_182 bk_cX3_readCarrier_40 11 rfl rfl
theorem dX3_readCarrier_54 : decode cX3_readCarrier 54 = .ok (.iconst (-1), 1) := dk_2 (blk_at bk_cX3_readCarrier_40 14 rfl)
theorem dX3_readCarrier_55 : decode cX3_readCarrier 55 = .ok (.if_icmp .eq 9, 3) := dq_159 bk_cX3_readCarrier_40 15 rfl (by decide)
theorem dX3_readCarrier_58 : decode cX3_readCarrier 58 = .ok (.aload_n 0, 1) := dk_42 (blk_at bk_cX3_readCarrier_40 18 rfl)
theorem dX3_readCarrier_59 : decode cX3_readCarrier 59 = .ok (.iconst 3, 1) := dk_6 (blk_at bk_cX3_readCarrier_40 19 rfl)
theorem dX3_readCarrier_60 : decode cX3_readCarrier 60 = .ok (.invokevirtual 125, 3) := dq_182 bk_cX3_readCarrier_40 20 rfl rfl
theorem dX3_readCarrier_63 : decode cX3_readCarrier 63 = .ok (.ireturn, 1) := dk_172 (blk_at bk_cX3_readCarrier_40 23 rfl)
theorem dX3_readCarrier_64 : decode cX3_readCarrier 64 = .ok (.aload_n 0, 1) := dk_42 (blk_at bk_cX3_readCarrier_40 24 rfl)
theorem dX3_readCarrier_65 : decode cX3_readCarrier 65 = .ok (.getfield 21, 3) := dq_180 bk_cX3_readCarrier_40 25 rfl rfl
theorem dX3_readCarrier_68 : decode cX3_readCarrier 68 = .ok (.aload_n 0, 1) := dk_42 (blk_at bk_cX3_readCarrier_40 28 rfl)
theorem dX3_readCarrier_69 : decode cX3_readCarrier 69 = .ok (.getfield 35, 3) := dq_180 bk_cX3_readCarrier_40 29 rfl rfl
theorem dX3_readCarrier_72 : decode cX3_readCarrier 72 = .ok (.aload_n 0, 1) := dk_42 (blk_at bk_cX3_readCarrier_40 32 rfl)
theorem dX3_readCarrier_73 : decode cX3_readCarrier 73 = .ok (.getfield 42, 3) := dq_180 bk_cX3_readCarrier_40 33 rfl rfl
theorem dX3_readCarrier_76 : decode cX3_readCarrier 76 = .ok (.aload_n 0, 1) := dk_42 (blk_at bk_cX3_readCarrier_40 36 rfl)
theorem dX3_readCarrier_77 : decode cX3_readCarrier 77 = .ok (.getfield 45, 3) := dq_180 bk_cX3_readCarrier_40 37 rfl rfl
theorem bk_cX3_readCarrier_80 : (cX3_readCarrier.data.toList.drop 80).take 14 = [182, 0, 148, 42, 182, 0, 87, 42, 16, 59, 182, 0, 106, 172] := by decide +kernel
theorem dX3_readCarrier_80 : decode cX3_readCarrier 80 = .ok (.invokevirtual 148, 3) := dq_182 bk_cX3_readCarrier_80 0 rfl rfl
theorem dX3_readCarrier_83 : decode cX3_readCarrier 83 = .ok (.aload_n 0, 1) := dk_42 (blk_at bk_cX3_readCarrier_80 3 rfl)
theorem dX3_readCarrier_84 : decode cX3_readCarrier 84 = .ok (.invokevirtual 87, 3) := dq_182 bk_cX3_readCarrier_80 4 rfl rfl
theorem dX3_readCarrier_87 : decode cX3_readCarrier 87 = .ok (.aload_n 0, 1) := dk_42 (blk_at bk_cX3_readCarrier_80 7 rfl)
theorem dX3_readCarrier_88 : decode cX3_readCarrier 88 = .ok (.bipush 59, 2) := dq_16 bk_cX3_readCarrier_80 8 rfl (by decide)
theorem dX3_readCarrier_90 : decode cX3_readCarrier 90 = .ok (.invokevirtual 106, 3) := dq_182 bk_cX3_readCarrier_80 10 rfl rfl
theorem dX3_readCarrier_93 : decode cX3_readCarrier 93 = .ok (.ireturn, 1) := dk_172 (blk_at bk_cX3_readCarrier_80 13 rfl)
theorem bk_cX3_readSeries_0 : (cX3_readSeries.data.toList.drop 0).take 39 = [42, 180, 0, 12, 180, 0, 128, 16, 24, 161, 0, 9, 42, 8, 182, 0, 125, 172, 42, 182, 0, 87, 42, 182, 0, 152, 153, 0, 10, 42, 182, 0, 155, 154, 0, 5, 3, 172, 42] := by decide +kernel
theorem dX3_readSeries_0 : decode cX3_readSeries 0 = .ok (.aload_n 0, 1) := dk_42 (blk_at bk_cX3_readSeries_0 0 rfl)
theorem dX3_readSeries_1 : decode cX3_readSeries 1 = .ok (.getfield 12, 3) := dq_180 bk_cX3_readSeries_0 1 rfl rfl
theorem dX3_readSeries_4 : decode cX3_readSeries 4 = .ok (.getfield 128, 3) := dq_180 bk_cX3_readSeries_0 4 rfl rfl
theorem dX3_readSeries_7 : decode cX3_readSeries 7 = .ok (.bipush 24, 2) := dq_16 bk_cX3_readSeries_0 7 rfl (by decide)
theorem dX3_readSeries_9 : decode cX3_readSeries 9 = .ok (.if_icmp .lt 9, 3) := dq_161 bk_cX3_readSeries_0 9 rfl (by decide)
theorem dX3_readSeries_12 : decode cX3_readSeries 12 = .ok (.aload_n 0, 1) := dk_42 (blk_at bk_cX3_readSeries_0 12 rfl)
theorem dX3_readSeries_13 : decode cX3_readSeries 13 = .ok (.iconst 5, 1) := dk_8 (blk_at bk_cX3_readSeries_0 13 rfl)
theorem dX3_readSeries_14 : decode cX3_readSeries 14 = .ok (.invokevirtual 125, 3) := dq_182 bk_cX3_readSeries_0 14 rfl rfl
theorem dX3_readSeries_17 : decode cX3_readSeries 17 = .ok (.ireturn, 1) := dk_172 (blk_at bk_cX3_readSeries_0 17 rfl)
theorem dX3_readSeries_18 : decode cX3_readSeries 18 = .ok (.aload_n 0, 1) := dk_42 (blk_at bk_cX3_readSeries_0 18 rfl)
theorem dX3_readSeries_19 : decode cX3_readSeries 19 = .ok (.invokevirtual 87, 3) := dq_182 bk_cX3_readSeries_0 19 rfl rfl
theorem dX3_readSeries_22 : decode cX3_readSeries 22 = .ok (.aload_n 0, 1) := dk_42 (blk_at bk_cX3_readSeries_0 22 rfl)
theorem dX3_readSeries_23 : decode cX3_readSeries 23 = .ok (.invokevirtual 152, 3) := dq_182 bk_cX3_readSeries_0 23 rfl rfl
theorem dX3_readSeries_26 : decode cX3_readSeries 26 = .ok (.ifCond .eq 10, 3) := dq_153 bk_cX3_readSeries_0 26 rfl (by decide)
theorem dX3_readSeries_29 : decode cX3_readSeries 29 = .ok (.aload_n 0, 1) := dk_42 (blk_at bk_cX3_readSeries_0 29 rfl)
theorem dX3_readSeries_30 : decode cX3_readSeries 30 = .ok (.invokevirtual 155, 3) := dq_182 bk_cX3_readSeries_0 30 rfl rfl
theorem dX3_readSeries_33 : decode cX3_readSeries 33 = .ok (.ifCond .ne 5, 3) := dq_154 bk_cX3_readSeries_0 33 rfl (by decide)
theorem dX3_readSeries_36 : decode cX3_readSeries 36 = .ok (.iconst 0, 1) := dk_3 (blk_at bk_cX3_readSeries_0 36 rfl)
theorem dX3_readSeries_37 : decode cX3_readSeries 37 = .ok (.ireturn, 1) := dk_172 (blk_at bk_cX3_readSeries_0 37 rfl)
theorem dX3_readSeries_38 : decode cX3_readSeries 38 = .ok (.aload_n 0, 1) := dk_42 (blk_at bk_cX3_readSeries_0 38 rfl)
theorem bk_cX3_readSeries_39 : (cX3_readSeries.data.toList.drop 39).take 38 = [16, 14, 182, 0, 110, 60, 27, 153, 0, 7, 42, 182, 0, 87, 42, 16, 59, 182, 0, 158, 154, 0, 9, 42, 4, 182, 0, 125, 172, 42, 180, 0, 12, 42, 180, 0, 60, 42] := by decide +kernel
theorem dX3_readSeries_39 : decode cX3_readSeries 39 = .ok (.bipush 14, 2) := dq_16 bk_cX3_readSeries_39 0 rfl (by decide)
theorem dX3_readSeries_41 : decode cX3_readSeries 41 = .ok (.invokevirtual 110, 3) := dq_182 bk_cX3_readSeries_39 2 rfl rfl
theorem dX3_readSeries_44 : decode cX3_readSeries 44 = .ok (.istore_n 1, 1) := dk_60 (blk_at bk_cX3_readSeries_39 5 rfl)
theorem dX3_readSeries_45 : decode cX3_readSeries 45 = .ok (.iload_n 1, 1) := dk_27 (blk_at bk_cX3_readSeries_39 6 rfl)
theorem dX3_readSeries_46 : decode cX3_readSeries 46 = .ok (.ifCond .eq 7, 3) := dq_153 bk_cX3_readSeries_39 7 rfl (by decide)
theorem dX3_readSeries_49 : decode cX3_readSeries 49 = .ok (.aload_n 0, 1) := dk_42 (blk_at bk_cX3_readSeries_39 10 rfl)
theorem dX3_readSeries_50 : decode cX3_readSeries 50 = .ok (.invokevirtual 87, 3) := dq_182 bk_cX3_readSeries_39 11 rfl rfl
theorem dX3_readSeries_53 : decode cX3_readSeries 53 = .ok (.aload_n 0, 1) := dk_42 (blk_at bk_cX3_readSeries_39 14 rfl)
theorem dX3_readSeries_54 : decode cX3_readSeries 54 = .ok (.bipush 59, 2) := dq_16 bk_cX3_readSeries_39 15 rfl (by decide)
theorem dX3_readSeries_56 : decode cX3_readSeries 56 = .ok (.invokevirtual 158, 3) := dq_182 bk_cX3_readSeries_39 17 rfl rfl
theorem dX3_readSeries_59 : decode cX3_readSeries 59 = .ok (.ifCond .ne 9, 3) := dq_154 bk_cX3_readSeries_39 20 rfl (by decide)
theorem dX3_readSeries_62 : decode cX3_readSeries 62 = .ok (.aload_n 0, 1) := dk_42 (blk_at bk_cX3_readSeries_39 23 rfl)
theorem dX3_readSeries_63 : decode cX3_readSeries 63 = .ok (.iconst 1, 1) := dk_4 (blk_at bk_cX3_readSeries_39 24 rfl)
theorem dX3_readSeries_64 : decode cX3_readSeries 64 = .ok (.invokevirtual 125, 3) := dq_182 bk_cX3_readSeries_39 25 rfl rfl
theorem dX3_readSeries_67 : decode cX3_readSeries 67 = .ok (.ireturn, 1) := dk_172 (blk_at bk_cX3_readSeries_39 28 rfl)
theorem dX3_readSeries_68 : decode cX3_readSeries 68 = .ok (.aload_n 0, 1) := dk_42 (blk_at bk_cX3_readSeries_39 29 rfl)
theorem dX3_readSeries_69 : decode cX3_readSeries 69 = .ok (.getfield 12, 3) := dq_180 bk_cX3_readSeries_39 30 rfl rfl
theorem dX3_readSeries_72 : decode cX3_readSeries 72 = .ok (.aload_n 0, 1) := dk_42 (blk_at bk_cX3_readSeries_39 33 rfl)
theorem dX3_readSeries_73 : decode cX3_readSeries 73 = .ok (.getfield 60, 3) := dq_180 bk_cX3_readSeries_39 34 rfl rfl
theorem dX3_readSeries_76 : decode cX3_readSeries 76 = .ok (.aload_n 0, 1) := dk_42 (blk_at bk_cX3_readSeries_39 37 rfl)
theorem bk_cX3_readSeries_77 : (cX3_readSeries.data.toList.drop 77).take 40 = [180, 0, 63, 42, 180, 0, 66, 42, 180, 0, 69, 42, 180, 0, 72, 184, 0, 161, 3, 182, 0, 164, 154, 0, 10, 42, 16, 6, 182, 0, 125, 172, 42, 180, 0, 12, 182, 0, 168, 77] := by decide +kernel
theorem dX3_readSeries_77 : decode cX3_readSeries 77 = .ok (.getfield 63, 3) := dq_180 bk_cX3_readSeries_77 0 rfl rfl
theorem dX3_readSeries_80 : decode cX3_readSeries 80 = .ok (.aload_n 0, 1) := dk_42 (blk_at bk_cX3_readSeries_77 3 rfl)
theorem dX3_readSeries_81 : decode cX3_readSeries 81 = .ok (.getfield 66, 3) := dq_180 bk_cX3_readSeries_77 4 rfl rfl
theorem dX3_readSeries_84 : decode cX3_readSeries 84 = .ok (.aload_n 0, 1) := dk_42 (blk_at bk_cX3_readSeries_77 7 rfl)
theorem dX3_readSeries_85 : decode cX3_readSeries 85 = .ok (.getfield 69, 3) := dq_180 bk_cX3_readSeries_77 8 rfl rfl
theorem dX3_readSeries_88 : decode cX3_readSeries 88 = .ok (.aload_n 0, 1) := dk_42 (blk_at bk_cX3_readSeries_77 11 rfl)
theorem dX3_readSeries_89 : decode cX3_readSeries 89 = .ok (.getfield 72, 3) := dq_180 bk_cX3_readSeries_77 12 rfl rfl
theorem dX3_readSeries_92 : decode cX3_readSeries 92 = .ok (.invokestatic 161, 3) := dq_184 bk_cX3_readSeries_77 15 rfl rfl
theorem dX3_readSeries_95 : decode cX3_readSeries 95 = .ok (.iconst 0, 1) := dk_3 (blk_at bk_cX3_readSeries_77 18 rfl)
theorem dX3_readSeries_96 : decode cX3_readSeries 96 = .ok (.invokevirtual 164, 3) := dq_182 bk_cX3_readSeries_77 19 rfl rfl
theorem dX3_readSeries_99 : decode cX3_readSeries 99 = .ok (.ifCond .ne 10, 3) := dq_154 bk_cX3_readSeries_77 22 rfl (by decide)
theorem dX3_readSeries_102 : decode cX3_readSeries 102 = .ok (.aload_n 0, 1) := dk_42 (blk_at bk_cX3_readSeries_77 25 rfl)
theorem dX3_readSeries_103 : decode cX3_readSeries 103 = .ok (.bipush 6, 2) := dq_16 bk_cX3_readSeries_77 26 rfl (by decide)
theorem dX3_readSeries_105 : decode cX3_readSeries 105 = .ok (.invokevirtual 125, 3) := dq_182 bk_cX3_readSeries_77 28 rfl rfl
theorem dX3_readSeries_108 : decode cX3_readSeries 108 = .ok (.ireturn, 1) := dk_172 (blk_at bk_cX3_readSeries_77 31 rfl)
theorem dX3_readSeries_109 : decode cX3_readSeries 109 = .ok (.aload_n 0, 1) := dk_42 (blk_at bk_cX3_readSeries_77 32 rfl)
theorem dX3_readSeries_110 : decode cX3_readSeries 110 = .ok (.getfield 12, 3) := dq_180 bk_cX3_readSeries_77 33 rfl rfl
theorem dX3_readSeries_113 : decode cX3_readSeries 113 = .ok (.invokevirtual 168, 3) := dq_182 bk_cX3_readSeries_77 36 rfl rfl
theorem dX3_readSeries_116 : decode cX3_readSeries 116 = .ok (.astore_n 2, 1) := dk_77 (blk_at bk_cX3_readSeries_77 39 rfl)
theorem bk_cX3_readSeries_117 : (cX3_readSeries.data.toList.drop 117).take 38 = [44, 42, 180, 0, 57, 42, 180, 0, 60, 42, 180, 0, 63, 42, 180, 0, 66, 182, 0, 172, 44, 42, 180, 0, 69, 42, 180, 0, 72, 182, 0, 178, 44, 27, 181, 0, 182, 42] := by decide +kernel
theorem dX3_readSeries_117 : decode cX3_readSeries 117 = .ok (.aload_n 2, 1) := dk_44 (blk_at bk_cX3_readSeries_117 0 rfl)
theorem dX3_readSeries_118 : decode cX3_readSeries 118 = .ok (.aload_n 0, 1) := dk_42 (blk_at bk_cX3_readSeries_117 1 rfl)
theorem dX3_readSeries_119 : decode cX3_readSeries 119 = .ok (.getfield 57, 3) := dq_180 bk_cX3_readSeries_117 2 rfl rfl
theorem dX3_readSeries_122 : decode cX3_readSeries 122 = .ok (.aload_n 0, 1) := dk_42 (blk_at bk_cX3_readSeries_117 5 rfl)
theorem dX3_readSeries_123 : decode cX3_readSeries 123 = .ok (.getfield 60, 3) := dq_180 bk_cX3_readSeries_117 6 rfl rfl
theorem dX3_readSeries_126 : decode cX3_readSeries 126 = .ok (.aload_n 0, 1) := dk_42 (blk_at bk_cX3_readSeries_117 9 rfl)
theorem dX3_readSeries_127 : decode cX3_readSeries 127 = .ok (.getfield 63, 3) := dq_180 bk_cX3_readSeries_117 10 rfl rfl
theorem dX3_readSeries_130 : decode cX3_readSeries 130 = .ok (.aload_n 0, 1) := dk_42 (blk_at bk_cX3_readSeries_117 13 rfl)
theorem dX3_readSeries_131 : decode cX3_readSeries 131 = .ok (.getfield 66, 3) := dq_180 bk_cX3_readSeries_117 14 rfl rfl
theorem dX3_readSeries_134 : decode cX3_readSeries 134 = .ok (.invokevirtual 172, 3) := dq_182 bk_cX3_readSeries_117 17 rfl rfl
theorem dX3_readSeries_137 : decode cX3_readSeries 137 = .ok (.aload_n 2, 1) := dk_44 (blk_at bk_cX3_readSeries_117 20 rfl)
theorem dX3_readSeries_138 : decode cX3_readSeries 138 = .ok (.aload_n 0, 1) := dk_42 (blk_at bk_cX3_readSeries_117 21 rfl)
theorem dX3_readSeries_139 : decode cX3_readSeries 139 = .ok (.getfield 69, 3) := dq_180 bk_cX3_readSeries_117 22 rfl rfl
theorem dX3_readSeries_142 : decode cX3_readSeries 142 = .ok (.aload_n 0, 1) := dk_42 (blk_at bk_cX3_readSeries_117 25 rfl)
theorem dX3_readSeries_143 : decode cX3_readSeries 143 = .ok (.getfield 72, 3) := dq_180 bk_cX3_readSeries_117 26 rfl rfl
theorem dX3_readSeries_146 : decode cX3_readSeries 146 = .ok (.invokevirtual 178, 3) := dq_182 bk_cX3_readSeries_117 29 rfl rfl
theorem dX3_readSeries_149 : decode cX3_readSeries 149 = .ok (.aload_n 2, 1) := dk_44 (blk_at bk_cX3_readSeries_117 32 rfl)
theorem dX3_readSeries_150 : decode cX3_readSeries 150 = .ok (.iload_n 1, 1) := dk_27 (blk_at bk_cX3_readSeries_117 33 rfl)
theorem dX3_readSeries_151 : decode cX3_readSeries 151 = .ok (.putfield 182, 3) := dq_181 bk_cX3_readSeries_117 34 rfl rfl
theorem dX3_readSeries_154 : decode cX3_readSeries 154 = .ok (.aload_n 0, 1) := dk_42 (blk_at bk_cX3_readSeries_117 37 rfl)
theorem bk_cX3_readSeries_155 : (cX3_readSeries.data.toList.drop 155).take 5 = [182, 0, 87, 4, 172] := by decide +kernel
theorem dX3_readSeries_155 : decode cX3_readSeries 155 = .ok (.invokevirtual 87, 3) := dq_182 bk_cX3_readSeries_155 0 rfl rfl
theorem dX3_readSeries_158 : decode cX3_readSeries 158 = .ok (.iconst 1, 1) := dk_4 (blk_at bk_cX3_readSeries_155 3 rfl)
theorem dX3_readSeries_159 : decode cX3_readSeries 159 = .ok (.ireturn, 1) := dk_172 (blk_at bk_cX3_readSeries_155 4 rfl)
theorem bk_cX3_readAsk_0 : (cX3_readAsk.data.toList.drop 0).take 40 = [42, 180, 0, 12, 180, 0, 186, 16, 24, 161, 0, 9, 42, 8, 182, 0, 125, 172, 42, 182, 0, 87, 42, 182, 0, 152, 153, 0, 10, 42, 182, 0, 155, 154, 0, 5, 3, 172, 3, 60] := by decide +kernel
theorem dX3_readAsk_0 : decode cX3_readAsk 0 = .ok (.aload_n 0, 1) := dk_42 (blk_at bk_cX3_readAsk_0 0 rfl)
theorem dX3_readAsk_1 : decode cX3_readAsk 1 = .ok (.getfield 12, 3) := dq_180 bk_cX3_readAsk_0 1 rfl rfl
theorem dX3_readAsk_4 : decode cX3_readAsk 4 = .ok (.getfield 186, 3) := dq_180 bk_cX3_readAsk_0 4 rfl rfl
theorem dX3_readAsk_7 : decode cX3_readAsk 7 = .ok (.bipush 24, 2) := dq_16 bk_cX3_readAsk_0 7 rfl (by decide)
theorem dX3_readAsk_9 : decode cX3_readAsk 9 = .ok (.if_icmp .lt 9, 3) := dq_161 bk_cX3_readAsk_0 9 rfl (by decide)
theorem dX3_readAsk_12 : decode cX3_readAsk 12 = .ok (.aload_n 0, 1) := dk_42 (blk_at bk_cX3_readAsk_0 12 rfl)
theorem dX3_readAsk_13 : decode cX3_readAsk 13 = .ok (.iconst 5, 1) := dk_8 (blk_at bk_cX3_readAsk_0 13 rfl)
theorem dX3_readAsk_14 : decode cX3_readAsk 14 = .ok (.invokevirtual 125, 3) := dq_182 bk_cX3_readAsk_0 14 rfl rfl
theorem dX3_readAsk_17 : decode cX3_readAsk 17 = .ok (.ireturn, 1) := dk_172 (blk_at bk_cX3_readAsk_0 17 rfl)
theorem dX3_readAsk_18 : decode cX3_readAsk 18 = .ok (.aload_n 0, 1) := dk_42 (blk_at bk_cX3_readAsk_0 18 rfl)
theorem dX3_readAsk_19 : decode cX3_readAsk 19 = .ok (.invokevirtual 87, 3) := dq_182 bk_cX3_readAsk_0 19 rfl rfl
theorem dX3_readAsk_22 : decode cX3_readAsk 22 = .ok (.aload_n 0, 1) := dk_42 (blk_at bk_cX3_readAsk_0 22 rfl)
theorem dX3_readAsk_23 : decode cX3_readAsk 23 = .ok (.invokevirtual 152, 3) := dq_182 bk_cX3_readAsk_0 23 rfl rfl
theorem dX3_readAsk_26 : decode cX3_readAsk 26 = .ok (.ifCond .eq 10, 3) := dq_153 bk_cX3_readAsk_0 26 rfl (by decide)
theorem dX3_readAsk_29 : decode cX3_readAsk 29 = .ok (.aload_n 0, 1) := dk_42 (blk_at bk_cX3_readAsk_0 29 rfl)
theorem dX3_readAsk_30 : decode cX3_readAsk 30 = .ok (.invokevirtual 155, 3) := dq_182 bk_cX3_readAsk_0 30 rfl rfl
theorem dX3_readAsk_33 : decode cX3_readAsk 33 = .ok (.ifCond .ne 5, 3) := dq_154 bk_cX3_readAsk_0 33 rfl (by decide)
theorem dX3_readAsk_36 : decode cX3_readAsk 36 = .ok (.iconst 0, 1) := dk_3 (blk_at bk_cX3_readAsk_0 36 rfl)
theorem dX3_readAsk_37 : decode cX3_readAsk 37 = .ok (.ireturn, 1) := dk_172 (blk_at bk_cX3_readAsk_0 37 rfl)
theorem dX3_readAsk_38 : decode cX3_readAsk 38 = .ok (.iconst 0, 1) := dk_3 (blk_at bk_cX3_readAsk_0 38 rfl)
theorem dX3_readAsk_39 : decode cX3_readAsk 39 = .ok (.istore_n 1, 1) := dk_60 (blk_at bk_cX3_readAsk_0 39 rfl)
theorem bk_cX3_readAsk_40 : (cX3_readAsk.data.toList.drop 40).take 38 = [42, 16, 15, 182, 0, 110, 153, 0, 28, 42, 182, 0, 87, 42, 3, 16, 9, 182, 0, 101, 154, 0, 5, 3, 172, 42, 180, 0, 51, 60, 42, 182, 0, 87, 42, 180, 0, 12] := by decide +kernel
theorem dX3_readAsk_40 : decode cX3_readAsk 40 = .ok (.aload_n 0, 1) := dk_42 (blk_at bk_cX3_readAsk_40 0 rfl)
theorem dX3_readAsk_41 : decode cX3_readAsk 41 = .ok (.bipush 15, 2) := dq_16 bk_cX3_readAsk_40 1 rfl (by decide)
theorem dX3_readAsk_43 : decode cX3_readAsk 43 = .ok (.invokevirtual 110, 3) := dq_182 bk_cX3_readAsk_40 3 rfl rfl
theorem dX3_readAsk_46 : decode cX3_readAsk 46 = .ok (.ifCond .eq 28, 3) := dq_153 bk_cX3_readAsk_40 6 rfl (by decide)
theorem dX3_readAsk_49 : decode cX3_readAsk 49 = .ok (.aload_n 0, 1) := dk_42 (blk_at bk_cX3_readAsk_40 9 rfl)
theorem dX3_readAsk_50 : decode cX3_readAsk 50 = .ok (.invokevirtual 87, 3) := dq_182 bk_cX3_readAsk_40 10 rfl rfl
theorem dX3_readAsk_53 : decode cX3_readAsk 53 = .ok (.aload_n 0, 1) := dk_42 (blk_at bk_cX3_readAsk_40 13 rfl)
theorem dX3_readAsk_54 : decode cX3_readAsk 54 = .ok (.iconst 0, 1) := dk_3 (blk_at bk_cX3_readAsk_40 14 rfl)
theorem dX3_readAsk_55 : decode cX3_readAsk 55 = .ok (.bipush 9, 2) := dq_16 bk_cX3_readAsk_40 15 rfl (by decide)
theorem dX3_readAsk_57 : decode cX3_readAsk 57 = .ok (.invokevirtual 101, 3) := dq_182 bk_cX3_readAsk_40 17 rfl rfl
theorem dX3_readAsk_60 : decode cX3_readAsk 60 = .ok (.ifCond .ne 5, 3) := dq_154 bk_cX3_readAsk_40 20 rfl (by decide)
theorem dX3_readAsk_63 : decode cX3_readAsk 63 = .ok (.iconst 0, 1) := dk_3 (blk_at bk_cX3_readAsk_40 23 rfl)
theorem dX3_readAsk_64 : decode cX3_readAsk 64 = .ok (.ireturn, 1) := dk_172 (blk_at bk_cX3_readAsk_40 24 rfl)
theorem dX3_readAsk_65 : decode cX3_readAsk 65 = .ok (.aload_n 0, 1) := dk_42 (blk_at bk_cX3_readAsk_40 25 rfl)
theorem dX3_readAsk_66 : decode cX3_readAsk 66 = .ok (.getfield 51, 3) := dq_180 bk_cX3_readAsk_40 26 rfl rfl
theorem dX3_readAsk_69 : decode cX3_readAsk 69 = .ok (.istore_n 1, 1) := dk_60 (blk_at bk_cX3_readAsk_40 29 rfl)
theorem dX3_readAsk_70 : decode cX3_readAsk 70 = .ok (.aload_n 0, 1) := dk_42 (blk_at bk_cX3_readAsk_40 30 rfl)
theorem dX3_readAsk_71 : decode cX3_readAsk 71 = .ok (.invokevirtual 87, 3) := dq_182 bk_cX3_readAsk_40 31 rfl rfl
theorem dX3_readAsk_74 : decode cX3_readAsk 74 = .ok (.aload_n 0, 1) := dk_42 (blk_at bk_cX3_readAsk_40 34 rfl)
theorem dX3_readAsk_75 : decode cX3_readAsk 75 = .ok (.getfield 12, 3) := dq_180 bk_cX3_readAsk_40 35 rfl rfl
theorem bk_cX3_readAsk_78 : (cX3_readAsk.data.toList.drop 78).take 40 = [182, 0, 189, 77, 44, 42, 180, 0, 57, 42, 180, 0, 60, 42, 180, 0, 63, 42, 180, 0, 66, 182, 0, 193, 44, 42, 180, 0, 69, 42, 180, 0, 72, 27, 182, 0, 196, 42, 16, 59] := by decide +kernel
theorem dX3_readAsk_78 : decode cX3_readAsk 78 = .ok (.invokevirtual 189, 3) := dq_182 bk_cX3_readAsk_78 0 rfl rfl
theorem dX3_readAsk_81 : decode cX3_readAsk 81 = .ok (.astore_n 2, 1) := dk_77 (blk_at bk_cX3_readAsk_78 3 rfl)
theorem dX3_readAsk_82 : decode cX3_readAsk 82 = .ok (.aload_n 2, 1) := dk_44 (blk_at bk_cX3_readAsk_78 4 rfl)
theorem dX3_readAsk_83 : decode cX3_readAsk 83 = .ok (.aload_n 0, 1) := dk_42 (blk_at bk_cX3_readAsk_78 5 rfl)
theorem dX3_readAsk_84 : decode cX3_readAsk 84 = .ok (.getfield 57, 3) := dq_180 bk_cX3_readAsk_78 6 rfl rfl
theorem dX3_readAsk_87 : decode cX3_readAsk 87 = .ok (.aload_n 0, 1) := dk_42 (blk_at bk_cX3_readAsk_78 9 rfl)
theorem dX3_readAsk_88 : decode cX3_readAsk 88 = .ok (.getfield 60, 3) := dq_180 bk_cX3_readAsk_78 10 rfl rfl
theorem dX3_readAsk_91 : decode cX3_readAsk 91 = .ok (.aload_n 0, 1) := dk_42 (blk_at bk_cX3_readAsk_78 13 rfl)
theorem dX3_readAsk_92 : decode cX3_readAsk 92 = .ok (.getfield 63, 3) := dq_180 bk_cX3_readAsk_78 14 rfl rfl
theorem dX3_readAsk_95 : decode cX3_readAsk 95 = .ok (.aload_n 0, 1) := dk_42 (blk_at bk_cX3_readAsk_78 17 rfl)
theorem dX3_readAsk_96 : decode cX3_readAsk 96 = .ok (.getfield 66, 3) := dq_180 bk_cX3_readAsk_78 18 rfl rfl
theorem dX3_readAsk_99 : decode cX3_readAsk 99 = .ok (.invokevirtual 193, 3) := dq_182 bk_cX3_readAsk_78 21 rfl rfl
theorem dX3_readAsk_102 : decode cX3_readAsk 102 = .ok (.aload_n 2, 1) := dk_44 (blk_at bk_cX3_readAsk_78 24 rfl)
theorem dX3_readAsk_103 : decode cX3_readAsk 103 = .ok (.aload_n 0, 1) := dk_42 (blk_at bk_cX3_readAsk_78 25 rfl)
theorem dX3_readAsk_104 : decode cX3_readAsk 104 = .ok (.getfield 69, 3) := dq_180 bk_cX3_readAsk_78 26 rfl rfl
theorem dX3_readAsk_107 : decode cX3_readAsk 107 = .ok (.aload_n 0, 1) := dk_42 (blk_at bk_cX3_readAsk_78 29 rfl)
theorem dX3_readAsk_108 : decode cX3_readAsk 108 = .ok (.getfield 72, 3) := dq_180 bk_cX3_readAsk_78 30 rfl rfl
theorem dX3_readAsk_111 : decode cX3_readAsk 111 = .ok (.iload_n 1, 1) := dk_27 (blk_at bk_cX3_readAsk_78 33 rfl)
theorem dX3_readAsk_112 : decode cX3_readAsk 112 = .ok (.invokevirtual 196, 3) := dq_182 bk_cX3_readAsk_78 34 rfl rfl
theorem dX3_readAsk_115 : decode cX3_readAsk 115 = .ok (.aload_n 0, 1) := dk_42 (blk_at bk_cX3_readAsk_78 37 rfl)
theorem dX3_readAsk_116 : decode cX3_readAsk 116 = .ok (.bipush 59, 2) := dq_16 bk_cX3_readAsk_78 38 rfl (by decide)
theorem bk_cX3_readAsk_118 : (cX3_readAsk.data.toList.drop 118).take 4 = [182, 0, 106, 172] := by decide +kernel
theorem dX3_readAsk_118 : decode cX3_readAsk 118 = .ok (.invokevirtual 106, 3) := dq_182 bk_cX3_readAsk_118 0 rfl rfl
theorem dX3_readAsk_121 : decode cX3_readAsk 121 = .ok (.ireturn, 1) := dk_172 (blk_at bk_cX3_readAsk_118 3 rfl)
theorem bk_cX3_readPlace_0 : (cX3_readPlace.data.toList.drop 0).take 40 = [42, 182, 0, 141, 154, 0, 9, 42, 4, 182, 0, 125, 172, 42, 42, 180, 0, 21, 42, 180, 0, 35, 42, 180, 0, 42, 42, 180, 0, 45, 182, 0, 144, 181, 0, 57, 42, 180, 0, 57] := by decide +kernel
theorem dX3_readPlace_0 : decode cX3_readPlace 0 = .ok (.aload_n 0, 1) := dk_42 (blk_at bk_cX3_readPlace_0 0 rfl)
theorem dX3_readPlace_1 : decode cX3_readPlace 1 = .ok (.invokevirtual 141, 3) := dq_182 bk_cX3_readPlace_0 1 rfl rfl
theorem dX3_readPlace_4 : decode cX3_readPlace 4 = .ok (.ifCond .ne 9, 3) := dq_154 bk_cX3_readPlace_0 4 rfl (by decide)
theorem dX3_readPlace_7 : decode cX3_readPlace 7 = .ok (.aload_n 0, 1) := dk_42 (blk_at bk_cX3_readPlace_0 7 rfl)
theorem dX3_readPlace_8 : decode cX3_readPlace 8 = .ok (.iconst 1, 1) := dk_4 (blk_at bk_cX3_readPlace_0 8 rfl)
theorem dX3_readPlace_9 : decode cX3_readPlace 9 = .ok (.invokevirtual 125, 3) := dq_182 bk_cX3_readPlace_0 9 rfl rfl
theorem dX3_readPlace_12 : decode cX3_readPlace 12 = .ok (.ireturn, 1) := dk_172 (blk_at bk_cX3_readPlace_0 12 rfl)
theorem dX3_readPlace_13 : decode cX3_readPlace 13 = .ok (.aload_n 0, 1) := dk_42 (blk_at bk_cX3_readPlace_0 13 rfl)
theorem dX3_readPlace_14 : decode cX3_readPlace 14 = .ok (.aload_n 0, 1) := dk_42 (blk_at bk_cX3_readPlace_0 14 rfl)
theorem dX3_readPlace_15 : decode cX3_readPlace 15 = .ok (.getfield 21, 3) := dq_180 bk_cX3_readPlace_0 15 rfl rfl
theorem dX3_readPlace_18 : decode cX3_readPlace 18 = .ok (.aload_n 0, 1) := dk_42 (blk_at bk_cX3_readPlace_0 18 rfl)
theorem dX3_readPlace_19 : decode cX3_readPlace 19 = .ok (.getfield 35, 3) := dq_180 bk_cX3_readPlace_0 19 rfl rfl
theorem dX3_readPlace_22 : decode cX3_readPlace 22 = .ok (.aload_n 0, 1) := dk_42 (blk_at bk_cX3_readPlace_0 22 rfl)
theorem dX3_readPlace_23 : decode cX3_readPlace 23 = .ok (.getfield 42, 3) := dq_180 bk_cX3_readPlace_0 23 rfl rfl
theorem dX3_readPlace_26 : decode cX3_readPlace 26 = .ok (.aload_n 0, 1) := dk_42 (blk_at bk_cX3_readPlace_0 26 rfl)
theorem dX3_readPlace_27 : decode cX3_readPlace 27 = .ok (.getfield 45, 3) := dq_180 bk_cX3_readPlace_0 27 rfl rfl
theorem dX3_readPlace_30 : decode cX3_readPlace 30 = .ok (.invokevirtual 144, 3) := dq_182 bk_cX3_readPlace_0 30 rfl rfl
theorem dX3_readPlace_33 : decode cX3_readPlace 33 = .ok (.putfield 57, 3) := dq_181 bk_cX3_readPlace_0 33 rfl rfl
theorem dX3_readPlace_36 : decode cX3_readPlace 36 = .ok (.aload_n 0, 1) := dk_42 (blk_at bk_cX3_readPlace_0 36 rfl)
theorem dX3_readPlace_37 : decode cX3_readPlace 37 = .ok (.getfield 57, 3) := dq_180 bk_cX3_readPlace_0 37 rfl rfl
theorem bk_cX3_readPlace_40 : (cX3_readPlace.data.toList.drop 40).take 40 = [2, 160, 0, 9, 42, 7, 182, 0, 125, 172, 42, 182, 0, 87, 42, 180, 0, 48, 4, 160, 0, 16, 42, 180, 0, 51, 3, 16, 6, 184, 0, 200, 154, 0, 9, 42, 4, 182, 0, 125] := by decide +kernel
theorem dX3_readPlace_40 : decode cX3_readPlace 40 = .ok (.iconst (-1), 1) := dk_2 (blk_at bk_cX3_readPlace_40 0 rfl)
theorem dX3_readPlace_41 : decode cX3_readPlace 41 = .ok (.if_icmp .ne 9, 3) := dq_160 bk_cX3_readPlace_40 1 rfl (by decide)
theorem dX3_readPlace_44 : decode cX3_readPlace 44 = .ok (.aload_n 0, 1) := dk_42 (blk_at bk_cX3_readPlace_40 4 rfl)
theorem dX3_readPlace_45 : decode cX3_readPlace 45 = .ok (.iconst 4, 1) := dk_7 (blk_at bk_cX3_readPlace_40 5 rfl)
theorem dX3_readPlace_46 : decode cX3_readPlace 46 = .ok (.invokevirtual 125, 3) := dq_182 bk_cX3_readPlace_40 6 rfl rfl
theorem dX3_readPlace_49 : decode cX3_readPlace 49 = .ok (.ireturn, 1) := dk_172 (blk_at bk_cX3_readPlace_40 9 rfl)
theorem dX3_readPlace_50 : decode cX3_readPlace 50 = .ok (.aload_n 0, 1) := dk_42 (blk_at bk_cX3_readPlace_40 10 rfl)
theorem dX3_readPlace_51 : decode cX3_readPlace 51 = .ok (.invokevirtual 87, 3) := dq_182 bk_cX3_readPlace_40 11 rfl rfl
theorem dX3_readPlace_54 : decode cX3_readPlace 54 = .ok (.aload_n 0, 1) := dk_42 (blk_at bk_cX3_readPlace_40 14 rfl)
theorem dX3_readPlace_55 : decode cX3_readPlace 55 = .ok (.getfield 48, 3) := dq_180 bk_cX3_readPlace_40 15 rfl rfl
theorem dX3_readPlace_58 : decode cX3_readPlace 58 = .ok (.iconst 1, 1) := dk_4 (blk_at bk_cX3_readPlace_40 18 rfl)
theorem dX3_readPlace_59 : decode cX3_readPlace 59 = .ok (.if_icmp .ne 16, 3) := dq_160 bk_cX3_readPlace_40 19 rfl (by decide)
theorem dX3_readPlace_62 : decode cX3_readPlace 62 = .ok (.aload_n 0, 1) := dk_42 (blk_at bk_cX3_readPlace_40 22 rfl)
theorem dX3_readPlace_63 : decode cX3_readPlace 63 = .ok (.getfield 51, 3) := dq_180 bk_cX3_readPlace_40 23 rfl rfl
theorem dX3_readPlace_66 : decode cX3_readPlace 66 = .ok (.iconst 0, 1) := dk_3 (blk_at bk_cX3_readPlace_40 26 rfl)
theorem dX3_readPlace_67 : decode cX3_readPlace 67 = .ok (.bipush 6, 2) := dq_16 bk_cX3_readPlace_40 27 rfl (by decide)
theorem dX3_readPlace_69 : decode cX3_readPlace 69 = .ok (.invokestatic 200, 3) := dq_184 bk_cX3_readPlace_40 29 rfl rfl
theorem dX3_readPlace_72 : decode cX3_readPlace 72 = .ok (.ifCond .ne 9, 3) := dq_154 bk_cX3_readPlace_40 32 rfl (by decide)
theorem dX3_readPlace_75 : decode cX3_readPlace 75 = .ok (.aload_n 0, 1) := dk_42 (blk_at bk_cX3_readPlace_40 35 rfl)
theorem dX3_readPlace_76 : decode cX3_readPlace 76 = .ok (.iconst 1, 1) := dk_4 (blk_at bk_cX3_readPlace_40 36 rfl)
theorem dX3_readPlace_77 : decode cX3_readPlace 77 = .ok (.invokevirtual 125, 3) := dq_182 bk_cX3_readPlace_40 37 rfl rfl
theorem bk_cX3_readPlace_80 : (cX3_readPlace.data.toList.drop 80).take 40 = [172, 42, 42, 180, 0, 51, 181, 0, 60, 42, 182, 0, 87, 42, 3, 16, 23, 182, 0, 101, 154, 0, 5, 3, 172, 42, 42, 180, 0, 51, 181, 0, 63, 42, 182, 0, 87, 42, 16, 12] := by decide +kernel
theorem dX3_readPlace_80 : decode cX3_readPlace 80 = .ok (.ireturn, 1) := dk_172 (blk_at bk_cX3_readPlace_80 0 rfl)
theorem dX3_readPlace_81 : decode cX3_readPlace 81 = .ok (.aload_n 0, 1) := dk_42 (blk_at bk_cX3_readPlace_80 1 rfl)
theorem dX3_readPlace_82 : decode cX3_readPlace 82 = .ok (.aload_n 0, 1) := dk_42 (blk_at bk_cX3_readPlace_80 2 rfl)
theorem dX3_readPlace_83 : decode cX3_readPlace 83 = .ok (.getfield 51, 3) := dq_180 bk_cX3_readPlace_80 3 rfl rfl
theorem dX3_readPlace_86 : decode cX3_readPlace 86 = .ok (.putfield 60, 3) := dq_181 bk_cX3_readPlace_80 6 rfl rfl
theorem dX3_readPlace_89 : decode cX3_readPlace 89 = .ok (.aload_n 0, 1) := dk_42 (blk_at bk_cX3_readPlace_80 9 rfl)
theorem dX3_readPlace_90 : decode cX3_readPlace 90 = .ok (.invokevirtual 87, 3) := dq_182 bk_cX3_readPlace_80 10 rfl rfl
theorem dX3_readPlace_93 : decode cX3_readPlace 93 = .ok (.aload_n 0, 1) := dk_42 (blk_at bk_cX3_readPlace_80 13 rfl)
theorem dX3_readPlace_94 : decode cX3_readPlace 94 = .ok (.iconst 0, 1) := dk_3 (blk_at bk_cX3_readPlace_80 14 rfl)
theorem dX3_readPlace_95 : decode cX3_readPlace 95 = .ok (.bipush 23, 2) := dq_16 bk_cX3_readPlace_80 15 rfl (by decide)
theorem dX3_readPlace_97 : decode cX3_readPlace 97 = .ok (.invokevirtual 101, 3) := dq_182 bk_cX3_readPlace_80 17 rfl rfl
theorem dX3_readPlace_100 : decode cX3_readPlace 100 = .ok (.ifCond .ne 5, 3) := dq_154 bk_cX3_readPlace_80 20 rfl (by decide)
theorem dX3_readPlace_103 : decode cX3_readPlace 103 = .ok (.iconst 0, 1) := dk_3 (blk_at bk_cX3_readPlace_80 23 rfl)
theorem dX3_readPlace_104 : decode cX3_readPlace 104 = .ok (.ireturn, 1) := dk_172 (blk_at bk_cX3_readPlace_80 24 rfl)
theorem dX3_readPlace_105 : decode cX3_readPlace 105 = .ok (.aload_n 0, 1) := dk_42 (blk_at bk_cX3_readPlace_80 25 rfl)
theorem dX3_readPlace_106 : decode cX3_readPlace 106 = .ok (.aload_n 0, 1) := dk_42 (blk_at bk_cX3_readPlace_80 26 rfl)
theorem dX3_readPlace_107 : decode cX3_readPlace 107 = .ok (.getfield 51, 3) := dq_180 bk_cX3_readPlace_80 27 rfl rfl
theorem dX3_readPlace_110 : decode cX3_readPlace 110 = .ok (.putfield 63, 3) := dq_181 bk_cX3_readPlace_80 30 rfl rfl
theorem dX3_readPlace_113 : decode cX3_readPlace 113 = .ok (.aload_n 0, 1) := dk_42 (blk_at bk_cX3_readPlace_80 33 rfl)
theorem dX3_readPlace_114 : decode cX3_readPlace 114 = .ok (.invokevirtual 87, 3) := dq_182 bk_cX3_readPlace_80 34 rfl rfl
theorem dX3_readPlace_117 : decode cX3_readPlace 117 = .ok (.aload_n 0, 1) := dk_42 (blk_at bk_cX3_readPlace_80 37 rfl)
theorem dX3_readPlace_118 : decode cX3_readPlace 118 = .ok (.bipush 12, 2) := dq_16 bk_cX3_readPlace_80 38 rfl (by decide)
theorem bk_cX3_readPlace_120 : (cX3_readPlace.data.toList.drop 120).take 40 = [182, 0, 110, 154, 0, 18, 42, 16, 13, 182, 0, 110, 154, 0, 9, 42, 4, 182, 0, 125, 172, 42, 42, 16, 12, 182, 0, 110, 153, 0, 7, 3, 167, 0, 4, 4, 181, 0, 66, 42] := by decide +kernel
theorem dX3_readPlace_120 : decode cX3_readPlace 120 = .ok (.invokevirtual 110, 3) := dq_182 bk_cX3_readPlace_120 0 rfl rfl
theorem dX3_readPlace_123 : decode cX3_readPlace 123 = .ok (.ifCond .ne 18, 3) := dq_154 bk_cX3_readPlace_120 3 rfl (by decide)
theorem dX3_readPlace_126 : decode cX3_readPlace 126 = .ok (.aload_n 0, 1) := dk_42 (blk_at bk_cX3_readPlace_120 6 rfl)
theorem dX3_readPlace_127 : decode cX3_readPlace 127 = .ok (.bipush 13, 2) := dq_16 bk_cX3_readPlace_120 7 rfl (by decide)
theorem dX3_readPlace_129 : decode cX3_readPlace 129 = .ok (.invokevirtual 110, 3) := dq_182 bk_cX3_readPlace_120 9 rfl rfl
theorem dX3_readPlace_132 : decode cX3_readPlace 132 = .ok (.ifCond .ne 9, 3) := dq_154 bk_cX3_readPlace_120 12 rfl (by decide)
theorem dX3_readPlace_135 : decode cX3_readPlace 135 = .ok (.aload_n 0, 1) := dk_42 (blk_at bk_cX3_readPlace_120 15 rfl)
theorem dX3_readPlace_136 : decode cX3_readPlace 136 = .ok (.iconst 1, 1) := dk_4 (blk_at bk_cX3_readPlace_120 16 rfl)
theorem dX3_readPlace_137 : decode cX3_readPlace 137 = .ok (.invokevirtual 125, 3) := dq_182 bk_cX3_readPlace_120 17 rfl rfl
theorem dX3_readPlace_140 : decode cX3_readPlace 140 = .ok (.ireturn, 1) := dk_172 (blk_at bk_cX3_readPlace_120 20 rfl)
theorem dX3_readPlace_141 : decode cX3_readPlace 141 = .ok (.aload_n 0, 1) := dk_42 (blk_at bk_cX3_readPlace_120 21 rfl)
theorem dX3_readPlace_142 : decode cX3_readPlace 142 = .ok (.aload_n 0, 1) := dk_42 (blk_at bk_cX3_readPlace_120 22 rfl)
theorem dX3_readPlace_143 : decode cX3_readPlace 143 = .ok (.bipush 12, 2) := dq_16 bk_cX3_readPlace_120 23 rfl (by decide)
theorem dX3_readPlace_145 : decode cX3_readPlace 145 = .ok (.invokevirtual 110, 3) := dq_182 bk_cX3_readPlace_120 25 rfl rfl
theorem dX3_readPlace_148 : decode cX3_readPlace 148 = .ok (.ifCond .eq 7, 3) := dq_153 bk_cX3_readPlace_120 28 rfl (by decide)
theorem dX3_readPlace_151 : decode cX3_readPlace 151 = .ok (.iconst 0, 1) := dk_3 (blk_at bk_cX3_readPlace_120 31 rfl)
theorem dX3_readPlace_152 : decode cX3_readPlace 152 = .ok (.goto 4, 3) := dq_167 bk_cX3_readPlace_120 32 rfl (by decide)
theorem dX3_readPlace_155 : decode cX3_readPlace 155 = .ok (.iconst 1, 1) := dk_4 (blk_at bk_cX3_readPlace_120 35 rfl)
theorem dX3_readPlace_156 : decode cX3_readPlace 156 = .ok (.putfield 66, 3) := dq_181 bk_cX3_readPlace_120 36 rfl rfl
theorem dX3_readPlace_159 : decode cX3_readPlace 159 = .ok (.aload_n 0, 1) := dk_42 (blk_at bk_cX3_readPlace_120 39 rfl)
theorem bk_cX3_readPlace_160 : (cX3_readPlace.data.toList.drop 160).take 5 = [182, 0, 87, 4, 172] := by decide +kernel
theorem dX3_readPlace_160 : decode cX3_readPlace 160 = .ok (.invokevirtual 87, 3) := dq_182 bk_cX3_readPlace_160 0 rfl rfl
theorem dX3_readPlace_163 : decode cX3_readPlace 163 = .ok (.iconst 1, 1) := dk_4 (blk_at bk_cX3_readPlace_160 3 rfl)
theorem dX3_readPlace_164 : decode cX3_readPlace 164 = .ok (.ireturn, 1) := dk_172 (blk_at bk_cX3_readPlace_160 4 rfl)
theorem bk_cX3_readSpan_0 : (cX3_readSpan.data.toList.drop 0).take 40 = [42, 180, 0, 48, 5, 159, 0, 9, 42, 4, 182, 0, 125, 172, 42, 42, 180, 0, 51, 181, 0, 69, 42, 182, 0, 87, 42, 16, 45, 182, 0, 158, 154, 0, 9, 42, 4, 182, 0, 125] := by decide +kernel
theorem dX3_readSpan_0 : decode cX3_readSpan 0 = .ok (.aload_n 0, 1) := dk_42 (blk_at bk_cX3_readSpan_0 0 rfl)
theorem dX3_readSpan_1 : decode cX3_readSpan 1 = .ok (.getfield 48, 3) := dq_180 bk_cX3_readSpan_0 1 rfl rfl
theorem dX3_readSpan_4 : decode cX3_readSpan 4 = .ok (.iconst 2, 1) := dk_5 (blk_at bk_cX3_readSpan_0 4 rfl)
theorem dX3_readSpan_5 : decode cX3_readSpan 5 = .ok (.if_icmp .eq 9, 3) := dq_159 bk_cX3_readSpan_0 5 rfl (by decide)
theorem dX3_readSpan_8 : decode cX3_readSpan 8 = .ok (.aload_n 0, 1) := dk_42 (blk_at bk_cX3_readSpan_0 8 rfl)
theorem dX3_readSpan_9 : decode cX3_readSpan 9 = .ok (.iconst 1, 1) := dk_4 (blk_at bk_cX3_readSpan_0 9 rfl)
theorem dX3_readSpan_10 : decode cX3_readSpan 10 = .ok (.invokevirtual 125, 3) := dq_182 bk_cX3_readSpan_0 10 rfl rfl
theorem dX3_readSpan_13 : decode cX3_readSpan 13 = .ok (.ireturn, 1) := dk_172 (blk_at bk_cX3_readSpan_0 13 rfl)
theorem dX3_readSpan_14 : decode cX3_readSpan 14 = .ok (.aload_n 0, 1) := dk_42 (blk_at bk_cX3_readSpan_0 14 rfl)
theorem dX3_readSpan_15 : decode cX3_readSpan 15 = .ok (.aload_n 0, 1) := dk_42 (blk_at bk_cX3_readSpan_0 15 rfl)
theorem dX3_readSpan_16 : decode cX3_readSpan 16 = .ok (.getfield 51, 3) := dq_180 bk_cX3_readSpan_0 16 rfl rfl
theorem dX3_readSpan_19 : decode cX3_readSpan 19 = .ok (.putfield 69, 3) := dq_181 bk_cX3_readSpan_0 19 rfl rfl
theorem dX3_readSpan_22 : decode cX3_readSpan 22 = .ok (.aload_n 0, 1) := dk_42 (blk_at bk_cX3_readSpan_0 22 rfl)
theorem dX3_readSpan_23 : decode cX3_readSpan 23 = .ok (.invokevirtual 87, 3) := dq_182 bk_cX3_readSpan_0 23 rfl rfl
theorem dX3_readSpan_26 : decode cX3_readSpan 26 = .ok (.aload_n 0, 1) := dk_42 (blk_at bk_cX3_readSpan_0 26 rfl)
theorem dX3_readSpan_27 : decode cX3_readSpan 27 = .ok (.bipush 45, 2) := dq_16 bk_cX3_readSpan_0 27 rfl (by decide)
theorem dX3_readSpan_29 : decode cX3_readSpan 29 = .ok (.invokevirtual 158, 3) := dq_182 bk_cX3_readSpan_0 29 rfl rfl
theorem dX3_readSpan_32 : decode cX3_readSpan 32 = .ok (.ifCond .ne 9, 3) := dq_154 bk_cX3_readSpan_0 32 rfl (by decide)
theorem dX3_readSpan_35 : decode cX3_readSpan 35 = .ok (.aload_n 0, 1) := dk_42 (blk_at bk_cX3_readSpan_0 35 rfl)
theorem dX3_readSpan_36 : decode cX3_readSpan 36 = .ok (.iconst 1, 1) := dk_4 (blk_at bk_cX3_readSpan_0 36 rfl)
theorem dX3_readSpan_37 : decode cX3_readSpan 37 = .ok (.invokevirtual 125, 3) := dq_182 bk_cX3_readSpan_0 37 rfl rfl
theorem bk_cX3_readSpan_40 : (cX3_readSpan.data.toList.drop 40).take 40 = [172, 42, 182, 0, 87, 42, 42, 180, 0, 69, 8, 96, 4, 100, 42, 180, 0, 12, 180, 0, 105, 4, 100, 182, 0, 101, 154, 0, 5, 3, 172, 42, 42, 180, 0, 51, 181, 0, 72, 42] := by decide +kernel
theorem dX3_readSpan_40 : decode cX3_readSpan 40 = .ok (.ireturn, 1) := dk_172 (blk_at bk_cX3_readSpan_40 0 rfl)
theorem dX3_readSpan_41 : decode cX3_readSpan 41 = .ok (.aload_n 0, 1) := dk_42 (blk_at bk_cX3_readSpan_40 1 rfl)
theorem dX3_readSpan_42 : decode cX3_readSpan 42 = .ok (.invokevirtual 87, 3) := dq_182 bk_cX3_readSpan_40 2 rfl rfl
theorem dX3_readSpan_45 : decode cX3_readSpan 45 = .ok (.aload_n 0, 1) := dk_42 (blk_at bk_cX3_readSpan_40 5 rfl)
theorem dX3_readSpan_46 : decode cX3_readSpan 46 = .ok (.aload_n 0, 1) := dk_42 (blk_at bk_cX3_readSpan_40 6 rfl)
theorem dX3_readSpan_47 : decode cX3_readSpan 47 = .ok (.getfield 69, 3) := dq_180 bk_cX3_readSpan_40 7 rfl rfl
theorem dX3_readSpan_50 : decode cX3_readSpan 50 = .ok (.iconst 5, 1) := dk_8 (blk_at bk_cX3_readSpan_40 10 rfl)
theorem dX3_readSpan_51 : decode cX3_readSpan 51 = .ok (.iadd, 1) := dk_96 (blk_at bk_cX3_readSpan_40 11 rfl)
theorem dX3_readSpan_52 : decode cX3_readSpan 52 = .ok (.iconst 1, 1) := dk_4 (blk_at bk_cX3_readSpan_40 12 rfl)
theorem dX3_readSpan_53 : decode cX3_readSpan 53 = .ok (.isub, 1) := dk_100 (blk_at bk_cX3_readSpan_40 13 rfl)
theorem dX3_readSpan_54 : decode cX3_readSpan 54 = .ok (.aload_n 0, 1) := dk_42 (blk_at bk_cX3_readSpan_40 14 rfl)
theorem dX3_readSpan_55 : decode cX3_readSpan 55 = .ok (.getfield 12, 3) := dq_180 bk_cX3_readSpan_40 15 rfl rfl
theorem dX3_readSpan_58 : decode cX3_readSpan 58 = .ok (.getfield 105, 3) := dq_180 bk_cX3_readSpan_40 18 rfl rfl
theorem dX3_readSpan_61 : decode cX3_readSpan 61 = .ok (.iconst 1, 1) := dk_4 (blk_at bk_cX3_readSpan_40 21 rfl)
theorem dX3_readSpan_62 : decode cX3_readSpan 62 = .ok (.isub, 1) := dk_100 (blk_at bk_cX3_readSpan_40 22 rfl)
theorem dX3_readSpan_63 : decode cX3_readSpan 63 = .ok (.invokevirtual 101, 3) := dq_182 bk_cX3_readSpan_40 23 rfl rfl
theorem dX3_readSpan_66 : decode cX3_readSpan 66 = .ok (.ifCond .ne 5, 3) := dq_154 bk_cX3_readSpan_40 26 rfl (by decide)
theorem dX3_readSpan_69 : decode cX3_readSpan 69 = .ok (.iconst 0, 1) := dk_3 (blk_at bk_cX3_readSpan_40 29 rfl)
theorem dX3_readSpan_70 : decode cX3_readSpan 70 = .ok (.ireturn, 1) := dk_172 (blk_at bk_cX3_readSpan_40 30 rfl)
theorem dX3_readSpan_71 : decode cX3_readSpan 71 = .ok (.aload_n 0, 1) := dk_42 (blk_at bk_cX3_readSpan_40 31 rfl)
theorem dX3_readSpan_72 : decode cX3_readSpan 72 = .ok (.aload_n 0, 1) := dk_42 (blk_at bk_cX3_readSpan_40 32 rfl)
theorem dX3_readSpan_73 : decode cX3_readSpan 73 = .ok (.getfield 51, 3) := dq_180 bk_cX3_readSpan_40 33 rfl rfl
theorem dX3_readSpan_76 : decode cX3_readSpan 76 = .ok (.putfield 72, 3) := dq_181 bk_cX3_readSpan_40 36 rfl rfl
theorem dX3_readSpan_79 : decode cX3_readSpan 79 = .ok (.aload_n 0, 1) := dk_42 (blk_at bk_cX3_readSpan_40 39 rfl)
theorem bk_cX3_readSpan_80 : (cX3_readSpan.data.toList.drop 80).take 5 = [182, 0, 87, 4, 172] := by decide +kernel
theorem dX3_readSpan_80 : decode cX3_readSpan 80 = .ok (.invokevirtual 87, 3) := dq_182 bk_cX3_readSpan_80 0 rfl rfl
theorem dX3_readSpan_83 : decode cX3_readSpan 83 = .ok (.iconst 1, 1) := dk_4 (blk_at bk_cX3_readSpan_80 3 rfl)
theorem dX3_readSpan_84 : decode cX3_readSpan 84 = .ok (.ireturn, 1) := dk_172 (blk_at bk_cX3_readSpan_80 4 rfl)
theorem bk_cX3_takeWord_0 : (cX3_takeWord.data.toList.drop 0).take 20 = [42, 27, 182, 0, 110, 154, 0, 9, 42, 4, 182, 0, 125, 172, 42, 182, 0, 87, 4, 172] := by decide +kernel
theorem dX3_takeWord_0 : decode cX3_takeWord 0 = .ok (.aload_n 0, 1) := dk_42 (blk_at bk_cX3_takeWord_0 0 rfl)
theorem dX3_takeWord_1 : decode cX3_takeWord 1 = .ok (.iload_n 1, 1) := dk_27 (blk_at bk_cX3_takeWord_0 1 rfl)
theorem dX3_takeWord_2 : decode cX3_takeWord 2 = .ok (.invokevirtual 110, 3) := dq_182 bk_cX3_takeWord_0 2 rfl rfl
theorem dX3_takeWord_5 : decode cX3_takeWord 5 = .ok (.ifCond .ne 9, 3) := dq_154 bk_cX3_takeWord_0 5 rfl (by decide)
theorem dX3_takeWord_8 : decode cX3_takeWord 8 = .ok (.aload_n 0, 1) := dk_42 (blk_at bk_cX3_takeWord_0 8 rfl)
theorem dX3_takeWord_9 : decode cX3_takeWord 9 = .ok (.iconst 1, 1) := dk_4 (blk_at bk_cX3_takeWord_0 9 rfl)
theorem dX3_takeWord_10 : decode cX3_takeWord 10 = .ok (.invokevirtual 125, 3) := dq_182 bk_cX3_takeWord_0 10 rfl rfl
theorem dX3_takeWord_13 : decode cX3_takeWord 13 = .ok (.ireturn, 1) := dk_172 (blk_at bk_cX3_takeWord_0 13 rfl)
theorem dX3_takeWord_14 : decode cX3_takeWord 14 = .ok (.aload_n 0, 1) := dk_42 (blk_at bk_cX3_takeWord_0 14 rfl)
theorem dX3_takeWord_15 : decode cX3_takeWord 15 = .ok (.invokevirtual 87, 3) := dq_182 bk_cX3_takeWord_0 15 rfl rfl
theorem dX3_takeWord_18 : decode cX3_takeWord 18 = .ok (.iconst 1, 1) := dk_4 (blk_at bk_cX3_takeWord_0 18 rfl)
theorem dX3_takeWord_19 : decode cX3_takeWord 19 = .ok (.ireturn, 1) := dk_172 (blk_at bk_cX3_takeWord_0 19 rfl)
theorem bk_cX3_takeSign_0 : (cX3_takeSign.data.toList.drop 0).take 20 = [42, 27, 182, 0, 158, 154, 0, 9, 42, 4, 182, 0, 125, 172, 42, 182, 0, 87, 4, 172] := by decide +kernel
theorem dX3_takeSign_0 : decode cX3_takeSign 0 = .ok (.aload_n 0, 1) := dk_42 (blk_at bk_cX3_takeSign_0 0 rfl)
theorem dX3_takeSign_1 : decode cX3_takeSign 1 = .ok (.iload_n 1, 1) := dk_27 (blk_at bk_cX3_takeSign_0 1 rfl)
theorem dX3_takeSign_2 : decode cX3_takeSign 2 = .ok (.invokevirtual 158, 3) := dq_182 bk_cX3_takeSign_0 2 rfl rfl
theorem dX3_takeSign_5 : decode cX3_takeSign 5 = .ok (.ifCond .ne 9, 3) := dq_154 bk_cX3_takeSign_0 5 rfl (by decide)
theorem dX3_takeSign_8 : decode cX3_takeSign 8 = .ok (.aload_n 0, 1) := dk_42 (blk_at bk_cX3_takeSign_0 8 rfl)
theorem dX3_takeSign_9 : decode cX3_takeSign 9 = .ok (.iconst 1, 1) := dk_4 (blk_at bk_cX3_takeSign_0 9 rfl)
theorem dX3_takeSign_10 : decode cX3_takeSign 10 = .ok (.invokevirtual 125, 3) := dq_182 bk_cX3_takeSign_0 10 rfl rfl
theorem dX3_takeSign_13 : decode cX3_takeSign 13 = .ok (.ireturn, 1) := dk_172 (blk_at bk_cX3_takeSign_0 13 rfl)
theorem dX3_takeSign_14 : decode cX3_takeSign 14 = .ok (.aload_n 0, 1) := dk_42 (blk_at bk_cX3_takeSign_0 14 rfl)
theorem dX3_takeSign_15 : decode cX3_takeSign 15 = .ok (.invokevirtual 87, 3) := dq_182 bk_cX3_takeSign_0 15 rfl rfl
theorem dX3_takeSign_18 : decode cX3_takeSign 18 = .ok (.iconst 1, 1) := dk_4 (blk_at bk_cX3_takeSign_0 18 rfl)
theorem dX3_takeSign_19 : decode cX3_takeSign 19 = .ok (.ireturn, 1) := dk_172 (blk_at bk_cX3_takeSign_0 19 rfl)
theorem bk_cX3_isNumber_0 : (cX3_isNumber.data.toList.drop 0).take 40 = [42, 180, 0, 48, 5, 159, 0, 9, 42, 4, 182, 0, 125, 172, 42, 180, 0, 51, 27, 28, 184, 0, 200, 154, 0, 11, 42, 5, 182, 0, 125, 153, 0, 7, 4, 167, 0, 4, 3, 172] := by decide +kernel
theorem dX3_isNumber_0 : decode cX3_isNumber 0 = .ok (.aload_n 0, 1) := dk_42 (blk_at bk_cX3_isNumber_0 0 rfl)
theorem dX3_isNumber_1 : decode cX3_isNumber 1 = .ok (.getfield 48, 3) := dq_180 bk_cX3_isNumber_0 1 rfl rfl
theorem dX3_isNumber_4 : decode cX3_isNumber 4 = .ok (.iconst 2, 1) := dk_5 (blk_at bk_cX3_isNumber_0 4 rfl)
theorem dX3_isNumber_5 : decode cX3_isNumber 5 = .ok (.if_icmp .eq 9, 3) := dq_159 bk_cX3_isNumber_0 5 rfl (by decide)
theorem dX3_isNumber_8 : decode cX3_isNumber 8 = .ok (.aload_n 0, 1) := dk_42 (blk_at bk_cX3_isNumber_0 8 rfl)
theorem dX3_isNumber_9 : decode cX3_isNumber 9 = .ok (.iconst 1, 1) := dk_4 (blk_at bk_cX3_isNumber_0 9 rfl)
theorem dX3_isNumber_10 : decode cX3_isNumber 10 = .ok (.invokevirtual 125, 3) := dq_182 bk_cX3_isNumber_0 10 rfl rfl
theorem dX3_isNumber_13 : decode cX3_isNumber 13 = .ok (.ireturn, 1) := dk_172 (blk_at bk_cX3_isNumber_0 13 rfl)
theorem dX3_isNumber_14 : decode cX3_isNumber 14 = .ok (.aload_n 0, 1) := dk_42 (blk_at bk_cX3_isNumber_0 14 rfl)
theorem dX3_isNumber_15 : decode cX3_isNumber 15 = .ok (.getfield 51, 3) := dq_180 bk_cX3_isNumber_0 15 rfl rfl
theorem dX3_isNumber_18 : decode cX3_isNumber 18 = .ok (.iload_n 1, 1) := dk_27 (blk_at bk_cX3_isNumber_0 18 rfl)
theorem dX3_isNumber_19 : decode cX3_isNumber 19 = .ok (.iload_n 2, 1) := dk_28 (blk_at bk_cX3_isNumber_0 19 rfl)
theorem dX3_isNumber_20 : decode cX3_isNumber 20 = .ok (.invokestatic 200, 3) := dq_184 bk_cX3_isNumber_0 20 rfl rfl
theorem dX3_isNumber_23 : decode cX3_isNumber 23 = .ok (.ifCond .ne 11, 3) := dq_154 bk_cX3_isNumber_0 23 rfl (by decide)
theorem dX3_isNumber_26 : decode cX3_isNumber 26 = .ok (.aload_n 0, 1) := dk_42 (blk_at bk_cX3_isNumber_0 26 rfl)
theorem dX3_isNumber_27 : decode cX3_isNumber 27 = .ok (.iconst 2, 1) := dk_5 (blk_at bk_cX3_isNumber_0 27 rfl)
theorem dX3_isNumber_28 : decode cX3_isNumber 28 = .ok (.invokevirtual 125, 3) := dq_182 bk_cX3_isNumber_0 28 rfl rfl
theorem dX3_isNumber_31 : decode cX3_isNumber 31 = .ok (.ifCond .eq 7, 3) := dq_153 bk_cX3_isNumber_0 31 rfl (by decide)
theorem dX3_isNumber_34 : decode cX3_isNumber 34 = .ok (.iconst 1, 1) := dk_4 (blk_at bk_cX3_isNumber_0 34 rfl)
theorem dX3_isNumber_35 : decode cX3_isNumber 35 = .ok (.goto 4, 3) := dq_167 bk_cX3_isNumber_0 35 rfl (by decide)
theorem dX3_isNumber_38 : decode cX3_isNumber 38 = .ok (.iconst 0, 1) := dk_3 (blk_at bk_cX3_isNumber_0 38 rfl)
theorem dX3_isNumber_39 : decode cX3_isNumber 39 = .ok (.ireturn, 1) := dk_172 (blk_at bk_cX3_isNumber_0 39 rfl)
theorem bk_cX3_isSign_0 : (cX3_isSign.data.toList.drop 0).take 22 = [42, 180, 0, 48, 6, 160, 0, 15, 42, 180, 0, 51, 27, 160, 0, 7, 4, 167, 0, 4, 3, 172] := by decide +kernel
theorem dX3_isSign_0 : decode cX3_isSign 0 = .ok (.aload_n 0, 1) := dk_42 (blk_at bk_cX3_isSign_0 0 rfl)
theorem dX3_isSign_1 : decode cX3_isSign 1 = .ok (.getfield 48, 3) := dq_180 bk_cX3_isSign_0 1 rfl rfl
theorem dX3_isSign_4 : decode cX3_isSign 4 = .ok (.iconst 3, 1) := dk_6 (blk_at bk_cX3_isSign_0 4 rfl)
theorem dX3_isSign_5 : decode cX3_isSign 5 = .ok (.if_icmp .ne 15, 3) := dq_160 bk_cX3_isSign_0 5 rfl (by decide)
theorem dX3_isSign_8 : decode cX3_isSign 8 = .ok (.aload_n 0, 1) := dk_42 (blk_at bk_cX3_isSign_0 8 rfl)
theorem dX3_isSign_9 : decode cX3_isSign 9 = .ok (.getfield 51, 3) := dq_180 bk_cX3_isSign_0 9 rfl rfl
theorem dX3_isSign_12 : decode cX3_isSign 12 = .ok (.iload_n 1, 1) := dk_27 (blk_at bk_cX3_isSign_0 12 rfl)
theorem dX3_isSign_13 : decode cX3_isSign 13 = .ok (.if_icmp .ne 7, 3) := dq_160 bk_cX3_isSign_0 13 rfl (by decide)
theorem dX3_isSign_16 : decode cX3_isSign 16 = .ok (.iconst 1, 1) := dk_4 (blk_at bk_cX3_isSign_0 16 rfl)
theorem dX3_isSign_17 : decode cX3_isSign 17 = .ok (.goto 4, 3) := dq_167 bk_cX3_isSign_0 17 rfl (by decide)
theorem dX3_isSign_20 : decode cX3_isSign 20 = .ok (.iconst 0, 1) := dk_3 (blk_at bk_cX3_isSign_0 20 rfl)
theorem dX3_isSign_21 : decode cX3_isSign 21 = .ok (.ireturn, 1) := dk_172 (blk_at bk_cX3_isSign_0 21 rfl)
theorem bk_cX3_isWord_0 : (cX3_isWord.data.toList.drop 0).take 22 = [42, 180, 0, 48, 4, 160, 0, 15, 42, 180, 0, 51, 27, 160, 0, 7, 4, 167, 0, 4, 3, 172] := by decide +kernel
theorem dX3_isWord_0 : decode cX3_isWord 0 = .ok (.aload_n 0, 1) := dk_42 (blk_at bk_cX3_isWord_0 0 rfl)
theorem dX3_isWord_1 : decode cX3_isWord 1 = .ok (.getfield 48, 3) := dq_180 bk_cX3_isWord_0 1 rfl rfl
theorem dX3_isWord_4 : decode cX3_isWord 4 = .ok (.iconst 1, 1) := dk_4 (blk_at bk_cX3_isWord_0 4 rfl)
theorem dX3_isWord_5 : decode cX3_isWord 5 = .ok (.if_icmp .ne 15, 3) := dq_160 bk_cX3_isWord_0 5 rfl (by decide)
theorem dX3_isWord_8 : decode cX3_isWord 8 = .ok (.aload_n 0, 1) := dk_42 (blk_at bk_cX3_isWord_0 8 rfl)
theorem dX3_isWord_9 : decode cX3_isWord 9 = .ok (.getfield 51, 3) := dq_180 bk_cX3_isWord_0 9 rfl rfl
theorem dX3_isWord_12 : decode cX3_isWord 12 = .ok (.iload_n 1, 1) := dk_27 (blk_at bk_cX3_isWord_0 12 rfl)
theorem dX3_isWord_13 : decode cX3_isWord 13 = .ok (.if_icmp .ne 7, 3) := dq_160 bk_cX3_isWord_0 13 rfl (by decide)
theorem dX3_isWord_16 : decode cX3_isWord 16 = .ok (.iconst 1, 1) := dk_4 (blk_at bk_cX3_isWord_0 16 rfl)
theorem dX3_isWord_17 : decode cX3_isWord 17 = .ok (.goto 4, 3) := dq_167 bk_cX3_isWord_0 17 rfl (by decide)
theorem dX3_isWord_20 : decode cX3_isWord 20 = .ok (.iconst 0, 1) := dk_3 (blk_at bk_cX3_isWord_0 20 rfl)
theorem dX3_isWord_21 : decode cX3_isWord 21 = .ok (.ireturn, 1) := dk_172 (blk_at bk_cX3_isWord_0 21 rfl)
theorem bk_cX3_isName_0 : (cX3_isName.data.toList.drop 0).take 36 = [42, 180, 0, 48, 4, 160, 0, 29, 42, 180, 0, 51, 2, 160, 0, 21, 42, 180, 0, 45, 42, 180, 0, 42, 100, 16, 6, 163, 0, 7, 4, 167, 0, 4, 3, 172] := by decide +kernel
theorem dX3_isName_0 : decode cX3_isName 0 = .ok (.aload_n 0, 1) := dk_42 (blk_at bk_cX3_isName_0 0 rfl)
theorem dX3_isName_1 : decode cX3_isName 1 = .ok (.getfield 48, 3) := dq_180 bk_cX3_isName_0 1 rfl rfl
theorem dX3_isName_4 : decode cX3_isName 4 = .ok (.iconst 1, 1) := dk_4 (blk_at bk_cX3_isName_0 4 rfl)
theorem dX3_isName_5 : decode cX3_isName 5 = .ok (.if_icmp .ne 29, 3) := dq_160 bk_cX3_isName_0 5 rfl (by decide)
theorem dX3_isName_8 : decode cX3_isName 8 = .ok (.aload_n 0, 1) := dk_42 (blk_at bk_cX3_isName_0 8 rfl)
theorem dX3_isName_9 : decode cX3_isName 9 = .ok (.getfield 51, 3) := dq_180 bk_cX3_isName_0 9 rfl rfl
theorem dX3_isName_12 : decode cX3_isName 12 = .ok (.iconst (-1), 1) := dk_2 (blk_at bk_cX3_isName_0 12 rfl)
theorem dX3_isName_13 : decode cX3_isName 13 = .ok (.if_icmp .ne 21, 3) := dq_160 bk_cX3_isName_0 13 rfl (by decide)
theorem dX3_isName_16 : decode cX3_isName 16 = .ok (.aload_n 0, 1) := dk_42 (blk_at bk_cX3_isName_0 16 rfl)
theorem dX3_isName_17 : decode cX3_isName 17 = .ok (.getfield 45, 3) := dq_180 bk_cX3_isName_0 17 rfl rfl
theorem dX3_isName_20 : decode cX3_isName 20 = .ok (.aload_n 0, 1) := dk_42 (blk_at bk_cX3_isName_0 20 rfl)
theorem dX3_isName_21 : decode cX3_isName 21 = .ok (.getfield 42, 3) := dq_180 bk_cX3_isName_0 21 rfl rfl
theorem dX3_isName_24 : decode cX3_isName 24 = .ok (.isub, 1) := dk_100 (blk_at bk_cX3_isName_0 24 rfl)
theorem dX3_isName_25 : decode cX3_isName 25 = .ok (.bipush 6, 2) := dq_16 bk_cX3_isName_0 25 rfl (by decide)
theorem dX3_isName_27 : decode cX3_isName 27 = .ok (.if_icmp .gt 7, 3) := dq_163 bk_cX3_isName_0 27 rfl (by decide)
theorem dX3_isName_30 : decode cX3_isName 30 = .ok (.iconst 1, 1) := dk_4 (blk_at bk_cX3_isName_0 30 rfl)
theorem dX3_isName_31 : decode cX3_isName 31 = .ok (.goto 4, 3) := dq_167 bk_cX3_isName_0 31 rfl (by decide)
theorem dX3_isName_34 : decode cX3_isName 34 = .ok (.iconst 0, 1) := dk_3 (blk_at bk_cX3_isName_0 34 rfl)
theorem dX3_isName_35 : decode cX3_isName 35 = .ok (.ireturn, 1) := dk_172 (blk_at bk_cX3_isName_0 35 rfl)
theorem bk_cX3_fail_0 : (cX3_fail.data.toList.drop 0).take 15 = [42, 27, 181, 0, 29, 42, 42, 180, 0, 42, 181, 0, 32, 3, 172] := by decide +kernel
theorem dX3_fail_0 : decode cX3_fail 0 = .ok (.aload_n 0, 1) := dk_42 (blk_at bk_cX3_fail_0 0 rfl)
theorem dX3_fail_1 : decode cX3_fail 1 = .ok (.iload_n 1, 1) := dk_27 (blk_at bk_cX3_fail_0 1 rfl)
theorem dX3_fail_2 : decode cX3_fail 2 = .ok (.putfield 29, 3) := dq_181 bk_cX3_fail_0 2 rfl rfl
theorem dX3_fail_5 : decode cX3_fail 5 = .ok (.aload_n 0, 1) := dk_42 (blk_at bk_cX3_fail_0 5 rfl)
theorem dX3_fail_6 : decode cX3_fail 6 = .ok (.aload_n 0, 1) := dk_42 (blk_at bk_cX3_fail_0 6 rfl)
theorem dX3_fail_7 : decode cX3_fail 7 = .ok (.getfield 42, 3) := dq_180 bk_cX3_fail_0 7 rfl rfl
theorem dX3_fail_10 : decode cX3_fail 10 = .ok (.putfield 32, 3) := dq_181 bk_cX3_fail_0 10 rfl rfl
theorem dX3_fail_13 : decode cX3_fail 13 = .ok (.iconst 0, 1) := dk_3 (blk_at bk_cX3_fail_0 13 rfl)
theorem dX3_fail_14 : decode cX3_fail 14 = .ok (.ireturn, 1) := dk_172 (blk_at bk_cX3_fail_0 14 rfl)
theorem bk_cX3_advance_0 : (cX3_advance.data.toList.drop 0).take 38 = [42, 42, 180, 0, 45, 181, 0, 42, 42, 180, 0, 42, 42, 180, 0, 39, 162, 0, 44, 42, 180, 0, 35, 42, 180, 0, 42, 51, 16, 32, 159, 0, 17, 42, 180, 0, 35, 42] := by decide +kernel
theorem dX3_advance_0 : decode cX3_advance 0 = .ok (.aload_n 0, 1) := dk_42 (blk_at bk_cX3_advance_0 0 rfl)
theorem dX3_advance_1 : decode cX3_advance 1 = .ok (.aload_n 0, 1) := dk_42 (blk_at bk_cX3_advance_0 1 rfl)
theorem dX3_advance_2 : decode cX3_advance 2 = .ok (.getfield 45, 3) := dq_180 bk_cX3_advance_0 2 rfl rfl
theorem dX3_advance_5 : decode cX3_advance 5 = .ok (.putfield 42, 3) := dq_181 bk_cX3_advance_0 5 rfl rfl
theorem dX3_advance_8 : decode cX3_advance 8 = .ok (.aload_n 0, 1) := dk_42 (blk_at bk_cX3_advance_0 8 rfl)
theorem dX3_advance_9 : decode cX3_advance 9 = .ok (.getfield 42, 3) := dq_180 bk_cX3_advance_0 9 rfl rfl
theorem dX3_advance_12 : decode cX3_advance 12 = .ok (.aload_n 0, 1) := dk_42 (blk_at bk_cX3_advance_0 12 rfl)
theorem dX3_advance_13 : decode cX3_advance 13 = .ok (.getfield 39, 3) := dq_180 bk_cX3_advance_0 13 rfl rfl
theorem dX3_advance_16 : decode cX3_advance 16 = .ok (.if_icmp .ge 44, 3) := dq_162 bk_cX3_advance_0 16 rfl (by decide)
theorem dX3_advance_19 : decode cX3_advance 19 = .ok (.aload_n 0, 1) := dk_42 (blk_at bk_cX3_advance_0 19 rfl)
theorem dX3_advance_20 : decode cX3_advance 20 = .ok (.getfield 35, 3) := dq_180 bk_cX3_advance_0 20 rfl rfl
theorem dX3_advance_23 : decode cX3_advance 23 = .ok (.aload_n 0, 1) := dk_42 (blk_at bk_cX3_advance_0 23 rfl)
theorem dX3_advance_24 : decode cX3_advance 24 = .ok (.getfield 42, 3) := dq_180 bk_cX3_advance_0 24 rfl rfl
theorem dX3_advance_27 : decode cX3_advance 27 = .ok (.baload, 1) := dk_51 (blk_at bk_cX3_advance_0 27 rfl)
theorem dX3_advance_28 : decode cX3_advance 28 = .ok (.bipush 32, 2) := dq_16 bk_cX3_advance_0 28 rfl (by decide)
theorem dX3_advance_30 : decode cX3_advance 30 = .ok (.if_icmp .eq 17, 3) := dq_159 bk_cX3_advance_0 30 rfl (by decide)
theorem dX3_advance_33 : decode cX3_advance 33 = .ok (.aload_n 0, 1) := dk_42 (blk_at bk_cX3_advance_0 33 rfl)
theorem dX3_advance_34 : decode cX3_advance 34 = .ok (.getfield 35, 3) := dq_180 bk_cX3_advance_0 34 rfl rfl
theorem dX3_advance_37 : decode cX3_advance 37 = .ok (.aload_n 0, 1) := dk_42 (blk_at bk_cX3_advance_0 37 rfl)
theorem bk_cX3_advance_38 : (cX3_advance.data.toList.drop 38).take 40 = [180, 0, 42, 51, 16, 10, 160, 0, 16, 42, 89, 180, 0, 42, 4, 96, 181, 0, 42, 167, 255, 207, 42, 42, 180, 0, 42, 181, 0, 45, 42, 3, 181, 0, 51, 42, 180, 0, 42, 42] := by decide +kernel
theorem dX3_advance_38 : decode cX3_advance 38 = .ok (.getfield 42, 3) := dq_180 bk_cX3_advance_38 0 rfl rfl
theorem dX3_advance_41 : decode cX3_advance 41 = .ok (.baload, 1) := dk_51 (blk_at bk_cX3_advance_38 3 rfl)
theorem dX3_advance_42 : decode cX3_advance 42 = .ok (.bipush 10, 2) := dq_16 bk_cX3_advance_38 4 rfl (by decide)
theorem dX3_advance_44 : decode cX3_advance 44 = .ok (.if_icmp .ne 16, 3) := dq_160 bk_cX3_advance_38 6 rfl (by decide)
theorem dX3_advance_47 : decode cX3_advance 47 = .ok (.aload_n 0, 1) := dk_42 (blk_at bk_cX3_advance_38 9 rfl)
theorem dX3_advance_48 : decode cX3_advance 48 = .ok (.dup, 1) := dk_89 (blk_at bk_cX3_advance_38 10 rfl)
theorem dX3_advance_49 : decode cX3_advance 49 = .ok (.getfield 42, 3) := dq_180 bk_cX3_advance_38 11 rfl rfl
theorem dX3_advance_52 : decode cX3_advance 52 = .ok (.iconst 1, 1) := dk_4 (blk_at bk_cX3_advance_38 14 rfl)
theorem dX3_advance_53 : decode cX3_advance 53 = .ok (.iadd, 1) := dk_96 (blk_at bk_cX3_advance_38 15 rfl)
theorem dX3_advance_54 : decode cX3_advance 54 = .ok (.putfield 42, 3) := dq_181 bk_cX3_advance_38 16 rfl rfl
theorem dX3_advance_57 : decode cX3_advance 57 = .ok (.goto (-49), 3) := dq_167 bk_cX3_advance_38 19 rfl (by decide)
theorem dX3_advance_60 : decode cX3_advance 60 = .ok (.aload_n 0, 1) := dk_42 (blk_at bk_cX3_advance_38 22 rfl)
theorem dX3_advance_61 : decode cX3_advance 61 = .ok (.aload_n 0, 1) := dk_42 (blk_at bk_cX3_advance_38 23 rfl)
theorem dX3_advance_62 : decode cX3_advance 62 = .ok (.getfield 42, 3) := dq_180 bk_cX3_advance_38 24 rfl rfl
theorem dX3_advance_65 : decode cX3_advance 65 = .ok (.putfield 45, 3) := dq_181 bk_cX3_advance_38 27 rfl rfl
theorem dX3_advance_68 : decode cX3_advance 68 = .ok (.aload_n 0, 1) := dk_42 (blk_at bk_cX3_advance_38 30 rfl)
theorem dX3_advance_69 : decode cX3_advance 69 = .ok (.iconst 0, 1) := dk_3 (blk_at bk_cX3_advance_38 31 rfl)
theorem dX3_advance_70 : decode cX3_advance 70 = .ok (.putfield 51, 3) := dq_181 bk_cX3_advance_38 32 rfl rfl
theorem dX3_advance_73 : decode cX3_advance 73 = .ok (.aload_n 0, 1) := dk_42 (blk_at bk_cX3_advance_38 35 rfl)
theorem dX3_advance_74 : decode cX3_advance 74 = .ok (.getfield 42, 3) := dq_180 bk_cX3_advance_38 36 rfl rfl
theorem dX3_advance_77 : decode cX3_advance 77 = .ok (.aload_n 0, 1) := dk_42 (blk_at bk_cX3_advance_38 39 rfl)
theorem bk_cX3_advance_78 : (cX3_advance.data.toList.drop 78).take 39 = [180, 0, 39, 161, 0, 11, 42, 3, 181, 0, 48, 167, 0, 189, 42, 180, 0, 35, 42, 180, 0, 42, 51, 184, 0, 204, 153, 0, 58, 42, 4, 181, 0, 48, 42, 180, 0, 45, 42] := by decide +kernel
theorem dX3_advance_78 : decode cX3_advance 78 = .ok (.getfield 39, 3) := dq_180 bk_cX3_advance_78 0 rfl rfl
theorem dX3_advance_81 : decode cX3_advance 81 = .ok (.if_icmp .lt 11, 3) := dq_161 bk_cX3_advance_78 3 rfl (by decide)
theorem dX3_advance_84 : decode cX3_advance 84 = .ok (.aload_n 0, 1) := dk_42 (blk_at bk_cX3_advance_78 6 rfl)
theorem dX3_advance_85 : decode cX3_advance 85 = .ok (.iconst 0, 1) := dk_3 (blk_at bk_cX3_advance_78 7 rfl)
theorem dX3_advance_86 : decode cX3_advance 86 = .ok (.putfield 48, 3) := dq_181 bk_cX3_advance_78 8 rfl rfl
theorem dX3_advance_89 : decode cX3_advance 89 = .ok (.goto 189, 3) := dq_167 bk_cX3_advance_78 11 rfl (by decide)
theorem dX3_advance_92 : decode cX3_advance 92 = .ok (.aload_n 0, 1) := dk_42 (blk_at bk_cX3_advance_78 14 rfl)
theorem dX3_advance_93 : decode cX3_advance 93 = .ok (.getfield 35, 3) := dq_180 bk_cX3_advance_78 15 rfl rfl
theorem dX3_advance_96 : decode cX3_advance 96 = .ok (.aload_n 0, 1) := dk_42 (blk_at bk_cX3_advance_78 18 rfl)
theorem dX3_advance_97 : decode cX3_advance 97 = .ok (.getfield 42, 3) := dq_180 bk_cX3_advance_78 19 rfl rfl
theorem dX3_advance_100 : decode cX3_advance 100 = .ok (.baload, 1) := dk_51 (blk_at bk_cX3_advance_78 22 rfl)
theorem dX3_advance_101 : decode cX3_advance 101 = .ok (.invokestatic 204, 3) := dq_184 bk_cX3_advance_78 23 rfl rfl
theorem dX3_advance_104 : decode cX3_advance 104 = .ok (.ifCond .eq 58, 3) := dq_153 bk_cX3_advance_78 26 rfl (by decide)
theorem dX3_advance_107 : decode cX3_advance 107 = .ok (.aload_n 0, 1) := dk_42 (blk_at bk_cX3_advance_78 29 rfl)
theorem dX3_advance_108 : decode cX3_advance 108 = .ok (.iconst 1, 1) := dk_4 (blk_at bk_cX3_advance_78 30 rfl)
theorem dX3_advance_109 : decode cX3_advance 109 = .ok (.putfield 48, 3) := dq_181 bk_cX3_advance_78 31 rfl rfl
theorem dX3_advance_112 : decode cX3_advance 112 = .ok (.aload_n 0, 1) := dk_42 (blk_at bk_cX3_advance_78 34 rfl)
theorem dX3_advance_113 : decode cX3_advance 113 = .ok (.getfield 45, 3) := dq_180 bk_cX3_advance_78 35 rfl rfl
theorem dX3_advance_116 : decode cX3_advance 116 = .ok (.aload_n 0, 1) := dk_42 (blk_at bk_cX3_advance_78 38 rfl)
theorem bk_cX3_advance_117 : (cX3_advance.data.toList.drop 117).take 39 = [180, 0, 39, 162, 0, 31, 42, 180, 0, 35, 42, 180, 0, 45, 51, 184, 0, 204, 153, 0, 16, 42, 89, 180, 0, 45, 4, 96, 181, 0, 45, 167, 255, 220, 42, 42, 182, 0, 207] := by decide +kernel
theorem dX3_advance_117 : decode cX3_advance 117 = .ok (.getfield 39, 3) := dq_180 bk_cX3_advance_117 0 rfl rfl
theorem dX3_advance_120 : decode cX3_advance 120 = .ok (.if_icmp .ge 31, 3) := dq_162 bk_cX3_advance_117 3 rfl (by decide)
theorem dX3_advance_123 : decode cX3_advance 123 = .ok (.aload_n 0, 1) := dk_42 (blk_at bk_cX3_advance_117 6 rfl)
theorem dX3_advance_124 : decode cX3_advance 124 = .ok (.getfield 35, 3) := dq_180 bk_cX3_advance_117 7 rfl rfl
theorem dX3_advance_127 : decode cX3_advance 127 = .ok (.aload_n 0, 1) := dk_42 (blk_at bk_cX3_advance_117 10 rfl)
theorem dX3_advance_128 : decode cX3_advance 128 = .ok (.getfield 45, 3) := dq_180 bk_cX3_advance_117 11 rfl rfl
theorem dX3_advance_131 : decode cX3_advance 131 = .ok (.baload, 1) := dk_51 (blk_at bk_cX3_advance_117 14 rfl)
theorem dX3_advance_132 : decode cX3_advance 132 = .ok (.invokestatic 204, 3) := dq_184 bk_cX3_advance_117 15 rfl rfl
theorem dX3_advance_135 : decode cX3_advance 135 = .ok (.ifCond .eq 16, 3) := dq_153 bk_cX3_advance_117 18 rfl (by decide)
theorem dX3_advance_138 : decode cX3_advance 138 = .ok (.aload_n 0, 1) := dk_42 (blk_at bk_cX3_advance_117 21 rfl)
theorem dX3_advance_139 : decode cX3_advance 139 = .ok (.dup, 1) := dk_89 (blk_at bk_cX3_advance_117 22 rfl)
theorem dX3_advance_140 : decode cX3_advance 140 = .ok (.getfield 45, 3) := dq_180 bk_cX3_advance_117 23 rfl rfl
theorem dX3_advance_143 : decode cX3_advance 143 = .ok (.iconst 1, 1) := dk_4 (blk_at bk_cX3_advance_117 26 rfl)
theorem dX3_advance_144 : decode cX3_advance 144 = .ok (.iadd, 1) := dk_96 (blk_at bk_cX3_advance_117 27 rfl)
theorem dX3_advance_145 : decode cX3_advance 145 = .ok (.putfield 45, 3) := dq_181 bk_cX3_advance_117 28 rfl rfl
theorem dX3_advance_148 : decode cX3_advance 148 = .ok (.goto (-36), 3) := dq_167 bk_cX3_advance_117 31 rfl (by decide)
theorem dX3_advance_151 : decode cX3_advance 151 = .ok (.aload_n 0, 1) := dk_42 (blk_at bk_cX3_advance_117 34 rfl)
theorem dX3_advance_152 : decode cX3_advance 152 = .ok (.aload_n 0, 1) := dk_42 (blk_at bk_cX3_advance_117 35 rfl)
theorem dX3_advance_153 : decode cX3_advance 153 = .ok (.invokevirtual 207, 3) := dq_182 bk_cX3_advance_117 36 rfl rfl
theorem bk_cX3_advance_156 : (cX3_advance.data.toList.drop 156).take 38 = [181, 0, 51, 167, 0, 119, 42, 180, 0, 35, 42, 180, 0, 42, 51, 184, 0, 211, 153, 0, 76, 42, 5, 181, 0, 48, 42, 180, 0, 45, 42, 180, 0, 39, 162, 0, 88, 42] := by decide +kernel
theorem dX3_advance_156 : decode cX3_advance 156 = .ok (.putfield 51, 3) := dq_181 bk_cX3_advance_156 0 rfl rfl
theorem dX3_advance_159 : decode cX3_advance 159 = .ok (.goto 119, 3) := dq_167 bk_cX3_advance_156 3 rfl (by decide)
theorem dX3_advance_162 : decode cX3_advance 162 = .ok (.aload_n 0, 1) := dk_42 (blk_at bk_cX3_advance_156 6 rfl)
theorem dX3_advance_163 : decode cX3_advance 163 = .ok (.getfield 35, 3) := dq_180 bk_cX3_advance_156 7 rfl rfl
theorem dX3_advance_166 : decode cX3_advance 166 = .ok (.aload_n 0, 1) := dk_42 (blk_at bk_cX3_advance_156 10 rfl)
theorem dX3_advance_167 : decode cX3_advance 167 = .ok (.getfield 42, 3) := dq_180 bk_cX3_advance_156 11 rfl rfl
theorem dX3_advance_170 : decode cX3_advance 170 = .ok (.baload, 1) := dk_51 (blk_at bk_cX3_advance_156 14 rfl)
theorem dX3_advance_171 : decode cX3_advance 171 = .ok (.invokestatic 211, 3) := dq_184 bk_cX3_advance_156 15 rfl rfl
theorem dX3_advance_174 : decode cX3_advance 174 = .ok (.ifCond .eq 76, 3) := dq_153 bk_cX3_advance_156 18 rfl (by decide)
theorem dX3_advance_177 : decode cX3_advance 177 = .ok (.aload_n 0, 1) := dk_42 (blk_at bk_cX3_advance_156 21 rfl)
theorem dX3_advance_178 : decode cX3_advance 178 = .ok (.iconst 2, 1) := dk_5 (blk_at bk_cX3_advance_156 22 rfl)
theorem dX3_advance_179 : decode cX3_advance 179 = .ok (.putfield 48, 3) := dq_181 bk_cX3_advance_156 23 rfl rfl
theorem dX3_advance_182 : decode cX3_advance 182 = .ok (.aload_n 0, 1) := dk_42 (blk_at bk_cX3_advance_156 26 rfl)
theorem dX3_advance_183 : decode cX3_advance 183 = .ok (.getfield 45, 3) := dq_180 bk_cX3_advance_156 27 rfl rfl
theorem dX3_advance_186 : decode cX3_advance 186 = .ok (.aload_n 0, 1) := dk_42 (blk_at bk_cX3_advance_156 30 rfl)
theorem dX3_advance_187 : decode cX3_advance 187 = .ok (.getfield 39, 3) := dq_180 bk_cX3_advance_156 31 rfl rfl
theorem dX3_advance_190 : decode cX3_advance 190 = .ok (.if_icmp .ge 88, 3) := dq_162 bk_cX3_advance_156 34 rfl (by decide)
theorem dX3_advance_193 : decode cX3_advance 193 = .ok (.aload_n 0, 1) := dk_42 (blk_at bk_cX3_advance_156 37 rfl)
theorem bk_cX3_advance_194 : (cX3_advance.data.toList.drop 194).take 40 = [180, 0, 35, 42, 180, 0, 45, 51, 184, 0, 211, 153, 0, 73, 42, 42, 180, 0, 51, 16, 10, 104, 42, 180, 0, 35, 42, 180, 0, 45, 51, 96, 16, 48, 100, 18, 214, 184, 0, 75] := by decide +kernel
theorem dX3_advance_194 : decode cX3_advance 194 = .ok (.getfield 35, 3) := dq_180 bk_cX3_advance_194 0 rfl rfl
theorem dX3_advance_197 : decode cX3_advance 197 = .ok (.aload_n 0, 1) := dk_42 (blk_at bk_cX3_advance_194 3 rfl)
theorem dX3_advance_198 : decode cX3_advance 198 = .ok (.getfield 45, 3) := dq_180 bk_cX3_advance_194 4 rfl rfl
theorem dX3_advance_201 : decode cX3_advance 201 = .ok (.baload, 1) := dk_51 (blk_at bk_cX3_advance_194 7 rfl)
theorem dX3_advance_202 : decode cX3_advance 202 = .ok (.invokestatic 211, 3) := dq_184 bk_cX3_advance_194 8 rfl rfl
theorem dX3_advance_205 : decode cX3_advance 205 = .ok (.ifCond .eq 73, 3) := dq_153 bk_cX3_advance_194 11 rfl (by decide)
theorem dX3_advance_208 : decode cX3_advance 208 = .ok (.aload_n 0, 1) := dk_42 (blk_at bk_cX3_advance_194 14 rfl)
theorem dX3_advance_209 : decode cX3_advance 209 = .ok (.aload_n 0, 1) := dk_42 (blk_at bk_cX3_advance_194 15 rfl)
theorem dX3_advance_210 : decode cX3_advance 210 = .ok (.getfield 51, 3) := dq_180 bk_cX3_advance_194 16 rfl rfl
theorem dX3_advance_213 : decode cX3_advance 213 = .ok (.bipush 10, 2) := dq_16 bk_cX3_advance_194 19 rfl (by decide)
theorem dX3_advance_215 : decode cX3_advance 215 = .ok (.imul, 1) := dk_104 (blk_at bk_cX3_advance_194 21 rfl)
theorem dX3_advance_216 : decode cX3_advance 216 = .ok (.aload_n 0, 1) := dk_42 (blk_at bk_cX3_advance_194 22 rfl)
theorem dX3_advance_217 : decode cX3_advance 217 = .ok (.getfield 35, 3) := dq_180 bk_cX3_advance_194 23 rfl rfl
theorem dX3_advance_220 : decode cX3_advance 220 = .ok (.aload_n 0, 1) := dk_42 (blk_at bk_cX3_advance_194 26 rfl)
theorem dX3_advance_221 : decode cX3_advance 221 = .ok (.getfield 45, 3) := dq_180 bk_cX3_advance_194 27 rfl rfl
theorem dX3_advance_224 : decode cX3_advance 224 = .ok (.baload, 1) := dk_51 (blk_at bk_cX3_advance_194 30 rfl)
theorem dX3_advance_225 : decode cX3_advance 225 = .ok (.iadd, 1) := dk_96 (blk_at bk_cX3_advance_194 31 rfl)
theorem dX3_advance_226 : decode cX3_advance 226 = .ok (.bipush 48, 2) := dq_16 bk_cX3_advance_194 32 rfl (by decide)
theorem dX3_advance_228 : decode cX3_advance 228 = .ok (.isub, 1) := dk_100 (blk_at bk_cX3_advance_194 34 rfl)
theorem dX3_advance_229 : decode cX3_advance 229 = .ok (.ldc 214, 2) := dq_18 bk_cX3_advance_194 35 rfl rfl
theorem dX3_advance_231 : decode cX3_advance 231 = .ok (.invokestatic 75, 3) := dq_184 bk_cX3_advance_194 37 rfl rfl
theorem bk_cX3_advance_234 : (cX3_advance.data.toList.drop 234).take 40 = [181, 0, 51, 42, 89, 180, 0, 45, 4, 96, 181, 0, 45, 167, 255, 191, 42, 6, 181, 0, 48, 42, 42, 180, 0, 35, 42, 180, 0, 42, 51, 181, 0, 51, 42, 89, 180, 0, 45, 4] := by decide +kernel
theorem dX3_advance_234 : decode cX3_advance 234 = .ok (.putfield 51, 3) := dq_181 bk_cX3_advance_234 0 rfl rfl
theorem dX3_advance_237 : decode cX3_advance 237 = .ok (.aload_n 0, 1) := dk_42 (blk_at bk_cX3_advance_234 3 rfl)
theorem dX3_advance_238 : decode cX3_advance 238 = .ok (.dup, 1) := dk_89 (blk_at bk_cX3_advance_234 4 rfl)
theorem dX3_advance_239 : decode cX3_advance 239 = .ok (.getfield 45, 3) := dq_180 bk_cX3_advance_234 5 rfl rfl
theorem dX3_advance_242 : decode cX3_advance 242 = .ok (.iconst 1, 1) := dk_4 (blk_at bk_cX3_advance_234 8 rfl)
theorem dX3_advance_243 : decode cX3_advance 243 = .ok (.iadd, 1) := dk_96 (blk_at bk_cX3_advance_234 9 rfl)
theorem dX3_advance_244 : decode cX3_advance 244 = .ok (.putfield 45, 3) := dq_181 bk_cX3_advance_234 10 rfl rfl
theorem dX3_advance_247 : decode cX3_advance 247 = .ok (.goto (-65), 3) := dq_167 bk_cX3_advance_234 13 rfl (by decide)
theorem dX3_advance_250 : decode cX3_advance 250 = .ok (.aload_n 0, 1) := dk_42 (blk_at bk_cX3_advance_234 16 rfl)
theorem dX3_advance_251 : decode cX3_advance 251 = .ok (.iconst 3, 1) := dk_6 (blk_at bk_cX3_advance_234 17 rfl)
theorem dX3_advance_252 : decode cX3_advance 252 = .ok (.putfield 48, 3) := dq_181 bk_cX3_advance_234 18 rfl rfl
theorem dX3_advance_255 : decode cX3_advance 255 = .ok (.aload_n 0, 1) := dk_42 (blk_at bk_cX3_advance_234 21 rfl)
theorem dX3_advance_256 : decode cX3_advance 256 = .ok (.aload_n 0, 1) := dk_42 (blk_at bk_cX3_advance_234 22 rfl)
theorem dX3_advance_257 : decode cX3_advance 257 = .ok (.getfield 35, 3) := dq_180 bk_cX3_advance_234 23 rfl rfl
theorem dX3_advance_260 : decode cX3_advance 260 = .ok (.aload_n 0, 1) := dk_42 (blk_at bk_cX3_advance_234 26 rfl)
theorem dX3_advance_261 : decode cX3_advance 261 = .ok (.getfield 42, 3) := dq_180 bk_cX3_advance_234 27 rfl rfl
theorem dX3_advance_264 : decode cX3_advance 264 = .ok (.baload, 1) := dk_51 (blk_at bk_cX3_advance_234 30 rfl)
theorem dX3_advance_265 : decode cX3_advance 265 = .ok (.putfield 51, 3) := dq_181 bk_cX3_advance_234 31 rfl rfl
theorem dX3_advance_268 : decode cX3_advance 268 = .ok (.aload_n 0, 1) := dk_42 (blk_at bk_cX3_advance_234 34 rfl)
theorem dX3_advance_269 : decode cX3_advance 269 = .ok (.dup, 1) := dk_89 (blk_at bk_cX3_advance_234 35 rfl)
theorem dX3_advance_270 : decode cX3_advance 270 = .ok (.getfield 45, 3) := dq_180 bk_cX3_advance_234 36 rfl rfl
theorem dX3_advance_273 : decode cX3_advance 273 = .ok (.iconst 1, 1) := dk_4 (blk_at bk_cX3_advance_234 39 rfl)
theorem bk_cX3_advance_274 : (cX3_advance.data.toList.drop 274).take 5 = [96, 181, 0, 45, 177] := by decide +kernel
theorem dX3_advance_274 : decode cX3_advance 274 = .ok (.iadd, 1) := dk_96 (blk_at bk_cX3_advance_274 0 rfl)
theorem dX3_advance_275 : decode cX3_advance 275 = .ok (.putfield 45, 3) := dq_181 bk_cX3_advance_274 1 rfl rfl
theorem dX3_advance_278 : decode cX3_advance 278 = .ok (.return_, 1) := dk_177 (blk_at bk_cX3_advance_274 4 rfl)
theorem bk_cX3_wordTold_0 : (cX3_wordTold.data.toList.drop 0).take 39 = [3, 60, 42, 180, 0, 42, 61, 4, 62, 3, 54, 4, 21, 4, 18, 215, 182, 0, 217, 162, 0, 84, 18, 215, 21, 4, 182, 0, 221, 54, 5, 21, 5, 16, 32, 160, 0, 30, 29] := by decide +kernel
theorem dX3_wordTold_0 : decode cX3_wordTold 0 = .ok (.iconst 0, 1) := dk_3 (blk_at bk_cX3_wordTold_0 0 rfl)
theorem dX3_wordTold_1 : decode cX3_wordTold 1 = .ok (.istore_n 1, 1) := dk_60 (blk_at bk_cX3_wordTold_0 1 rfl)
theorem dX3_wordTold_2 : decode cX3_wordTold 2 = .ok (.aload_n 0, 1) := dk_42 (blk_at bk_cX3_wordTold_0 2 rfl)
theorem dX3_wordTold_3 : decode cX3_wordTold 3 = .ok (.getfield 42, 3) := dq_180 bk_cX3_wordTold_0 3 rfl rfl
theorem dX3_wordTold_6 : decode cX3_wordTold 6 = .ok (.istore_n 2, 1) := dk_61 (blk_at bk_cX3_wordTold_0 6 rfl)
theorem dX3_wordTold_7 : decode cX3_wordTold 7 = .ok (.iconst 1, 1) := dk_4 (blk_at bk_cX3_wordTold_0 7 rfl)
theorem dX3_wordTold_8 : decode cX3_wordTold 8 = .ok (.istore_n 3, 1) := dk_62 (blk_at bk_cX3_wordTold_0 8 rfl)
theorem dX3_wordTold_9 : decode cX3_wordTold 9 = .ok (.iconst 0, 1) := dk_3 (blk_at bk_cX3_wordTold_0 9 rfl)
theorem dX3_wordTold_10 : decode cX3_wordTold 10 = .ok (.istore 4, 2) := dq_54 bk_cX3_wordTold_0 10 rfl rfl
theorem dX3_wordTold_12 : decode cX3_wordTold 12 = .ok (.iload 4, 2) := dq_21 bk_cX3_wordTold_0 12 rfl rfl
theorem dX3_wordTold_14 : decode cX3_wordTold 14 = .ok (.ldc 215, 2) := dq_18 bk_cX3_wordTold_0 14 rfl rfl
theorem dX3_wordTold_16 : decode cX3_wordTold 16 = .ok (.invokevirtual 217, 3) := dq_182 bk_cX3_wordTold_0 16 rfl rfl
theorem dX3_wordTold_19 : decode cX3_wordTold 19 = .ok (.if_icmp .ge 84, 3) := dq_162 bk_cX3_wordTold_0 19 rfl (by decide)
theorem dX3_wordTold_22 : decode cX3_wordTold 22 = .ok (.ldc 215, 2) := dq_18 bk_cX3_wordTold_0 22 rfl rfl
theorem dX3_wordTold_24 : decode cX3_wordTold 24 = .ok (.iload 4, 2) := dq_21 bk_cX3_wordTold_0 24 rfl rfl
theorem dX3_wordTold_26 : decode cX3_wordTold 26 = .ok (.invokevirtual 221, 3) := dq_182 bk_cX3_wordTold_0 26 rfl rfl
theorem dX3_wordTold_29 : decode cX3_wordTold 29 = .ok (.istore 5, 2) := dq_54 bk_cX3_wordTold_0 29 rfl rfl
theorem dX3_wordTold_31 : decode cX3_wordTold 31 = .ok (.iload 5, 2) := dq_21 bk_cX3_wordTold_0 31 rfl rfl
theorem dX3_wordTold_33 : decode cX3_wordTold 33 = .ok (.bipush 32, 2) := dq_16 bk_cX3_wordTold_0 33 rfl (by decide)
theorem dX3_wordTold_35 : decode cX3_wordTold 35 = .ok (.if_icmp .ne 30, 3) := dq_160 bk_cX3_wordTold_0 35 rfl (by decide)
theorem dX3_wordTold_38 : decode cX3_wordTold 38 = .ok (.iload_n 3, 1) := dk_29 (blk_at bk_cX3_wordTold_0 38 rfl)
theorem bk_cX3_wordTold_39 : (cX3_wordTold.data.toList.drop 39).take 39 = [153, 0, 13, 28, 42, 180, 0, 45, 160, 0, 5, 27, 172, 132, 1, 1, 42, 180, 0, 42, 61, 4, 62, 167, 0, 35, 29, 153, 0, 26, 28, 42, 180, 0, 45, 162, 0, 18, 42] := by decide +kernel
theorem dX3_wordTold_39 : decode cX3_wordTold 39 = .ok (.ifCond .eq 13, 3) := dq_153 bk_cX3_wordTold_39 0 rfl (by decide)
theorem dX3_wordTold_42 : decode cX3_wordTold 42 = .ok (.iload_n 2, 1) := dk_28 (blk_at bk_cX3_wordTold_39 3 rfl)
theorem dX3_wordTold_43 : decode cX3_wordTold 43 = .ok (.aload_n 0, 1) := dk_42 (blk_at bk_cX3_wordTold_39 4 rfl)
theorem dX3_wordTold_44 : decode cX3_wordTold 44 = .ok (.getfield 45, 3) := dq_180 bk_cX3_wordTold_39 5 rfl rfl
theorem dX3_wordTold_47 : decode cX3_wordTold 47 = .ok (.if_icmp .ne 5, 3) := dq_160 bk_cX3_wordTold_39 8 rfl (by decide)
theorem dX3_wordTold_50 : decode cX3_wordTold 50 = .ok (.iload_n 1, 1) := dk_27 (blk_at bk_cX3_wordTold_39 11 rfl)
theorem dX3_wordTold_51 : decode cX3_wordTold 51 = .ok (.ireturn, 1) := dk_172 (blk_at bk_cX3_wordTold_39 12 rfl)
theorem dX3_wordTold_52 : decode cX3_wordTold 52 = .ok (.iinc 1 1, 3) := dq_132 bk_cX3_wordTold_39 13 rfl rfl (by decide)
theorem dX3_wordTold_55 : decode cX3_wordTold 55 = .ok (.aload_n 0, 1) := dk_42 (blk_at bk_cX3_wordTold_39 16 rfl)
theorem dX3_wordTold_56 : decode cX3_wordTold 56 = .ok (.getfield 42, 3) := dq_180 bk_cX3_wordTold_39 17 rfl rfl
theorem dX3_wordTold_59 : decode cX3_wordTold 59 = .ok (.istore_n 2, 1) := dk_61 (blk_at bk_cX3_wordTold_39 20 rfl)
theorem dX3_wordTold_60 : decode cX3_wordTold 60 = .ok (.iconst 1, 1) := dk_4 (blk_at bk_cX3_wordTold_39 21 rfl)
theorem dX3_wordTold_61 : decode cX3_wordTold 61 = .ok (.istore_n 3, 1) := dk_62 (blk_at bk_cX3_wordTold_39 22 rfl)
theorem dX3_wordTold_62 : decode cX3_wordTold 62 = .ok (.goto 35, 3) := dq_167 bk_cX3_wordTold_39 23 rfl (by decide)
theorem dX3_wordTold_65 : decode cX3_wordTold 65 = .ok (.iload_n 3, 1) := dk_29 (blk_at bk_cX3_wordTold_39 26 rfl)
theorem dX3_wordTold_66 : decode cX3_wordTold 66 = .ok (.ifCond .eq 26, 3) := dq_153 bk_cX3_wordTold_39 27 rfl (by decide)
theorem dX3_wordTold_69 : decode cX3_wordTold 69 = .ok (.iload_n 2, 1) := dk_28 (blk_at bk_cX3_wordTold_39 30 rfl)
theorem dX3_wordTold_70 : decode cX3_wordTold 70 = .ok (.aload_n 0, 1) := dk_42 (blk_at bk_cX3_wordTold_39 31 rfl)
theorem dX3_wordTold_71 : decode cX3_wordTold 71 = .ok (.getfield 45, 3) := dq_180 bk_cX3_wordTold_39 32 rfl rfl
theorem dX3_wordTold_74 : decode cX3_wordTold 74 = .ok (.if_icmp .ge 18, 3) := dq_162 bk_cX3_wordTold_39 35 rfl (by decide)
theorem dX3_wordTold_77 : decode cX3_wordTold 77 = .ok (.aload_n 0, 1) := dk_42 (blk_at bk_cX3_wordTold_39 38 rfl)
theorem bk_cX3_wordTold_78 : (cX3_wordTold.data.toList.drop 78).take 27 = [180, 0, 35, 28, 51, 21, 5, 160, 0, 7, 4, 167, 0, 4, 3, 62, 132, 2, 1, 132, 4, 1, 167, 255, 168, 2, 172] := by decide +kernel
theorem dX3_wordTold_78 : decode cX3_wordTold 78 = .ok (.getfield 35, 3) := dq_180 bk_cX3_wordTold_78 0 rfl rfl
theorem dX3_wordTold_81 : decode cX3_wordTold 81 = .ok (.iload_n 2, 1) := dk_28 (blk_at bk_cX3_wordTold_78 3 rfl)
theorem dX3_wordTold_82 : decode cX3_wordTold 82 = .ok (.baload, 1) := dk_51 (blk_at bk_cX3_wordTold_78 4 rfl)
theorem dX3_wordTold_83 : decode cX3_wordTold 83 = .ok (.iload 5, 2) := dq_21 bk_cX3_wordTold_78 5 rfl rfl
theorem dX3_wordTold_85 : decode cX3_wordTold 85 = .ok (.if_icmp .ne 7, 3) := dq_160 bk_cX3_wordTold_78 7 rfl (by decide)
theorem dX3_wordTold_88 : decode cX3_wordTold 88 = .ok (.iconst 1, 1) := dk_4 (blk_at bk_cX3_wordTold_78 10 rfl)
theorem dX3_wordTold_89 : decode cX3_wordTold 89 = .ok (.goto 4, 3) := dq_167 bk_cX3_wordTold_78 11 rfl (by decide)
theorem dX3_wordTold_92 : decode cX3_wordTold 92 = .ok (.iconst 0, 1) := dk_3 (blk_at bk_cX3_wordTold_78 14 rfl)
theorem dX3_wordTold_93 : decode cX3_wordTold 93 = .ok (.istore_n 3, 1) := dk_62 (blk_at bk_cX3_wordTold_78 15 rfl)
theorem dX3_wordTold_94 : decode cX3_wordTold 94 = .ok (.iinc 2 1, 3) := dq_132 bk_cX3_wordTold_78 16 rfl rfl (by decide)
theorem dX3_wordTold_97 : decode cX3_wordTold 97 = .ok (.iinc 4 1, 3) := dq_132 bk_cX3_wordTold_78 19 rfl rfl (by decide)
theorem dX3_wordTold_100 : decode cX3_wordTold 100 = .ok (.goto (-88), 3) := dq_167 bk_cX3_wordTold_78 22 rfl (by decide)
theorem dX3_wordTold_103 : decode cX3_wordTold 103 = .ok (.iconst (-1), 1) := dk_2 (blk_at bk_cX3_wordTold_78 25 rfl)
theorem dX3_wordTold_104 : decode cX3_wordTold 104 = .ok (.ireturn, 1) := dk_172 (blk_at bk_cX3_wordTold_78 26 rfl)
theorem dX4_init_32 : decode cX4_init 32 = .ok (.newarray .int, 2) := by decide +kernel
theorem dX4_init_40 : decode cX4_init 40 = .ok (.newarray .int, 2) := by decide +kernel
theorem bk_cX4_init_0 : (cX4_init.data.toList.drop 0).take 40 = [42, 183, 0, 3, 42, 3, 181, 0, 9, 42, 3, 181, 0, 15, 42, 3, 181, 0, 18, 42, 3, 181, 0, 21, 42, 3, 181, 0, 24, 42, 16, 24, 188, 10, 181, 0, 27, 42, 16, 24] := by decide +kernel
theorem dX4_init_0 : decode cX4_init 0 = .ok (.aload_n 0, 1) := dk_42 (blk_at bk_cX4_init_0 0 rfl)
theorem dX4_init_1 : decode cX4_init 1 = .ok (.invokespecial 3, 3) := dq_183 bk_cX4_init_0 1 rfl rfl
theorem dX4_init_4 : decode cX4_init 4 = .ok (.aload_n 0, 1) := dk_42 (blk_at bk_cX4_init_0 4 rfl)
theorem dX4_init_5 : decode cX4_init 5 = .ok (.iconst 0, 1) := dk_3 (blk_at bk_cX4_init_0 5 rfl)
theorem dX4_init_6 : decode cX4_init 6 = .ok (.putfield 9, 3) := dq_181 bk_cX4_init_0 6 rfl rfl
theorem dX4_init_9 : decode cX4_init 9 = .ok (.aload_n 0, 1) := dk_42 (blk_at bk_cX4_init_0 9 rfl)
theorem dX4_init_10 : decode cX4_init 10 = .ok (.iconst 0, 1) := dk_3 (blk_at bk_cX4_init_0 10 rfl)
theorem dX4_init_11 : decode cX4_init 11 = .ok (.putfield 15, 3) := dq_181 bk_cX4_init_0 11 rfl rfl
theorem dX4_init_14 : decode cX4_init 14 = .ok (.aload_n 0, 1) := dk_42 (blk_at bk_cX4_init_0 14 rfl)
theorem dX4_init_15 : decode cX4_init 15 = .ok (.iconst 0, 1) := dk_3 (blk_at bk_cX4_init_0 15 rfl)
theorem dX4_init_16 : decode cX4_init 16 = .ok (.putfield 18, 3) := dq_181 bk_cX4_init_0 16 rfl rfl
theorem dX4_init_19 : decode cX4_init 19 = .ok (.aload_n 0, 1) := dk_42 (blk_at bk_cX4_init_0 19 rfl)
theorem dX4_init_20 : decode cX4_init 20 = .ok (.iconst 0, 1) := dk_3 (blk_at bk_cX4_init_0 20 rfl)
theorem dX4_init_21 : decode cX4_init 21 = .ok (.putfield 21, 3) := dq_181 bk_cX4_init_0 21 rfl rfl
theorem dX4_init_24 : decode cX4_init 24 = .ok (.aload_n 0, 1) := dk_42 (blk_at bk_cX4_init_0 24 rfl)
theorem dX4_init_25 : decode cX4_init 25 = .ok (.iconst 0, 1) := dk_3 (blk_at bk_cX4_init_0 25 rfl)
theorem dX4_init_26 : decode cX4_init 26 = .ok (.putfield 24, 3) := dq_181 bk_cX4_init_0 26 rfl rfl
theorem dX4_init_29 : decode cX4_init 29 = .ok (.aload_n 0, 1) := dk_42 (blk_at bk_cX4_init_0 29 rfl)
theorem dX4_init_30 : decode cX4_init 30 = .ok (.bipush 24, 2) := dq_16 bk_cX4_init_0 30 rfl (by decide)
theorem dX4_init_34 : decode cX4_init 34 = .ok (.putfield 27, 3) := dq_181 bk_cX4_init_0 34 rfl rfl
theorem dX4_init_37 : decode cX4_init 37 = .ok (.aload_n 0, 1) := dk_42 (blk_at bk_cX4_init_0 37 rfl)
theorem dX4_init_38 : decode cX4_init 38 = .ok (.bipush 24, 2) := dq_16 bk_cX4_init_0 38 rfl (by decide)
theorem dX4_init_66 : decode cX4_init 66 = .ok (.newarray .int, 2) := by decide +kernel
theorem bk_cX4_init_42 : (cX4_init.data.toList.drop 42).take 38 = [181, 0, 31, 42, 16, 24, 189, 0, 34, 181, 0, 36, 42, 16, 24, 189, 0, 40, 181, 0, 42, 42, 16, 25, 188, 10, 181, 0, 46, 3, 60, 27, 16, 24, 162, 0, 22, 42] := by decide +kernel
theorem dX4_init_42 : decode cX4_init 42 = .ok (.putfield 31, 3) := dq_181 bk_cX4_init_42 0 rfl rfl
theorem dX4_init_45 : decode cX4_init 45 = .ok (.aload_n 0, 1) := dk_42 (blk_at bk_cX4_init_42 3 rfl)
theorem dX4_init_46 : decode cX4_init 46 = .ok (.bipush 24, 2) := dq_16 bk_cX4_init_42 4 rfl (by decide)
theorem dX4_init_48 : decode cX4_init 48 = .ok (.anewarray 34, 3) := dq_189 bk_cX4_init_42 6 rfl rfl
theorem dX4_init_51 : decode cX4_init 51 = .ok (.putfield 36, 3) := dq_181 bk_cX4_init_42 9 rfl rfl
theorem dX4_init_54 : decode cX4_init 54 = .ok (.aload_n 0, 1) := dk_42 (blk_at bk_cX4_init_42 12 rfl)
theorem dX4_init_55 : decode cX4_init 55 = .ok (.bipush 24, 2) := dq_16 bk_cX4_init_42 13 rfl (by decide)
theorem dX4_init_57 : decode cX4_init 57 = .ok (.anewarray 40, 3) := dq_189 bk_cX4_init_42 15 rfl rfl
theorem dX4_init_60 : decode cX4_init 60 = .ok (.putfield 42, 3) := dq_181 bk_cX4_init_42 18 rfl rfl
theorem dX4_init_63 : decode cX4_init 63 = .ok (.aload_n 0, 1) := dk_42 (blk_at bk_cX4_init_42 21 rfl)
theorem dX4_init_64 : decode cX4_init 64 = .ok (.bipush 25, 2) := dq_16 bk_cX4_init_42 22 rfl (by decide)
theorem dX4_init_68 : decode cX4_init 68 = .ok (.putfield 46, 3) := dq_181 bk_cX4_init_42 26 rfl rfl
theorem dX4_init_71 : decode cX4_init 71 = .ok (.iconst 0, 1) := dk_3 (blk_at bk_cX4_init_42 29 rfl)
theorem dX4_init_72 : decode cX4_init 72 = .ok (.istore_n 1, 1) := dk_60 (blk_at bk_cX4_init_42 30 rfl)
theorem dX4_init_73 : decode cX4_init 73 = .ok (.iload_n 1, 1) := dk_27 (blk_at bk_cX4_init_42 31 rfl)
theorem dX4_init_74 : decode cX4_init 74 = .ok (.bipush 24, 2) := dq_16 bk_cX4_init_42 32 rfl (by decide)
theorem dX4_init_76 : decode cX4_init 76 = .ok (.if_icmp .ge 22, 3) := dq_162 bk_cX4_init_42 34 rfl (by decide)
theorem dX4_init_79 : decode cX4_init 79 = .ok (.aload_n 0, 1) := dk_42 (blk_at bk_cX4_init_42 37 rfl)
theorem bk_cX4_init_80 : (cX4_init.data.toList.drop 80).take 39 = [180, 0, 36, 27, 187, 0, 34, 89, 183, 0, 49, 83, 132, 1, 1, 167, 255, 234, 3, 60, 27, 16, 24, 162, 0, 22, 42, 180, 0, 42, 27, 187, 0, 40, 89, 183, 0, 50, 83] := by decide +kernel
theorem dX4_init_80 : decode cX4_init 80 = .ok (.getfield 36, 3) := dq_180 bk_cX4_init_80 0 rfl rfl
theorem dX4_init_83 : decode cX4_init 83 = .ok (.iload_n 1, 1) := dk_27 (blk_at bk_cX4_init_80 3 rfl)
theorem dX4_init_84 : decode cX4_init 84 = .ok (.new 34, 3) := dq_187 bk_cX4_init_80 4 rfl rfl
theorem dX4_init_87 : decode cX4_init 87 = .ok (.dup, 1) := dk_89 (blk_at bk_cX4_init_80 7 rfl)
theorem dX4_init_88 : decode cX4_init 88 = .ok (.invokespecial 49, 3) := dq_183 bk_cX4_init_80 8 rfl rfl
theorem dX4_init_91 : decode cX4_init 91 = .ok (.aastore, 1) := dk_83 (blk_at bk_cX4_init_80 11 rfl)
theorem dX4_init_92 : decode cX4_init 92 = .ok (.iinc 1 1, 3) := dq_132 bk_cX4_init_80 12 rfl rfl (by decide)
theorem dX4_init_95 : decode cX4_init 95 = .ok (.goto (-22), 3) := dq_167 bk_cX4_init_80 15 rfl (by decide)
theorem dX4_init_98 : decode cX4_init 98 = .ok (.iconst 0, 1) := dk_3 (blk_at bk_cX4_init_80 18 rfl)
theorem dX4_init_99 : decode cX4_init 99 = .ok (.istore_n 1, 1) := dk_60 (blk_at bk_cX4_init_80 19 rfl)
theorem dX4_init_100 : decode cX4_init 100 = .ok (.iload_n 1, 1) := dk_27 (blk_at bk_cX4_init_80 20 rfl)
theorem dX4_init_101 : decode cX4_init 101 = .ok (.bipush 24, 2) := dq_16 bk_cX4_init_80 21 rfl (by decide)
theorem dX4_init_103 : decode cX4_init 103 = .ok (.if_icmp .ge 22, 3) := dq_162 bk_cX4_init_80 23 rfl (by decide)
theorem dX4_init_106 : decode cX4_init 106 = .ok (.aload_n 0, 1) := dk_42 (blk_at bk_cX4_init_80 26 rfl)
theorem dX4_init_107 : decode cX4_init 107 = .ok (.getfield 42, 3) := dq_180 bk_cX4_init_80 27 rfl rfl
theorem dX4_init_110 : decode cX4_init 110 = .ok (.iload_n 1, 1) := dk_27 (blk_at bk_cX4_init_80 30 rfl)
theorem dX4_init_111 : decode cX4_init 111 = .ok (.new 40, 3) := dq_187 bk_cX4_init_80 31 rfl rfl
theorem dX4_init_114 : decode cX4_init 114 = .ok (.dup, 1) := dk_89 (blk_at bk_cX4_init_80 34 rfl)
theorem dX4_init_115 : decode cX4_init 115 = .ok (.invokespecial 50, 3) := dq_183 bk_cX4_init_80 35 rfl rfl
theorem dX4_init_118 : decode cX4_init 118 = .ok (.aastore, 1) := dk_83 (blk_at bk_cX4_init_80 38 rfl)
theorem bk_cX4_init_119 : (cX4_init.data.toList.drop 119).take 7 = [132, 1, 1, 167, 255, 234, 177] := by decide +kernel
theorem dX4_init_119 : decode cX4_init 119 = .ok (.iinc 1 1, 3) := dq_132 bk_cX4_init_119 0 rfl rfl (by decide)
theorem dX4_init_122 : decode cX4_init 122 = .ok (.goto (-22), 3) := dq_167 bk_cX4_init_119 3 rfl (by decide)
theorem dX4_init_125 : decode cX4_init 125 = .ok (.return_, 1) := dk_177 (blk_at bk_cX4_init_119 6 rfl)
theorem bk_cX4_copyFrom_0 : (cX4_copyFrom.data.toList.drop 0).take 40 = [42, 43, 180, 0, 9, 181, 0, 9, 42, 43, 180, 0, 15, 181, 0, 15, 42, 43, 180, 0, 18, 181, 0, 18, 42, 43, 180, 0, 21, 181, 0, 21, 42, 43, 180, 0, 24, 181, 0, 24] := by decide +kernel
theorem dX4_copyFrom_0 : decode cX4_copyFrom 0 = .ok (.aload_n 0, 1) := dk_42 (blk_at bk_cX4_copyFrom_0 0 rfl)
theorem dX4_copyFrom_1 : decode cX4_copyFrom 1 = .ok (.aload_n 1, 1) := dk_43 (blk_at bk_cX4_copyFrom_0 1 rfl)
theorem dX4_copyFrom_2 : decode cX4_copyFrom 2 = .ok (.getfield 9, 3) := dq_180 bk_cX4_copyFrom_0 2 rfl rfl
theorem dX4_copyFrom_5 : decode cX4_copyFrom 5 = .ok (.putfield 9, 3) := dq_181 bk_cX4_copyFrom_0 5 rfl rfl
theorem dX4_copyFrom_8 : decode cX4_copyFrom 8 = .ok (.aload_n 0, 1) := dk_42 (blk_at bk_cX4_copyFrom_0 8 rfl)
theorem dX4_copyFrom_9 : decode cX4_copyFrom 9 = .ok (.aload_n 1, 1) := dk_43 (blk_at bk_cX4_copyFrom_0 9 rfl)
theorem dX4_copyFrom_10 : decode cX4_copyFrom 10 = .ok (.getfield 15, 3) := dq_180 bk_cX4_copyFrom_0 10 rfl rfl
theorem dX4_copyFrom_13 : decode cX4_copyFrom 13 = .ok (.putfield 15, 3) := dq_181 bk_cX4_copyFrom_0 13 rfl rfl
theorem dX4_copyFrom_16 : decode cX4_copyFrom 16 = .ok (.aload_n 0, 1) := dk_42 (blk_at bk_cX4_copyFrom_0 16 rfl)
theorem dX4_copyFrom_17 : decode cX4_copyFrom 17 = .ok (.aload_n 1, 1) := dk_43 (blk_at bk_cX4_copyFrom_0 17 rfl)
theorem dX4_copyFrom_18 : decode cX4_copyFrom 18 = .ok (.getfield 18, 3) := dq_180 bk_cX4_copyFrom_0 18 rfl rfl
theorem dX4_copyFrom_21 : decode cX4_copyFrom 21 = .ok (.putfield 18, 3) := dq_181 bk_cX4_copyFrom_0 21 rfl rfl
theorem dX4_copyFrom_24 : decode cX4_copyFrom 24 = .ok (.aload_n 0, 1) := dk_42 (blk_at bk_cX4_copyFrom_0 24 rfl)
theorem dX4_copyFrom_25 : decode cX4_copyFrom 25 = .ok (.aload_n 1, 1) := dk_43 (blk_at bk_cX4_copyFrom_0 25 rfl)
theorem dX4_copyFrom_26 : decode cX4_copyFrom 26 = .ok (.getfield 21, 3) := dq_180 bk_cX4_copyFrom_0 26 rfl rfl
theorem dX4_copyFrom_29 : decode cX4_copyFrom 29 = .ok (.putfield 21, 3) := dq_181 bk_cX4_copyFrom_0 29 rfl rfl
theorem dX4_copyFrom_32 : decode cX4_copyFrom 32 = .ok (.aload_n 0, 1) := dk_42 (blk_at bk_cX4_copyFrom_0 32 rfl)
theorem dX4_copyFrom_33 : decode cX4_copyFrom 33 = .ok (.aload_n 1, 1) := dk_43 (blk_at bk_cX4_copyFrom_0 33 rfl)
theorem dX4_copyFrom_34 : decode cX4_copyFrom 34 = .ok (.getfield 24, 3) := dq_180 bk_cX4_copyFrom_0 34 rfl rfl
theorem dX4_copyFrom_37 : decode cX4_copyFrom 37 = .ok (.putfield 24, 3) := dq_181 bk_cX4_copyFrom_0 37 rfl rfl
theorem bk_cX4_copyFrom_40 : (cX4_copyFrom.data.toList.drop 40).take 40 = [3, 61, 28, 16, 24, 162, 0, 33, 42, 180, 0, 27, 28, 43, 180, 0, 27, 28, 46, 79, 42, 180, 0, 31, 28, 43, 180, 0, 31, 28, 46, 79, 132, 2, 1, 167, 255, 223, 3, 61] := by decide +kernel
theorem dX4_copyFrom_40 : decode cX4_copyFrom 40 = .ok (.iconst 0, 1) := dk_3 (blk_at bk_cX4_copyFrom_40 0 rfl)
theorem dX4_copyFrom_41 : decode cX4_copyFrom 41 = .ok (.istore_n 2, 1) := dk_61 (blk_at bk_cX4_copyFrom_40 1 rfl)
theorem dX4_copyFrom_42 : decode cX4_copyFrom 42 = .ok (.iload_n 2, 1) := dk_28 (blk_at bk_cX4_copyFrom_40 2 rfl)
theorem dX4_copyFrom_43 : decode cX4_copyFrom 43 = .ok (.bipush 24, 2) := dq_16 bk_cX4_copyFrom_40 3 rfl (by decide)
theorem dX4_copyFrom_45 : decode cX4_copyFrom 45 = .ok (.if_icmp .ge 33, 3) := dq_162 bk_cX4_copyFrom_40 5 rfl (by decide)
theorem dX4_copyFrom_48 : decode cX4_copyFrom 48 = .ok (.aload_n 0, 1) := dk_42 (blk_at bk_cX4_copyFrom_40 8 rfl)
theorem dX4_copyFrom_49 : decode cX4_copyFrom 49 = .ok (.getfield 27, 3) := dq_180 bk_cX4_copyFrom_40 9 rfl rfl
theorem dX4_copyFrom_52 : decode cX4_copyFrom 52 = .ok (.iload_n 2, 1) := dk_28 (blk_at bk_cX4_copyFrom_40 12 rfl)
theorem dX4_copyFrom_53 : decode cX4_copyFrom 53 = .ok (.aload_n 1, 1) := dk_43 (blk_at bk_cX4_copyFrom_40 13 rfl)
theorem dX4_copyFrom_54 : decode cX4_copyFrom 54 = .ok (.getfield 27, 3) := dq_180 bk_cX4_copyFrom_40 14 rfl rfl
theorem dX4_copyFrom_57 : decode cX4_copyFrom 57 = .ok (.iload_n 2, 1) := dk_28 (blk_at bk_cX4_copyFrom_40 17 rfl)
theorem dX4_copyFrom_58 : decode cX4_copyFrom 58 = .ok (.iaload, 1) := dk_46 (blk_at bk_cX4_copyFrom_40 18 rfl)
theorem dX4_copyFrom_59 : decode cX4_copyFrom 59 = .ok (.iastore, 1) := dk_79 (blk_at bk_cX4_copyFrom_40 19 rfl)
theorem dX4_copyFrom_60 : decode cX4_copyFrom 60 = .ok (.aload_n 0, 1) := dk_42 (blk_at bk_cX4_copyFrom_40 20 rfl)
theorem dX4_copyFrom_61 : decode cX4_copyFrom 61 = .ok (.getfield 31, 3) := dq_180 bk_cX4_copyFrom_40 21 rfl rfl
theorem dX4_copyFrom_64 : decode cX4_copyFrom 64 = .ok (.iload_n 2, 1) := dk_28 (blk_at bk_cX4_copyFrom_40 24 rfl)
theorem dX4_copyFrom_65 : decode cX4_copyFrom 65 = .ok (.aload_n 1, 1) := dk_43 (blk_at bk_cX4_copyFrom_40 25 rfl)
theorem dX4_copyFrom_66 : decode cX4_copyFrom 66 = .ok (.getfield 31, 3) := dq_180 bk_cX4_copyFrom_40 26 rfl rfl
theorem dX4_copyFrom_69 : decode cX4_copyFrom 69 = .ok (.iload_n 2, 1) := dk_28 (blk_at bk_cX4_copyFrom_40 29 rfl)
theorem dX4_copyFrom_70 : decode cX4_copyFrom 70 = .ok (.iaload, 1) := dk_46 (blk_at bk_cX4_copyFrom_40 30 rfl)
theorem dX4_copyFrom_71 : decode cX4_copyFrom 71 = .ok (.iastore, 1) := dk_79 (blk_at bk_cX4_copyFrom_40 31 rfl)
theorem dX4_copyFrom_72 : decode cX4_copyFrom 72 = .ok (.iinc 2 1, 3) := dq_132 bk_cX4_copyFrom_40 32 rfl rfl (by decide)
theorem dX4_copyFrom_75 : decode cX4_copyFrom 75 = .ok (.goto (-33), 3) := dq_167 bk_cX4_copyFrom_40 35 rfl (by decide)
theorem dX4_copyFrom_78 : decode cX4_copyFrom 78 = .ok (.iconst 0, 1) := dk_3 (blk_at bk_cX4_copyFrom_40 38 rfl)
theorem dX4_copyFrom_79 : decode cX4_copyFrom 79 = .ok (.istore_n 2, 1) := dk_61 (blk_at bk_cX4_copyFrom_40 39 rfl)
theorem bk_cX4_copyFrom_80 : (cX4_copyFrom.data.toList.drop 80).take 40 = [28, 42, 180, 0, 21, 162, 0, 24, 42, 180, 0, 36, 28, 50, 43, 180, 0, 36, 28, 50, 182, 0, 51, 132, 2, 1, 167, 255, 230, 3, 61, 28, 42, 180, 0, 24, 162, 0, 24, 42] := by decide +kernel
theorem dX4_copyFrom_80 : decode cX4_copyFrom 80 = .ok (.iload_n 2, 1) := dk_28 (blk_at bk_cX4_copyFrom_80 0 rfl)
theorem dX4_copyFrom_81 : decode cX4_copyFrom 81 = .ok (.aload_n 0, 1) := dk_42 (blk_at bk_cX4_copyFrom_80 1 rfl)
theorem dX4_copyFrom_82 : decode cX4_copyFrom 82 = .ok (.getfield 21, 3) := dq_180 bk_cX4_copyFrom_80 2 rfl rfl
theorem dX4_copyFrom_85 : decode cX4_copyFrom 85 = .ok (.if_icmp .ge 24, 3) := dq_162 bk_cX4_copyFrom_80 5 rfl (by decide)
theorem dX4_copyFrom_88 : decode cX4_copyFrom 88 = .ok (.aload_n 0, 1) := dk_42 (blk_at bk_cX4_copyFrom_80 8 rfl)
theorem dX4_copyFrom_89 : decode cX4_copyFrom 89 = .ok (.getfield 36, 3) := dq_180 bk_cX4_copyFrom_80 9 rfl rfl
theorem dX4_copyFrom_92 : decode cX4_copyFrom 92 = .ok (.iload_n 2, 1) := dk_28 (blk_at bk_cX4_copyFrom_80 12 rfl)
theorem dX4_copyFrom_93 : decode cX4_copyFrom 93 = .ok (.aaload, 1) := dk_50 (blk_at bk_cX4_copyFrom_80 13 rfl)
theorem dX4_copyFrom_94 : decode cX4_copyFrom 94 = .ok (.aload_n 1, 1) := dk_43 (blk_at bk_cX4_copyFrom_80 14 rfl)
theorem dX4_copyFrom_95 : decode cX4_copyFrom 95 = .ok (.getfield 36, 3) := dq_180 bk_cX4_copyFrom_80 15 rfl rfl
theorem dX4_copyFrom_98 : decode cX4_copyFrom 98 = .ok (.iload_n 2, 1) := dk_28 (blk_at bk_cX4_copyFrom_80 18 rfl)
theorem dX4_copyFrom_99 : decode cX4_copyFrom 99 = .ok (.aaload, 1) := dk_50 (blk_at bk_cX4_copyFrom_80 19 rfl)
theorem dX4_copyFrom_100 : decode cX4_copyFrom 100 = .ok (.invokevirtual 51, 3) := dq_182 bk_cX4_copyFrom_80 20 rfl rfl
theorem dX4_copyFrom_103 : decode cX4_copyFrom 103 = .ok (.iinc 2 1, 3) := dq_132 bk_cX4_copyFrom_80 23 rfl rfl (by decide)
theorem dX4_copyFrom_106 : decode cX4_copyFrom 106 = .ok (.goto (-26), 3) := dq_167 bk_cX4_copyFrom_80 26 rfl (by decide)
theorem dX4_copyFrom_109 : decode cX4_copyFrom 109 = .ok (.iconst 0, 1) := dk_3 (blk_at bk_cX4_copyFrom_80 29 rfl)
theorem dX4_copyFrom_110 : decode cX4_copyFrom 110 = .ok (.istore_n 2, 1) := dk_61 (blk_at bk_cX4_copyFrom_80 30 rfl)
theorem dX4_copyFrom_111 : decode cX4_copyFrom 111 = .ok (.iload_n 2, 1) := dk_28 (blk_at bk_cX4_copyFrom_80 31 rfl)
theorem dX4_copyFrom_112 : decode cX4_copyFrom 112 = .ok (.aload_n 0, 1) := dk_42 (blk_at bk_cX4_copyFrom_80 32 rfl)
theorem dX4_copyFrom_113 : decode cX4_copyFrom 113 = .ok (.getfield 24, 3) := dq_180 bk_cX4_copyFrom_80 33 rfl rfl
theorem dX4_copyFrom_116 : decode cX4_copyFrom 116 = .ok (.if_icmp .ge 24, 3) := dq_162 bk_cX4_copyFrom_80 36 rfl (by decide)
theorem dX4_copyFrom_119 : decode cX4_copyFrom 119 = .ok (.aload_n 0, 1) := dk_42 (blk_at bk_cX4_copyFrom_80 39 rfl)
theorem bk_cX4_copyFrom_120 : (cX4_copyFrom.data.toList.drop 120).take 21 = [180, 0, 42, 28, 50, 43, 180, 0, 42, 28, 50, 182, 0, 55, 132, 2, 1, 167, 255, 230, 177] := by decide +kernel
theorem dX4_copyFrom_120 : decode cX4_copyFrom 120 = .ok (.getfield 42, 3) := dq_180 bk_cX4_copyFrom_120 0 rfl rfl
theorem dX4_copyFrom_123 : decode cX4_copyFrom 123 = .ok (.iload_n 2, 1) := dk_28 (blk_at bk_cX4_copyFrom_120 3 rfl)
theorem dX4_copyFrom_124 : decode cX4_copyFrom 124 = .ok (.aaload, 1) := dk_50 (blk_at bk_cX4_copyFrom_120 4 rfl)
theorem dX4_copyFrom_125 : decode cX4_copyFrom 125 = .ok (.aload_n 1, 1) := dk_43 (blk_at bk_cX4_copyFrom_120 5 rfl)
theorem dX4_copyFrom_126 : decode cX4_copyFrom 126 = .ok (.getfield 42, 3) := dq_180 bk_cX4_copyFrom_120 6 rfl rfl
theorem dX4_copyFrom_129 : decode cX4_copyFrom 129 = .ok (.iload_n 2, 1) := dk_28 (blk_at bk_cX4_copyFrom_120 9 rfl)
theorem dX4_copyFrom_130 : decode cX4_copyFrom 130 = .ok (.aaload, 1) := dk_50 (blk_at bk_cX4_copyFrom_120 10 rfl)
theorem dX4_copyFrom_131 : decode cX4_copyFrom 131 = .ok (.invokevirtual 55, 3) := dq_182 bk_cX4_copyFrom_120 11 rfl rfl
theorem dX4_copyFrom_134 : decode cX4_copyFrom 134 = .ok (.iinc 2 1, 3) := dq_132 bk_cX4_copyFrom_120 14 rfl rfl (by decide)
theorem dX4_copyFrom_137 : decode cX4_copyFrom 137 = .ok (.goto (-26), 3) := dq_167 bk_cX4_copyFrom_120 17 rfl (by decide)
theorem dX4_copyFrom_140 : decode cX4_copyFrom 140 = .ok (.return_, 1) := dk_177 (blk_at bk_cX4_copyFrom_120 20 rfl)
theorem bk_cX4_clear_0 : (cX4_clear.data.toList.drop 0).take 40 = [42, 3, 181, 0, 9, 42, 3, 181, 0, 15, 42, 3, 181, 0, 18, 42, 3, 181, 0, 21, 42, 3, 181, 0, 24, 3, 60, 27, 16, 24, 162, 0, 23, 42, 180, 0, 27, 27, 7, 79] := by decide +kernel
theorem dX4_clear_0 : decode cX4_clear 0 = .ok (.aload_n 0, 1) := dk_42 (blk_at bk_cX4_clear_0 0 rfl)
theorem dX4_clear_1 : decode cX4_clear 1 = .ok (.iconst 0, 1) := dk_3 (blk_at bk_cX4_clear_0 1 rfl)
theorem dX4_clear_2 : decode cX4_clear 2 = .ok (.putfield 9, 3) := dq_181 bk_cX4_clear_0 2 rfl rfl
theorem dX4_clear_5 : decode cX4_clear 5 = .ok (.aload_n 0, 1) := dk_42 (blk_at bk_cX4_clear_0 5 rfl)
theorem dX4_clear_6 : decode cX4_clear 6 = .ok (.iconst 0, 1) := dk_3 (blk_at bk_cX4_clear_0 6 rfl)
theorem dX4_clear_7 : decode cX4_clear 7 = .ok (.putfield 15, 3) := dq_181 bk_cX4_clear_0 7 rfl rfl
theorem dX4_clear_10 : decode cX4_clear 10 = .ok (.aload_n 0, 1) := dk_42 (blk_at bk_cX4_clear_0 10 rfl)
theorem dX4_clear_11 : decode cX4_clear 11 = .ok (.iconst 0, 1) := dk_3 (blk_at bk_cX4_clear_0 11 rfl)
theorem dX4_clear_12 : decode cX4_clear 12 = .ok (.putfield 18, 3) := dq_181 bk_cX4_clear_0 12 rfl rfl
theorem dX4_clear_15 : decode cX4_clear 15 = .ok (.aload_n 0, 1) := dk_42 (blk_at bk_cX4_clear_0 15 rfl)
theorem dX4_clear_16 : decode cX4_clear 16 = .ok (.iconst 0, 1) := dk_3 (blk_at bk_cX4_clear_0 16 rfl)
theorem dX4_clear_17 : decode cX4_clear 17 = .ok (.putfield 21, 3) := dq_181 bk_cX4_clear_0 17 rfl rfl
theorem dX4_clear_20 : decode cX4_clear 20 = .ok (.aload_n 0, 1) := dk_42 (blk_at bk_cX4_clear_0 20 rfl)
theorem dX4_clear_21 : decode cX4_clear 21 = .ok (.iconst 0, 1) := dk_3 (blk_at bk_cX4_clear_0 21 rfl)
theorem dX4_clear_22 : decode cX4_clear 22 = .ok (.putfield 24, 3) := dq_181 bk_cX4_clear_0 22 rfl rfl
theorem dX4_clear_25 : decode cX4_clear 25 = .ok (.iconst 0, 1) := dk_3 (blk_at bk_cX4_clear_0 25 rfl)
theorem dX4_clear_26 : decode cX4_clear 26 = .ok (.istore_n 1, 1) := dk_60 (blk_at bk_cX4_clear_0 26 rfl)
theorem dX4_clear_27 : decode cX4_clear 27 = .ok (.iload_n 1, 1) := dk_27 (blk_at bk_cX4_clear_0 27 rfl)
theorem dX4_clear_28 : decode cX4_clear 28 = .ok (.bipush 24, 2) := dq_16 bk_cX4_clear_0 28 rfl (by decide)
theorem dX4_clear_30 : decode cX4_clear 30 = .ok (.if_icmp .ge 23, 3) := dq_162 bk_cX4_clear_0 30 rfl (by decide)
theorem dX4_clear_33 : decode cX4_clear 33 = .ok (.aload_n 0, 1) := dk_42 (blk_at bk_cX4_clear_0 33 rfl)
theorem dX4_clear_34 : decode cX4_clear 34 = .ok (.getfield 27, 3) := dq_180 bk_cX4_clear_0 34 rfl rfl
theorem dX4_clear_37 : decode cX4_clear 37 = .ok (.iload_n 1, 1) := dk_27 (blk_at bk_cX4_clear_0 37 rfl)
theorem dX4_clear_38 : decode cX4_clear 38 = .ok (.iconst 4, 1) := dk_7 (blk_at bk_cX4_clear_0 38 rfl)
theorem dX4_clear_39 : decode cX4_clear 39 = .ok (.iastore, 1) := dk_79 (blk_at bk_cX4_clear_0 39 rfl)
theorem bk_cX4_clear_40 : (cX4_clear.data.toList.drop 40).take 14 = [42, 180, 0, 31, 27, 7, 79, 132, 1, 1, 167, 255, 233, 177] := by decide +kernel
theorem dX4_clear_40 : decode cX4_clear 40 = .ok (.aload_n 0, 1) := dk_42 (blk_at bk_cX4_clear_40 0 rfl)
theorem dX4_clear_41 : decode cX4_clear 41 = .ok (.getfield 31, 3) := dq_180 bk_cX4_clear_40 1 rfl rfl
theorem dX4_clear_44 : decode cX4_clear 44 = .ok (.iload_n 1, 1) := dk_27 (blk_at bk_cX4_clear_40 4 rfl)
theorem dX4_clear_45 : decode cX4_clear 45 = .ok (.iconst 4, 1) := dk_7 (blk_at bk_cX4_clear_40 5 rfl)
theorem dX4_clear_46 : decode cX4_clear 46 = .ok (.iastore, 1) := dk_79 (blk_at bk_cX4_clear_40 6 rfl)
theorem dX4_clear_47 : decode cX4_clear 47 = .ok (.iinc 1 1, 3) := dq_132 bk_cX4_clear_40 7 rfl rfl (by decide)
theorem dX4_clear_50 : decode cX4_clear 50 = .ok (.goto (-23), 3) := dq_167 bk_cX4_clear_40 10 rfl (by decide)
theorem dX4_clear_53 : decode cX4_clear 53 = .ok (.return_, 1) := dk_177 (blk_at bk_cX4_clear_40 13 rfl)
theorem bk_cX4_addSeries_0 : (cX4_addSeries.data.toList.drop 0).take 24 = [42, 180, 0, 21, 16, 23, 184, 0, 58, 60, 42, 27, 4, 96, 181, 0, 21, 42, 180, 0, 36, 27, 50, 176] := by decide +kernel
theorem dX4_addSeries_0 : decode cX4_addSeries 0 = .ok (.aload_n 0, 1) := dk_42 (blk_at bk_cX4_addSeries_0 0 rfl)
theorem dX4_addSeries_1 : decode cX4_addSeries 1 = .ok (.getfield 21, 3) := dq_180 bk_cX4_addSeries_0 1 rfl rfl
theorem dX4_addSeries_4 : decode cX4_addSeries 4 = .ok (.bipush 23, 2) := dq_16 bk_cX4_addSeries_0 4 rfl (by decide)
theorem dX4_addSeries_6 : decode cX4_addSeries 6 = .ok (.invokestatic 58, 3) := dq_184 bk_cX4_addSeries_0 6 rfl rfl
theorem dX4_addSeries_9 : decode cX4_addSeries 9 = .ok (.istore_n 1, 1) := dk_60 (blk_at bk_cX4_addSeries_0 9 rfl)
theorem dX4_addSeries_10 : decode cX4_addSeries 10 = .ok (.aload_n 0, 1) := dk_42 (blk_at bk_cX4_addSeries_0 10 rfl)
theorem dX4_addSeries_11 : decode cX4_addSeries 11 = .ok (.iload_n 1, 1) := dk_27 (blk_at bk_cX4_addSeries_0 11 rfl)
theorem dX4_addSeries_12 : decode cX4_addSeries 12 = .ok (.iconst 1, 1) := dk_4 (blk_at bk_cX4_addSeries_0 12 rfl)
theorem dX4_addSeries_13 : decode cX4_addSeries 13 = .ok (.iadd, 1) := dk_96 (blk_at bk_cX4_addSeries_0 13 rfl)
theorem dX4_addSeries_14 : decode cX4_addSeries 14 = .ok (.putfield 21, 3) := dq_181 bk_cX4_addSeries_0 14 rfl rfl
theorem dX4_addSeries_17 : decode cX4_addSeries 17 = .ok (.aload_n 0, 1) := dk_42 (blk_at bk_cX4_addSeries_0 17 rfl)
theorem dX4_addSeries_18 : decode cX4_addSeries 18 = .ok (.getfield 36, 3) := dq_180 bk_cX4_addSeries_0 18 rfl rfl
theorem dX4_addSeries_21 : decode cX4_addSeries 21 = .ok (.iload_n 1, 1) := dk_27 (blk_at bk_cX4_addSeries_0 21 rfl)
theorem dX4_addSeries_22 : decode cX4_addSeries 22 = .ok (.aaload, 1) := dk_50 (blk_at bk_cX4_addSeries_0 22 rfl)
theorem dX4_addSeries_23 : decode cX4_addSeries 23 = .ok (.areturn, 1) := dk_176 (blk_at bk_cX4_addSeries_0 23 rfl)
theorem bk_cX4_addAsk_0 : (cX4_addAsk.data.toList.drop 0).take 24 = [42, 180, 0, 24, 16, 23, 184, 0, 58, 60, 42, 27, 4, 96, 181, 0, 24, 42, 180, 0, 42, 27, 50, 176] := by decide +kernel
theorem dX4_addAsk_0 : decode cX4_addAsk 0 = .ok (.aload_n 0, 1) := dk_42 (blk_at bk_cX4_addAsk_0 0 rfl)
theorem dX4_addAsk_1 : decode cX4_addAsk 1 = .ok (.getfield 24, 3) := dq_180 bk_cX4_addAsk_0 1 rfl rfl
theorem dX4_addAsk_4 : decode cX4_addAsk 4 = .ok (.bipush 23, 2) := dq_16 bk_cX4_addAsk_0 4 rfl (by decide)
theorem dX4_addAsk_6 : decode cX4_addAsk 6 = .ok (.invokestatic 58, 3) := dq_184 bk_cX4_addAsk_0 6 rfl rfl
theorem dX4_addAsk_9 : decode cX4_addAsk 9 = .ok (.istore_n 1, 1) := dk_60 (blk_at bk_cX4_addAsk_0 9 rfl)
theorem dX4_addAsk_10 : decode cX4_addAsk 10 = .ok (.aload_n 0, 1) := dk_42 (blk_at bk_cX4_addAsk_0 10 rfl)
theorem dX4_addAsk_11 : decode cX4_addAsk 11 = .ok (.iload_n 1, 1) := dk_27 (blk_at bk_cX4_addAsk_0 11 rfl)
theorem dX4_addAsk_12 : decode cX4_addAsk 12 = .ok (.iconst 1, 1) := dk_4 (blk_at bk_cX4_addAsk_0 12 rfl)
theorem dX4_addAsk_13 : decode cX4_addAsk 13 = .ok (.iadd, 1) := dk_96 (blk_at bk_cX4_addAsk_0 13 rfl)
theorem dX4_addAsk_14 : decode cX4_addAsk 14 = .ok (.putfield 24, 3) := dq_181 bk_cX4_addAsk_0 14 rfl rfl
theorem dX4_addAsk_17 : decode cX4_addAsk 17 = .ok (.aload_n 0, 1) := dk_42 (blk_at bk_cX4_addAsk_0 17 rfl)
theorem dX4_addAsk_18 : decode cX4_addAsk 18 = .ok (.getfield 42, 3) := dq_180 bk_cX4_addAsk_0 18 rfl rfl
theorem dX4_addAsk_21 : decode cX4_addAsk 21 = .ok (.iload_n 1, 1) := dk_27 (blk_at bk_cX4_addAsk_0 21 rfl)
theorem dX4_addAsk_22 : decode cX4_addAsk 22 = .ok (.aaload, 1) := dk_50 (blk_at bk_cX4_addAsk_0 22 rfl)
theorem dX4_addAsk_23 : decode cX4_addAsk 23 = .ok (.areturn, 1) := dk_176 (blk_at bk_cX4_addAsk_0 23 rfl)
theorem bk_cX4_removeAsk_0 : (cX4_removeAsk.data.toList.drop 0).take 40 = [42, 180, 0, 42, 27, 50, 77, 27, 4, 96, 62, 29, 42, 180, 0, 24, 162, 0, 23, 42, 180, 0, 42, 29, 4, 100, 42, 180, 0, 42, 29, 50, 83, 132, 3, 1, 167, 255, 231, 42] := by decide +kernel
theorem dX4_removeAsk_0 : decode cX4_removeAsk 0 = .ok (.aload_n 0, 1) := dk_42 (blk_at bk_cX4_removeAsk_0 0 rfl)
theorem dX4_removeAsk_1 : decode cX4_removeAsk 1 = .ok (.getfield 42, 3) := dq_180 bk_cX4_removeAsk_0 1 rfl rfl
theorem dX4_removeAsk_4 : decode cX4_removeAsk 4 = .ok (.iload_n 1, 1) := dk_27 (blk_at bk_cX4_removeAsk_0 4 rfl)
theorem dX4_removeAsk_5 : decode cX4_removeAsk 5 = .ok (.aaload, 1) := dk_50 (blk_at bk_cX4_removeAsk_0 5 rfl)
theorem dX4_removeAsk_6 : decode cX4_removeAsk 6 = .ok (.astore_n 2, 1) := dk_77 (blk_at bk_cX4_removeAsk_0 6 rfl)
theorem dX4_removeAsk_7 : decode cX4_removeAsk 7 = .ok (.iload_n 1, 1) := dk_27 (blk_at bk_cX4_removeAsk_0 7 rfl)
theorem dX4_removeAsk_8 : decode cX4_removeAsk 8 = .ok (.iconst 1, 1) := dk_4 (blk_at bk_cX4_removeAsk_0 8 rfl)
theorem dX4_removeAsk_9 : decode cX4_removeAsk 9 = .ok (.iadd, 1) := dk_96 (blk_at bk_cX4_removeAsk_0 9 rfl)
theorem dX4_removeAsk_10 : decode cX4_removeAsk 10 = .ok (.istore_n 3, 1) := dk_62 (blk_at bk_cX4_removeAsk_0 10 rfl)
theorem dX4_removeAsk_11 : decode cX4_removeAsk 11 = .ok (.iload_n 3, 1) := dk_29 (blk_at bk_cX4_removeAsk_0 11 rfl)
theorem dX4_removeAsk_12 : decode cX4_removeAsk 12 = .ok (.aload_n 0, 1) := dk_42 (blk_at bk_cX4_removeAsk_0 12 rfl)
theorem dX4_removeAsk_13 : decode cX4_removeAsk 13 = .ok (.getfield 24, 3) := dq_180 bk_cX4_removeAsk_0 13 rfl rfl
theorem dX4_removeAsk_16 : decode cX4_removeAsk 16 = .ok (.if_icmp .ge 23, 3) := dq_162 bk_cX4_removeAsk_0 16 rfl (by decide)
theorem dX4_removeAsk_19 : decode cX4_removeAsk 19 = .ok (.aload_n 0, 1) := dk_42 (blk_at bk_cX4_removeAsk_0 19 rfl)
theorem dX4_removeAsk_20 : decode cX4_removeAsk 20 = .ok (.getfield 42, 3) := dq_180 bk_cX4_removeAsk_0 20 rfl rfl
theorem dX4_removeAsk_23 : decode cX4_removeAsk 23 = .ok (.iload_n 3, 1) := dk_29 (blk_at bk_cX4_removeAsk_0 23 rfl)
theorem dX4_removeAsk_24 : decode cX4_removeAsk 24 = .ok (.iconst 1, 1) := dk_4 (blk_at bk_cX4_removeAsk_0 24 rfl)
theorem dX4_removeAsk_25 : decode cX4_removeAsk 25 = .ok (.isub, 1) := dk_100 (blk_at bk_cX4_removeAsk_0 25 rfl)
theorem dX4_removeAsk_26 : decode cX4_removeAsk 26 = .ok (.aload_n 0, 1) := dk_42 (blk_at bk_cX4_removeAsk_0 26 rfl)
theorem dX4_removeAsk_27 : decode cX4_removeAsk 27 = .ok (.getfield 42, 3) := dq_180 bk_cX4_removeAsk_0 27 rfl rfl
theorem dX4_removeAsk_30 : decode cX4_removeAsk 30 = .ok (.iload_n 3, 1) := dk_29 (blk_at bk_cX4_removeAsk_0 30 rfl)
theorem dX4_removeAsk_31 : decode cX4_removeAsk 31 = .ok (.aaload, 1) := dk_50 (blk_at bk_cX4_removeAsk_0 31 rfl)
theorem dX4_removeAsk_32 : decode cX4_removeAsk 32 = .ok (.aastore, 1) := dk_83 (blk_at bk_cX4_removeAsk_0 32 rfl)
theorem dX4_removeAsk_33 : decode cX4_removeAsk 33 = .ok (.iinc 3 1, 3) := dq_132 bk_cX4_removeAsk_0 33 rfl rfl (by decide)
theorem dX4_removeAsk_36 : decode cX4_removeAsk 36 = .ok (.goto (-25), 3) := dq_167 bk_cX4_removeAsk_0 36 rfl (by decide)
theorem dX4_removeAsk_39 : decode cX4_removeAsk 39 = .ok (.aload_n 0, 1) := dk_42 (blk_at bk_cX4_removeAsk_0 39 rfl)
theorem bk_cX4_removeAsk_40 : (cX4_removeAsk.data.toList.drop 40).take 20 = [89, 180, 0, 24, 4, 100, 181, 0, 24, 42, 180, 0, 42, 42, 180, 0, 24, 44, 83, 177] := by decide +kernel
theorem dX4_removeAsk_40 : decode cX4_removeAsk 40 = .ok (.dup, 1) := dk_89 (blk_at bk_cX4_removeAsk_40 0 rfl)
theorem dX4_removeAsk_41 : decode cX4_removeAsk 41 = .ok (.getfield 24, 3) := dq_180 bk_cX4_removeAsk_40 1 rfl rfl
theorem dX4_removeAsk_44 : decode cX4_removeAsk 44 = .ok (.iconst 1, 1) := dk_4 (blk_at bk_cX4_removeAsk_40 4 rfl)
theorem dX4_removeAsk_45 : decode cX4_removeAsk 45 = .ok (.isub, 1) := dk_100 (blk_at bk_cX4_removeAsk_40 5 rfl)
theorem dX4_removeAsk_46 : decode cX4_removeAsk 46 = .ok (.putfield 24, 3) := dq_181 bk_cX4_removeAsk_40 6 rfl rfl
theorem dX4_removeAsk_49 : decode cX4_removeAsk 49 = .ok (.aload_n 0, 1) := dk_42 (blk_at bk_cX4_removeAsk_40 9 rfl)
theorem dX4_removeAsk_50 : decode cX4_removeAsk 50 = .ok (.getfield 42, 3) := dq_180 bk_cX4_removeAsk_40 10 rfl rfl
theorem dX4_removeAsk_53 : decode cX4_removeAsk 53 = .ok (.aload_n 0, 1) := dk_42 (blk_at bk_cX4_removeAsk_40 13 rfl)
theorem dX4_removeAsk_54 : decode cX4_removeAsk 54 = .ok (.getfield 24, 3) := dq_180 bk_cX4_removeAsk_40 14 rfl rfl
theorem dX4_removeAsk_57 : decode cX4_removeAsk 57 = .ok (.aload_n 2, 1) := dk_44 (blk_at bk_cX4_removeAsk_40 17 rfl)
theorem dX4_removeAsk_58 : decode cX4_removeAsk 58 = .ok (.aastore, 1) := dk_83 (blk_at bk_cX4_removeAsk_40 18 rfl)
theorem dX4_removeAsk_59 : decode cX4_removeAsk 59 = .ok (.return_, 1) := dk_177 (blk_at bk_cX4_removeAsk_40 19 rfl)
theorem bk_cX4_isOver_0 : (cX4_isOver.data.toList.drop 0).take 17 = [42, 180, 0, 15, 42, 180, 0, 9, 161, 0, 7, 4, 167, 0, 4, 3, 172] := by decide +kernel
theorem dX4_isOver_0 : decode cX4_isOver 0 = .ok (.aload_n 0, 1) := dk_42 (blk_at bk_cX4_isOver_0 0 rfl)
theorem dX4_isOver_1 : decode cX4_isOver 1 = .ok (.getfield 15, 3) := dq_180 bk_cX4_isOver_0 1 rfl rfl
theorem dX4_isOver_4 : decode cX4_isOver 4 = .ok (.aload_n 0, 1) := dk_42 (blk_at bk_cX4_isOver_0 4 rfl)
theorem dX4_isOver_5 : decode cX4_isOver 5 = .ok (.getfield 9, 3) := dq_180 bk_cX4_isOver_0 5 rfl rfl
theorem dX4_isOver_8 : decode cX4_isOver 8 = .ok (.if_icmp .lt 7, 3) := dq_161 bk_cX4_isOver_0 8 rfl (by decide)
theorem dX4_isOver_11 : decode cX4_isOver 11 = .ok (.iconst 1, 1) := dk_4 (blk_at bk_cX4_isOver_0 11 rfl)
theorem dX4_isOver_12 : decode cX4_isOver 12 = .ok (.goto 4, 3) := dq_167 bk_cX4_isOver_0 12 rfl (by decide)
theorem dX4_isOver_15 : decode cX4_isOver 15 = .ok (.iconst 0, 1) := dk_3 (blk_at bk_cX4_isOver_0 15 rfl)
theorem dX4_isOver_16 : decode cX4_isOver 16 = .ok (.ireturn, 1) := dk_172 (blk_at bk_cX4_isOver_0 16 rfl)
theorem bk_cX4_weeksToCome_0 : (cX4_weeksToCome.data.toList.drop 0).take 25 = [42, 182, 0, 64, 153, 0, 7, 3, 167, 0, 16, 42, 180, 0, 15, 42, 180, 0, 9, 4, 100, 184, 0, 68, 172] := by decide +kernel
theorem dX4_weeksToCome_0 : decode cX4_weeksToCome 0 = .ok (.aload_n 0, 1) := dk_42 (blk_at bk_cX4_weeksToCome_0 0 rfl)
theorem dX4_weeksToCome_1 : decode cX4_weeksToCome 1 = .ok (.invokevirtual 64, 3) := dq_182 bk_cX4_weeksToCome_0 1 rfl rfl
theorem dX4_weeksToCome_4 : decode cX4_weeksToCome 4 = .ok (.ifCond .eq 7, 3) := dq_153 bk_cX4_weeksToCome_0 4 rfl (by decide)
theorem dX4_weeksToCome_7 : decode cX4_weeksToCome 7 = .ok (.iconst 0, 1) := dk_3 (blk_at bk_cX4_weeksToCome_0 7 rfl)
theorem dX4_weeksToCome_8 : decode cX4_weeksToCome 8 = .ok (.goto 16, 3) := dq_167 bk_cX4_weeksToCome_0 8 rfl (by decide)
theorem dX4_weeksToCome_11 : decode cX4_weeksToCome 11 = .ok (.aload_n 0, 1) := dk_42 (blk_at bk_cX4_weeksToCome_0 11 rfl)
theorem dX4_weeksToCome_12 : decode cX4_weeksToCome 12 = .ok (.getfield 15, 3) := dq_180 bk_cX4_weeksToCome_0 12 rfl rfl
theorem dX4_weeksToCome_15 : decode cX4_weeksToCome 15 = .ok (.aload_n 0, 1) := dk_42 (blk_at bk_cX4_weeksToCome_0 15 rfl)
theorem dX4_weeksToCome_16 : decode cX4_weeksToCome 16 = .ok (.getfield 9, 3) := dq_180 bk_cX4_weeksToCome_0 16 rfl rfl
theorem dX4_weeksToCome_19 : decode cX4_weeksToCome 19 = .ok (.iconst 1, 1) := dk_4 (blk_at bk_cX4_weeksToCome_0 19 rfl)
theorem dX4_weeksToCome_20 : decode cX4_weeksToCome 20 = .ok (.isub, 1) := dk_100 (blk_at bk_cX4_weeksToCome_0 20 rfl)
theorem dX4_weeksToCome_21 : decode cX4_weeksToCome 21 = .ok (.invokestatic 68, 3) := dq_184 bk_cX4_weeksToCome_0 21 rfl rfl
theorem dX4_weeksToCome_24 : decode cX4_weeksToCome 24 = .ok (.ireturn, 1) := dk_172 (blk_at bk_cX4_weeksToCome_0 24 rfl)
theorem bk_cX4_loadOf_0 : (cX4_loadOf.data.toList.drop 0).take 40 = [3, 54, 4, 3, 54, 5, 21, 5, 42, 180, 0, 21, 162, 0, 28, 42, 180, 0, 36, 21, 5, 50, 27, 28, 29, 182, 0, 71, 153, 0, 6, 132, 4, 1, 132, 5, 1, 167, 255, 225] := by decide +kernel
theorem dX4_loadOf_0 : decode cX4_loadOf 0 = .ok (.iconst 0, 1) := dk_3 (blk_at bk_cX4_loadOf_0 0 rfl)
theorem dX4_loadOf_1 : decode cX4_loadOf 1 = .ok (.istore 4, 2) := dq_54 bk_cX4_loadOf_0 1 rfl rfl
theorem dX4_loadOf_3 : decode cX4_loadOf 3 = .ok (.iconst 0, 1) := dk_3 (blk_at bk_cX4_loadOf_0 3 rfl)
theorem dX4_loadOf_4 : decode cX4_loadOf 4 = .ok (.istore 5, 2) := dq_54 bk_cX4_loadOf_0 4 rfl rfl
theorem dX4_loadOf_6 : decode cX4_loadOf 6 = .ok (.iload 5, 2) := dq_21 bk_cX4_loadOf_0 6 rfl rfl
theorem dX4_loadOf_8 : decode cX4_loadOf 8 = .ok (.aload_n 0, 1) := dk_42 (blk_at bk_cX4_loadOf_0 8 rfl)
theorem dX4_loadOf_9 : decode cX4_loadOf 9 = .ok (.getfield 21, 3) := dq_180 bk_cX4_loadOf_0 9 rfl rfl
theorem dX4_loadOf_12 : decode cX4_loadOf 12 = .ok (.if_icmp .ge 28, 3) := dq_162 bk_cX4_loadOf_0 12 rfl (by decide)
theorem dX4_loadOf_15 : decode cX4_loadOf 15 = .ok (.aload_n 0, 1) := dk_42 (blk_at bk_cX4_loadOf_0 15 rfl)
theorem dX4_loadOf_16 : decode cX4_loadOf 16 = .ok (.getfield 36, 3) := dq_180 bk_cX4_loadOf_0 16 rfl rfl
theorem dX4_loadOf_19 : decode cX4_loadOf 19 = .ok (.iload 5, 2) := dq_21 bk_cX4_loadOf_0 19 rfl rfl
theorem dX4_loadOf_21 : decode cX4_loadOf 21 = .ok (.aaload, 1) := dk_50 (blk_at bk_cX4_loadOf_0 21 rfl)
theorem dX4_loadOf_22 : decode cX4_loadOf 22 = .ok (.iload_n 1, 1) := dk_27 (blk_at bk_cX4_loadOf_0 22 rfl)
theorem dX4_loadOf_23 : decode cX4_loadOf 23 = .ok (.iload_n 2, 1) := dk_28 (blk_at bk_cX4_loadOf_0 23 rfl)
theorem dX4_loadOf_24 : decode cX4_loadOf 24 = .ok (.iload_n 3, 1) := dk_29 (blk_at bk_cX4_loadOf_0 24 rfl)
theorem dX4_loadOf_25 : decode cX4_loadOf 25 = .ok (.invokevirtual 71, 3) := dq_182 bk_cX4_loadOf_0 25 rfl rfl
theorem dX4_loadOf_28 : decode cX4_loadOf 28 = .ok (.ifCond .eq 6, 3) := dq_153 bk_cX4_loadOf_0 28 rfl (by decide)
theorem dX4_loadOf_31 : decode cX4_loadOf 31 = .ok (.iinc 4 1, 3) := dq_132 bk_cX4_loadOf_0 31 rfl rfl (by decide)
theorem dX4_loadOf_34 : decode cX4_loadOf 34 = .ok (.iinc 5 1, 3) := dq_132 bk_cX4_loadOf_0 34 rfl rfl (by decide)
theorem dX4_loadOf_37 : decode cX4_loadOf 37 = .ok (.goto (-31), 3) := dq_167 bk_cX4_loadOf_0 37 rfl (by decide)
theorem bk_cX4_loadOf_40 : (cX4_loadOf.data.toList.drop 40).take 3 = [21, 4, 172] := by decide +kernel
theorem dX4_loadOf_40 : decode cX4_loadOf 40 = .ok (.iload 4, 2) := dq_21 bk_cX4_loadOf_40 0 rfl rfl
theorem dX4_loadOf_42 : decode cX4_loadOf 42 = .ok (.ireturn, 1) := dk_172 (blk_at bk_cX4_loadOf_40 2 rfl)
theorem bk_cX4_loadIn_0 : (cX4_loadIn.data.toList.drop 0).take 38 = [3, 54, 4, 3, 54, 5, 21, 5, 42, 180, 0, 21, 162, 0, 41, 42, 180, 0, 36, 21, 5, 50, 180, 0, 75, 154, 0, 22, 42, 180, 0, 36, 21, 5, 50, 27, 28, 29] := by decide +kernel
theorem dX4_loadIn_0 : decode cX4_loadIn 0 = .ok (.iconst 0, 1) := dk_3 (blk_at bk_cX4_loadIn_0 0 rfl)
theorem dX4_loadIn_1 : decode cX4_loadIn 1 = .ok (.istore 4, 2) := dq_54 bk_cX4_loadIn_0 1 rfl rfl
theorem dX4_loadIn_3 : decode cX4_loadIn 3 = .ok (.iconst 0, 1) := dk_3 (blk_at bk_cX4_loadIn_0 3 rfl)
theorem dX4_loadIn_4 : decode cX4_loadIn 4 = .ok (.istore 5, 2) := dq_54 bk_cX4_loadIn_0 4 rfl rfl
theorem dX4_loadIn_6 : decode cX4_loadIn 6 = .ok (.iload 5, 2) := dq_21 bk_cX4_loadIn_0 6 rfl rfl
theorem dX4_loadIn_8 : decode cX4_loadIn 8 = .ok (.aload_n 0, 1) := dk_42 (blk_at bk_cX4_loadIn_0 8 rfl)
theorem dX4_loadIn_9 : decode cX4_loadIn 9 = .ok (.getfield 21, 3) := dq_180 bk_cX4_loadIn_0 9 rfl rfl
theorem dX4_loadIn_12 : decode cX4_loadIn 12 = .ok (.if_icmp .ge 41, 3) := dq_162 bk_cX4_loadIn_0 12 rfl (by decide)
theorem dX4_loadIn_15 : decode cX4_loadIn 15 = .ok (.aload_n 0, 1) := dk_42 (blk_at bk_cX4_loadIn_0 15 rfl)
theorem dX4_loadIn_16 : decode cX4_loadIn 16 = .ok (.getfield 36, 3) := dq_180 bk_cX4_loadIn_0 16 rfl rfl
theorem dX4_loadIn_19 : decode cX4_loadIn 19 = .ok (.iload 5, 2) := dq_21 bk_cX4_loadIn_0 19 rfl rfl
theorem dX4_loadIn_21 : decode cX4_loadIn 21 = .ok (.aaload, 1) := dk_50 (blk_at bk_cX4_loadIn_0 21 rfl)
theorem dX4_loadIn_22 : decode cX4_loadIn 22 = .ok (.getfield 75, 3) := dq_180 bk_cX4_loadIn_0 22 rfl rfl
theorem dX4_loadIn_25 : decode cX4_loadIn 25 = .ok (.ifCond .ne 22, 3) := dq_154 bk_cX4_loadIn_0 25 rfl (by decide)
theorem dX4_loadIn_28 : decode cX4_loadIn 28 = .ok (.aload_n 0, 1) := dk_42 (blk_at bk_cX4_loadIn_0 28 rfl)
theorem dX4_loadIn_29 : decode cX4_loadIn 29 = .ok (.getfield 36, 3) := dq_180 bk_cX4_loadIn_0 29 rfl rfl
theorem dX4_loadIn_32 : decode cX4_loadIn 32 = .ok (.iload 5, 2) := dq_21 bk_cX4_loadIn_0 32 rfl rfl
theorem dX4_loadIn_34 : decode cX4_loadIn 34 = .ok (.aaload, 1) := dk_50 (blk_at bk_cX4_loadIn_0 34 rfl)
theorem dX4_loadIn_35 : decode cX4_loadIn 35 = .ok (.iload_n 1, 1) := dk_27 (blk_at bk_cX4_loadIn_0 35 rfl)
theorem dX4_loadIn_36 : decode cX4_loadIn 36 = .ok (.iload_n 2, 1) := dk_28 (blk_at bk_cX4_loadIn_0 36 rfl)
theorem dX4_loadIn_37 : decode cX4_loadIn 37 = .ok (.iload_n 3, 1) := dk_29 (blk_at bk_cX4_loadIn_0 37 rfl)
theorem bk_cX4_loadIn_38 : (cX4_loadIn.data.toList.drop 38).take 18 = [182, 0, 71, 153, 0, 6, 132, 4, 1, 132, 5, 1, 167, 255, 212, 21, 4, 172] := by decide +kernel
theorem dX4_loadIn_38 : decode cX4_loadIn 38 = .ok (.invokevirtual 71, 3) := dq_182 bk_cX4_loadIn_38 0 rfl rfl
theorem dX4_loadIn_41 : decode cX4_loadIn 41 = .ok (.ifCond .eq 6, 3) := dq_153 bk_cX4_loadIn_38 3 rfl (by decide)
theorem dX4_loadIn_44 : decode cX4_loadIn 44 = .ok (.iinc 4 1, 3) := dq_132 bk_cX4_loadIn_38 6 rfl rfl (by decide)
theorem dX4_loadIn_47 : decode cX4_loadIn 47 = .ok (.iinc 5 1, 3) := dq_132 bk_cX4_loadIn_38 9 rfl rfl (by decide)
theorem dX4_loadIn_50 : decode cX4_loadIn 50 = .ok (.goto (-44), 3) := dq_167 bk_cX4_loadIn_38 12 rfl (by decide)
theorem dX4_loadIn_53 : decode cX4_loadIn 53 = .ok (.iload 4, 2) := dq_21 bk_cX4_loadIn_38 15 rfl rfl
theorem dX4_loadIn_55 : decode cX4_loadIn 55 = .ok (.ireturn, 1) := dk_172 (blk_at bk_cX4_loadIn_38 17 rfl)
theorem bk_cX4_weeksLoaded_0 : (cX4_weeksLoaded.data.toList.drop 0).take 40 = [29, 157, 0, 5, 2, 172, 29, 42, 180, 0, 21, 164, 0, 5, 3, 172, 42, 180, 0, 46, 3, 2, 79, 4, 54, 6, 21, 6, 29, 163, 0, 17, 42, 180, 0, 46, 21, 6, 3, 79] := by decide +kernel
theorem dX4_weeksLoaded_0 : decode cX4_weeksLoaded 0 = .ok (.iload_n 3, 1) := dk_29 (blk_at bk_cX4_weeksLoaded_0 0 rfl)
theorem dX4_weeksLoaded_1 : decode cX4_weeksLoaded 1 = .ok (.ifCond .gt 5, 3) := dq_157 bk_cX4_weeksLoaded_0 1 rfl (by decide)
theorem dX4_weeksLoaded_4 : decode cX4_weeksLoaded 4 = .ok (.iconst (-1), 1) := dk_2 (blk_at bk_cX4_weeksLoaded_0 4 rfl)
theorem dX4_weeksLoaded_5 : decode cX4_weeksLoaded 5 = .ok (.ireturn, 1) := dk_172 (blk_at bk_cX4_weeksLoaded_0 5 rfl)
theorem dX4_weeksLoaded_6 : decode cX4_weeksLoaded 6 = .ok (.iload_n 3, 1) := dk_29 (blk_at bk_cX4_weeksLoaded_0 6 rfl)
theorem dX4_weeksLoaded_7 : decode cX4_weeksLoaded 7 = .ok (.aload_n 0, 1) := dk_42 (blk_at bk_cX4_weeksLoaded_0 7 rfl)
theorem dX4_weeksLoaded_8 : decode cX4_weeksLoaded 8 = .ok (.getfield 21, 3) := dq_180 bk_cX4_weeksLoaded_0 8 rfl rfl
theorem dX4_weeksLoaded_11 : decode cX4_weeksLoaded 11 = .ok (.if_icmp .le 5, 3) := dq_164 bk_cX4_weeksLoaded_0 11 rfl (by decide)
theorem dX4_weeksLoaded_14 : decode cX4_weeksLoaded 14 = .ok (.iconst 0, 1) := dk_3 (blk_at bk_cX4_weeksLoaded_0 14 rfl)
theorem dX4_weeksLoaded_15 : decode cX4_weeksLoaded 15 = .ok (.ireturn, 1) := dk_172 (blk_at bk_cX4_weeksLoaded_0 15 rfl)
theorem dX4_weeksLoaded_16 : decode cX4_weeksLoaded 16 = .ok (.aload_n 0, 1) := dk_42 (blk_at bk_cX4_weeksLoaded_0 16 rfl)
theorem dX4_weeksLoaded_17 : decode cX4_weeksLoaded 17 = .ok (.getfield 46, 3) := dq_180 bk_cX4_weeksLoaded_0 17 rfl rfl
theorem dX4_weeksLoaded_20 : decode cX4_weeksLoaded 20 = .ok (.iconst 0, 1) := dk_3 (blk_at bk_cX4_weeksLoaded_0 20 rfl)
theorem dX4_weeksLoaded_21 : decode cX4_weeksLoaded 21 = .ok (.iconst (-1), 1) := dk_2 (blk_at bk_cX4_weeksLoaded_0 21 rfl)
theorem dX4_weeksLoaded_22 : decode cX4_weeksLoaded 22 = .ok (.iastore, 1) := dk_79 (blk_at bk_cX4_weeksLoaded_0 22 rfl)
theorem dX4_weeksLoaded_23 : decode cX4_weeksLoaded 23 = .ok (.iconst 1, 1) := dk_4 (blk_at bk_cX4_weeksLoaded_0 23 rfl)
theorem dX4_weeksLoaded_24 : decode cX4_weeksLoaded 24 = .ok (.istore 6, 2) := dq_54 bk_cX4_weeksLoaded_0 24 rfl rfl
theorem dX4_weeksLoaded_26 : decode cX4_weeksLoaded 26 = .ok (.iload 6, 2) := dq_21 bk_cX4_weeksLoaded_0 26 rfl rfl
theorem dX4_weeksLoaded_28 : decode cX4_weeksLoaded 28 = .ok (.iload_n 3, 1) := dk_29 (blk_at bk_cX4_weeksLoaded_0 28 rfl)
theorem dX4_weeksLoaded_29 : decode cX4_weeksLoaded 29 = .ok (.if_icmp .gt 17, 3) := dq_163 bk_cX4_weeksLoaded_0 29 rfl (by decide)
theorem dX4_weeksLoaded_32 : decode cX4_weeksLoaded 32 = .ok (.aload_n 0, 1) := dk_42 (blk_at bk_cX4_weeksLoaded_0 32 rfl)
theorem dX4_weeksLoaded_33 : decode cX4_weeksLoaded 33 = .ok (.getfield 46, 3) := dq_180 bk_cX4_weeksLoaded_0 33 rfl rfl
theorem dX4_weeksLoaded_36 : decode cX4_weeksLoaded 36 = .ok (.iload 6, 2) := dq_21 bk_cX4_weeksLoaded_0 36 rfl rfl
theorem dX4_weeksLoaded_38 : decode cX4_weeksLoaded 38 = .ok (.iconst 0, 1) := dk_3 (blk_at bk_cX4_weeksLoaded_0 38 rfl)
theorem dX4_weeksLoaded_39 : decode cX4_weeksLoaded 39 = .ok (.iastore, 1) := dk_79 (blk_at bk_cX4_weeksLoaded_0 39 rfl)
theorem bk_cX4_weeksLoaded_40 : (cX4_weeksLoaded.data.toList.drop 40).take 38 = [132, 6, 1, 167, 255, 239, 3, 54, 6, 21, 6, 42, 180, 0, 21, 162, 0, 103, 42, 180, 0, 36, 21, 6, 50, 58, 7, 25, 7, 180, 0, 78, 27, 160, 0, 79, 25, 7] := by decide +kernel
theorem dX4_weeksLoaded_40 : decode cX4_weeksLoaded 40 = .ok (.iinc 6 1, 3) := dq_132 bk_cX4_weeksLoaded_40 0 rfl rfl (by decide)
theorem dX4_weeksLoaded_43 : decode cX4_weeksLoaded 43 = .ok (.goto (-17), 3) := dq_167 bk_cX4_weeksLoaded_40 3 rfl (by decide)
theorem dX4_weeksLoaded_46 : decode cX4_weeksLoaded 46 = .ok (.iconst 0, 1) := dk_3 (blk_at bk_cX4_weeksLoaded_40 6 rfl)
theorem dX4_weeksLoaded_47 : decode cX4_weeksLoaded 47 = .ok (.istore 6, 2) := dq_54 bk_cX4_weeksLoaded_40 7 rfl rfl
theorem dX4_weeksLoaded_49 : decode cX4_weeksLoaded 49 = .ok (.iload 6, 2) := dq_21 bk_cX4_weeksLoaded_40 9 rfl rfl
theorem dX4_weeksLoaded_51 : decode cX4_weeksLoaded 51 = .ok (.aload_n 0, 1) := dk_42 (blk_at bk_cX4_weeksLoaded_40 11 rfl)
theorem dX4_weeksLoaded_52 : decode cX4_weeksLoaded 52 = .ok (.getfield 21, 3) := dq_180 bk_cX4_weeksLoaded_40 12 rfl rfl
theorem dX4_weeksLoaded_55 : decode cX4_weeksLoaded 55 = .ok (.if_icmp .ge 103, 3) := dq_162 bk_cX4_weeksLoaded_40 15 rfl (by decide)
theorem dX4_weeksLoaded_58 : decode cX4_weeksLoaded 58 = .ok (.aload_n 0, 1) := dk_42 (blk_at bk_cX4_weeksLoaded_40 18 rfl)
theorem dX4_weeksLoaded_59 : decode cX4_weeksLoaded 59 = .ok (.getfield 36, 3) := dq_180 bk_cX4_weeksLoaded_40 19 rfl rfl
theorem dX4_weeksLoaded_62 : decode cX4_weeksLoaded 62 = .ok (.iload 6, 2) := dq_21 bk_cX4_weeksLoaded_40 22 rfl rfl
theorem dX4_weeksLoaded_64 : decode cX4_weeksLoaded 64 = .ok (.aaload, 1) := dk_50 (blk_at bk_cX4_weeksLoaded_40 24 rfl)
theorem dX4_weeksLoaded_65 : decode cX4_weeksLoaded 65 = .ok (.astore 7, 2) := dq_58 bk_cX4_weeksLoaded_40 25 rfl rfl
theorem dX4_weeksLoaded_67 : decode cX4_weeksLoaded 67 = .ok (.aload 7, 2) := dq_25 bk_cX4_weeksLoaded_40 27 rfl rfl
theorem dX4_weeksLoaded_69 : decode cX4_weeksLoaded 69 = .ok (.getfield 78, 3) := dq_180 bk_cX4_weeksLoaded_40 29 rfl rfl
theorem dX4_weeksLoaded_72 : decode cX4_weeksLoaded 72 = .ok (.iload_n 1, 1) := dk_27 (blk_at bk_cX4_weeksLoaded_40 32 rfl)
theorem dX4_weeksLoaded_73 : decode cX4_weeksLoaded 73 = .ok (.if_icmp .ne 79, 3) := dq_160 bk_cX4_weeksLoaded_40 33 rfl (by decide)
theorem dX4_weeksLoaded_76 : decode cX4_weeksLoaded 76 = .ok (.aload 7, 2) := dq_25 bk_cX4_weeksLoaded_40 36 rfl rfl
theorem bk_cX4_weeksLoaded_78 : (cX4_weeksLoaded.data.toList.drop 78).take 40 = [180, 0, 81, 28, 160, 0, 70, 21, 5, 21, 6, 184, 0, 84, 154, 0, 60, 25, 7, 180, 0, 75, 153, 0, 8, 21, 4, 154, 0, 47, 25, 7, 182, 0, 88, 54, 8, 29, 54, 9] := by decide +kernel
theorem dX4_weeksLoaded_78 : decode cX4_weeksLoaded 78 = .ok (.getfield 81, 3) := dq_180 bk_cX4_weeksLoaded_78 0 rfl rfl
theorem dX4_weeksLoaded_81 : decode cX4_weeksLoaded 81 = .ok (.iload_n 2, 1) := dk_28 (blk_at bk_cX4_weeksLoaded_78 3 rfl)
theorem dX4_weeksLoaded_82 : decode cX4_weeksLoaded 82 = .ok (.if_icmp .ne 70, 3) := dq_160 bk_cX4_weeksLoaded_78 4 rfl (by decide)
theorem dX4_weeksLoaded_85 : decode cX4_weeksLoaded 85 = .ok (.iload 5, 2) := dq_21 bk_cX4_weeksLoaded_78 7 rfl rfl
theorem dX4_weeksLoaded_87 : decode cX4_weeksLoaded 87 = .ok (.iload 6, 2) := dq_21 bk_cX4_weeksLoaded_78 9 rfl rfl
theorem dX4_weeksLoaded_89 : decode cX4_weeksLoaded 89 = .ok (.invokestatic 84, 3) := dq_184 bk_cX4_weeksLoaded_78 11 rfl rfl
theorem dX4_weeksLoaded_92 : decode cX4_weeksLoaded 92 = .ok (.ifCond .ne 60, 3) := dq_154 bk_cX4_weeksLoaded_78 14 rfl (by decide)
theorem dX4_weeksLoaded_95 : decode cX4_weeksLoaded 95 = .ok (.aload 7, 2) := dq_25 bk_cX4_weeksLoaded_78 17 rfl rfl
theorem dX4_weeksLoaded_97 : decode cX4_weeksLoaded 97 = .ok (.getfield 75, 3) := dq_180 bk_cX4_weeksLoaded_78 19 rfl rfl
theorem dX4_weeksLoaded_100 : decode cX4_weeksLoaded 100 = .ok (.ifCond .eq 8, 3) := dq_153 bk_cX4_weeksLoaded_78 22 rfl (by decide)
theorem dX4_weeksLoaded_103 : decode cX4_weeksLoaded 103 = .ok (.iload 4, 2) := dq_21 bk_cX4_weeksLoaded_78 25 rfl rfl
theorem dX4_weeksLoaded_105 : decode cX4_weeksLoaded 105 = .ok (.ifCond .ne 47, 3) := dq_154 bk_cX4_weeksLoaded_78 27 rfl (by decide)
theorem dX4_weeksLoaded_108 : decode cX4_weeksLoaded 108 = .ok (.aload 7, 2) := dq_25 bk_cX4_weeksLoaded_78 30 rfl rfl
theorem dX4_weeksLoaded_110 : decode cX4_weeksLoaded 110 = .ok (.invokevirtual 88, 3) := dq_182 bk_cX4_weeksLoaded_78 32 rfl rfl
theorem dX4_weeksLoaded_113 : decode cX4_weeksLoaded 113 = .ok (.istore 8, 2) := dq_54 bk_cX4_weeksLoaded_78 35 rfl rfl
theorem dX4_weeksLoaded_115 : decode cX4_weeksLoaded 115 = .ok (.iload_n 3, 1) := dk_29 (blk_at bk_cX4_weeksLoaded_78 37 rfl)
theorem dX4_weeksLoaded_116 : decode cX4_weeksLoaded 116 = .ok (.istore 9, 2) := dq_54 bk_cX4_weeksLoaded_78 38 rfl rfl
theorem bk_cX4_weeksLoaded_118 : (cX4_weeksLoaded.data.toList.drop 118).take 40 = [21, 9, 4, 161, 0, 31, 42, 180, 0, 46, 21, 9, 92, 46, 42, 180, 0, 46, 21, 9, 4, 100, 46, 21, 8, 126, 128, 79, 132, 9, 255, 167, 255, 225, 132, 6, 1, 167, 255, 150] := by decide +kernel
theorem dX4_weeksLoaded_118 : decode cX4_weeksLoaded 118 = .ok (.iload 9, 2) := dq_21 bk_cX4_weeksLoaded_118 0 rfl rfl
theorem dX4_weeksLoaded_120 : decode cX4_weeksLoaded 120 = .ok (.iconst 1, 1) := dk_4 (blk_at bk_cX4_weeksLoaded_118 2 rfl)
theorem dX4_weeksLoaded_121 : decode cX4_weeksLoaded 121 = .ok (.if_icmp .lt 31, 3) := dq_161 bk_cX4_weeksLoaded_118 3 rfl (by decide)
theorem dX4_weeksLoaded_124 : decode cX4_weeksLoaded 124 = .ok (.aload_n 0, 1) := dk_42 (blk_at bk_cX4_weeksLoaded_118 6 rfl)
theorem dX4_weeksLoaded_125 : decode cX4_weeksLoaded 125 = .ok (.getfield 46, 3) := dq_180 bk_cX4_weeksLoaded_118 7 rfl rfl
theorem dX4_weeksLoaded_128 : decode cX4_weeksLoaded 128 = .ok (.iload 9, 2) := dq_21 bk_cX4_weeksLoaded_118 10 rfl rfl
theorem dX4_weeksLoaded_130 : decode cX4_weeksLoaded 130 = .ok (.dup2, 1) := dk_92 (blk_at bk_cX4_weeksLoaded_118 12 rfl)
theorem dX4_weeksLoaded_131 : decode cX4_weeksLoaded 131 = .ok (.iaload, 1) := dk_46 (blk_at bk_cX4_weeksLoaded_118 13 rfl)
theorem dX4_weeksLoaded_132 : decode cX4_weeksLoaded 132 = .ok (.aload_n 0, 1) := dk_42 (blk_at bk_cX4_weeksLoaded_118 14 rfl)
theorem dX4_weeksLoaded_133 : decode cX4_weeksLoaded 133 = .ok (.getfield 46, 3) := dq_180 bk_cX4_weeksLoaded_118 15 rfl rfl
theorem dX4_weeksLoaded_136 : decode cX4_weeksLoaded 136 = .ok (.iload 9, 2) := dq_21 bk_cX4_weeksLoaded_118 18 rfl rfl
theorem dX4_weeksLoaded_138 : decode cX4_weeksLoaded 138 = .ok (.iconst 1, 1) := dk_4 (blk_at bk_cX4_weeksLoaded_118 20 rfl)
theorem dX4_weeksLoaded_139 : decode cX4_weeksLoaded 139 = .ok (.isub, 1) := dk_100 (blk_at bk_cX4_weeksLoaded_118 21 rfl)
theorem dX4_weeksLoaded_140 : decode cX4_weeksLoaded 140 = .ok (.iaload, 1) := dk_46 (blk_at bk_cX4_weeksLoaded_118 22 rfl)
theorem dX4_weeksLoaded_141 : decode cX4_weeksLoaded 141 = .ok (.iload 8, 2) := dq_21 bk_cX4_weeksLoaded_118 23 rfl rfl
theorem dX4_weeksLoaded_143 : decode cX4_weeksLoaded 143 = .ok (.iand, 1) := dk_126 (blk_at bk_cX4_weeksLoaded_118 25 rfl)
theorem dX4_weeksLoaded_144 : decode cX4_weeksLoaded 144 = .ok (.ior, 1) := dk_128 (blk_at bk_cX4_weeksLoaded_118 26 rfl)
theorem dX4_weeksLoaded_145 : decode cX4_weeksLoaded 145 = .ok (.iastore, 1) := dk_79 (blk_at bk_cX4_weeksLoaded_118 27 rfl)
theorem dX4_weeksLoaded_146 : decode cX4_weeksLoaded 146 = .ok (.iinc 9 (-1), 3) := dq_132 bk_cX4_weeksLoaded_118 28 rfl rfl (by decide)
theorem dX4_weeksLoaded_149 : decode cX4_weeksLoaded 149 = .ok (.goto (-31), 3) := dq_167 bk_cX4_weeksLoaded_118 31 rfl (by decide)
theorem dX4_weeksLoaded_152 : decode cX4_weeksLoaded 152 = .ok (.iinc 6 1, 3) := dq_132 bk_cX4_weeksLoaded_118 34 rfl rfl (by decide)
theorem dX4_weeksLoaded_155 : decode cX4_weeksLoaded 155 = .ok (.goto (-106), 3) := dq_167 bk_cX4_weeksLoaded_118 37 rfl (by decide)
theorem bk_cX4_weeksLoaded_158 : (cX4_weeksLoaded.data.toList.drop 158).take 7 = [42, 180, 0, 46, 29, 46, 172] := by decide +kernel
theorem dX4_weeksLoaded_158 : decode cX4_weeksLoaded 158 = .ok (.aload_n 0, 1) := dk_42 (blk_at bk_cX4_weeksLoaded_158 0 rfl)
theorem dX4_weeksLoaded_159 : decode cX4_weeksLoaded 159 = .ok (.getfield 46, 3) := dq_180 bk_cX4_weeksLoaded_158 1 rfl rfl
theorem dX4_weeksLoaded_162 : decode cX4_weeksLoaded 162 = .ok (.iload_n 3, 1) := dk_29 (blk_at bk_cX4_weeksLoaded_158 4 rfl)
theorem dX4_weeksLoaded_163 : decode cX4_weeksLoaded 163 = .ok (.iaload, 1) := dk_46 (blk_at bk_cX4_weeksLoaded_158 5 rfl)
theorem dX4_weeksLoaded_164 : decode cX4_weeksLoaded 164 = .ok (.ireturn, 1) := dk_172 (blk_at bk_cX4_weeksLoaded_158 6 rfl)
theorem bk_cX4_hasPlace_0 : (cX4_hasPlace.data.toList.drop 0).take 40 = [21, 4, 42, 180, 0, 15, 184, 0, 92, 126, 54, 6, 21, 6, 42, 27, 28, 42, 180, 0, 27, 28, 46, 3, 21, 5, 182, 0, 96, 126, 153, 0, 5, 3, 172, 29, 4, 159, 0, 24] := by decide +kernel
theorem dX4_hasPlace_0 : decode cX4_hasPlace 0 = .ok (.iload 4, 2) := dq_21 bk_cX4_hasPlace_0 0 rfl rfl
theorem dX4_hasPlace_2 : decode cX4_hasPlace 2 = .ok (.aload_n 0, 1) := dk_42 (blk_at bk_cX4_hasPlace_0 2 rfl)
theorem dX4_hasPlace_3 : decode cX4_hasPlace 3 = .ok (.getfield 15, 3) := dq_180 bk_cX4_hasPlace_0 3 rfl rfl
theorem dX4_hasPlace_6 : decode cX4_hasPlace 6 = .ok (.invokestatic 92, 3) := dq_184 bk_cX4_hasPlace_0 6 rfl rfl
theorem dX4_hasPlace_9 : decode cX4_hasPlace 9 = .ok (.iand, 1) := dk_126 (blk_at bk_cX4_hasPlace_0 9 rfl)
theorem dX4_hasPlace_10 : decode cX4_hasPlace 10 = .ok (.istore 6, 2) := dq_54 bk_cX4_hasPlace_0 10 rfl rfl
theorem dX4_hasPlace_12 : decode cX4_hasPlace 12 = .ok (.iload 6, 2) := dq_21 bk_cX4_hasPlace_0 12 rfl rfl
theorem dX4_hasPlace_14 : decode cX4_hasPlace 14 = .ok (.aload_n 0, 1) := dk_42 (blk_at bk_cX4_hasPlace_0 14 rfl)
theorem dX4_hasPlace_15 : decode cX4_hasPlace 15 = .ok (.iload_n 1, 1) := dk_27 (blk_at bk_cX4_hasPlace_0 15 rfl)
theorem dX4_hasPlace_16 : decode cX4_hasPlace 16 = .ok (.iload_n 2, 1) := dk_28 (blk_at bk_cX4_hasPlace_0 16 rfl)
theorem dX4_hasPlace_17 : decode cX4_hasPlace 17 = .ok (.aload_n 0, 1) := dk_42 (blk_at bk_cX4_hasPlace_0 17 rfl)
theorem dX4_hasPlace_18 : decode cX4_hasPlace 18 = .ok (.getfield 27, 3) := dq_180 bk_cX4_hasPlace_0 18 rfl rfl
theorem dX4_hasPlace_21 : decode cX4_hasPlace 21 = .ok (.iload_n 2, 1) := dk_28 (blk_at bk_cX4_hasPlace_0 21 rfl)
theorem dX4_hasPlace_22 : decode cX4_hasPlace 22 = .ok (.iaload, 1) := dk_46 (blk_at bk_cX4_hasPlace_0 22 rfl)
theorem dX4_hasPlace_23 : decode cX4_hasPlace 23 = .ok (.iconst 0, 1) := dk_3 (blk_at bk_cX4_hasPlace_0 23 rfl)
theorem dX4_hasPlace_24 : decode cX4_hasPlace 24 = .ok (.iload 5, 2) := dq_21 bk_cX4_hasPlace_0 24 rfl rfl
theorem dX4_hasPlace_26 : decode cX4_hasPlace 26 = .ok (.invokevirtual 96, 3) := dq_182 bk_cX4_hasPlace_0 26 rfl rfl
theorem dX4_hasPlace_29 : decode cX4_hasPlace 29 = .ok (.iand, 1) := dk_126 (blk_at bk_cX4_hasPlace_0 29 rfl)
theorem dX4_hasPlace_30 : decode cX4_hasPlace 30 = .ok (.ifCond .eq 5, 3) := dq_153 bk_cX4_hasPlace_0 30 rfl (by decide)
theorem dX4_hasPlace_33 : decode cX4_hasPlace 33 = .ok (.iconst 0, 1) := dk_3 (blk_at bk_cX4_hasPlace_0 33 rfl)
theorem dX4_hasPlace_34 : decode cX4_hasPlace 34 = .ok (.ireturn, 1) := dk_172 (blk_at bk_cX4_hasPlace_0 34 rfl)
theorem dX4_hasPlace_35 : decode cX4_hasPlace 35 = .ok (.iload_n 3, 1) := dk_29 (blk_at bk_cX4_hasPlace_0 35 rfl)
theorem dX4_hasPlace_36 : decode cX4_hasPlace 36 = .ok (.iconst 1, 1) := dk_4 (blk_at bk_cX4_hasPlace_0 36 rfl)
theorem dX4_hasPlace_37 : decode cX4_hasPlace 37 = .ok (.if_icmp .eq 24, 3) := dq_159 bk_cX4_hasPlace_0 37 rfl (by decide)
theorem bk_cX4_hasPlace_40 : (cX4_hasPlace.data.toList.drop 40).take 27 = [21, 6, 42, 27, 28, 42, 180, 0, 31, 28, 46, 4, 21, 5, 182, 0, 96, 126, 154, 0, 7, 4, 167, 0, 4, 3, 172] := by decide +kernel
theorem dX4_hasPlace_40 : decode cX4_hasPlace 40 = .ok (.iload 6, 2) := dq_21 bk_cX4_hasPlace_40 0 rfl rfl
theorem dX4_hasPlace_42 : decode cX4_hasPlace 42 = .ok (.aload_n 0, 1) := dk_42 (blk_at bk_cX4_hasPlace_40 2 rfl)
theorem dX4_hasPlace_43 : decode cX4_hasPlace 43 = .ok (.iload_n 1, 1) := dk_27 (blk_at bk_cX4_hasPlace_40 3 rfl)
theorem dX4_hasPlace_44 : decode cX4_hasPlace 44 = .ok (.iload_n 2, 1) := dk_28 (blk_at bk_cX4_hasPlace_40 4 rfl)
theorem dX4_hasPlace_45 : decode cX4_hasPlace 45 = .ok (.aload_n 0, 1) := dk_42 (blk_at bk_cX4_hasPlace_40 5 rfl)
theorem dX4_hasPlace_46 : decode cX4_hasPlace 46 = .ok (.getfield 31, 3) := dq_180 bk_cX4_hasPlace_40 6 rfl rfl
theorem dX4_hasPlace_49 : decode cX4_hasPlace 49 = .ok (.iload_n 2, 1) := dk_28 (blk_at bk_cX4_hasPlace_40 9 rfl)
theorem dX4_hasPlace_50 : decode cX4_hasPlace 50 = .ok (.iaload, 1) := dk_46 (blk_at bk_cX4_hasPlace_40 10 rfl)
theorem dX4_hasPlace_51 : decode cX4_hasPlace 51 = .ok (.iconst 1, 1) := dk_4 (blk_at bk_cX4_hasPlace_40 11 rfl)
theorem dX4_hasPlace_52 : decode cX4_hasPlace 52 = .ok (.iload 5, 2) := dq_21 bk_cX4_hasPlace_40 12 rfl rfl
theorem dX4_hasPlace_54 : decode cX4_hasPlace 54 = .ok (.invokevirtual 96, 3) := dq_182 bk_cX4_hasPlace_40 14 rfl rfl
theorem dX4_hasPlace_57 : decode cX4_hasPlace 57 = .ok (.iand, 1) := dk_126 (blk_at bk_cX4_hasPlace_40 17 rfl)
theorem dX4_hasPlace_58 : decode cX4_hasPlace 58 = .ok (.ifCond .ne 7, 3) := dq_154 bk_cX4_hasPlace_40 18 rfl (by decide)
theorem dX4_hasPlace_61 : decode cX4_hasPlace 61 = .ok (.iconst 1, 1) := dk_4 (blk_at bk_cX4_hasPlace_40 21 rfl)
theorem dX4_hasPlace_62 : decode cX4_hasPlace 62 = .ok (.goto 4, 3) := dq_167 bk_cX4_hasPlace_40 22 rfl (by decide)
theorem dX4_hasPlace_65 : decode cX4_hasPlace 65 = .ok (.iconst 0, 1) := dk_3 (blk_at bk_cX4_hasPlace_40 25 rfl)
theorem dX4_hasPlace_66 : decode cX4_hasPlace 66 = .ok (.ireturn, 1) := dk_172 (blk_at bk_cX4_hasPlace_40 26 rfl)
theorem bk_cX4_hasPlaceFor_0 : (cX4_hasPlaceFor.data.toList.drop 0).take 19 = [42, 43, 180, 0, 100, 28, 43, 180, 0, 101, 43, 182, 0, 102, 29, 182, 0, 105, 172] := by decide +kernel
theorem dX4_hasPlaceFor_0 : decode cX4_hasPlaceFor 0 = .ok (.aload_n 0, 1) := dk_42 (blk_at bk_cX4_hasPlaceFor_0 0 rfl)
theorem dX4_hasPlaceFor_1 : decode cX4_hasPlaceFor 1 = .ok (.aload_n 1, 1) := dk_43 (blk_at bk_cX4_hasPlaceFor_0 1 rfl)
theorem dX4_hasPlaceFor_2 : decode cX4_hasPlaceFor 2 = .ok (.getfield 100, 3) := dq_180 bk_cX4_hasPlaceFor_0 2 rfl rfl
theorem dX4_hasPlaceFor_5 : decode cX4_hasPlaceFor 5 = .ok (.iload_n 2, 1) := dk_28 (blk_at bk_cX4_hasPlaceFor_0 5 rfl)
theorem dX4_hasPlaceFor_6 : decode cX4_hasPlaceFor 6 = .ok (.aload_n 1, 1) := dk_43 (blk_at bk_cX4_hasPlaceFor_0 6 rfl)
theorem dX4_hasPlaceFor_7 : decode cX4_hasPlaceFor 7 = .ok (.getfield 101, 3) := dq_180 bk_cX4_hasPlaceFor_0 7 rfl rfl
theorem dX4_hasPlaceFor_10 : decode cX4_hasPlaceFor 10 = .ok (.aload_n 1, 1) := dk_43 (blk_at bk_cX4_hasPlaceFor_0 10 rfl)
theorem dX4_hasPlaceFor_11 : decode cX4_hasPlaceFor 11 = .ok (.invokevirtual 102, 3) := dq_182 bk_cX4_hasPlaceFor_0 11 rfl rfl
theorem dX4_hasPlaceFor_14 : decode cX4_hasPlaceFor 14 = .ok (.iload_n 3, 1) := dk_29 (blk_at bk_cX4_hasPlaceFor_0 14 rfl)
theorem dX4_hasPlaceFor_15 : decode cX4_hasPlaceFor 15 = .ok (.invokevirtual 105, 3) := dq_182 bk_cX4_hasPlaceFor_0 15 rfl rfl
theorem dX4_hasPlaceFor_18 : decode cX4_hasPlaceFor 18 = .ok (.ireturn, 1) := dk_172 (blk_at bk_cX4_hasPlaceFor_0 18 rfl)
theorem bk_cX4_hourFor_0 : (cX4_hourFor.data.toList.drop 0).take 40 = [42, 180, 0, 21, 16, 24, 162, 0, 14, 43, 180, 0, 109, 42, 180, 0, 15, 162, 0, 5, 2, 172, 43, 182, 0, 102, 61, 42, 43, 180, 0, 100, 43, 180, 0, 112, 43, 180, 0, 101] := by decide +kernel
theorem dX4_hourFor_0 : decode cX4_hourFor 0 = .ok (.aload_n 0, 1) := dk_42 (blk_at bk_cX4_hourFor_0 0 rfl)
theorem dX4_hourFor_1 : decode cX4_hourFor 1 = .ok (.getfield 21, 3) := dq_180 bk_cX4_hourFor_0 1 rfl rfl
theorem dX4_hourFor_4 : decode cX4_hourFor 4 = .ok (.bipush 24, 2) := dq_16 bk_cX4_hourFor_0 4 rfl (by decide)
theorem dX4_hourFor_6 : decode cX4_hourFor 6 = .ok (.if_icmp .ge 14, 3) := dq_162 bk_cX4_hourFor_0 6 rfl (by decide)
theorem dX4_hourFor_9 : decode cX4_hourFor 9 = .ok (.aload_n 1, 1) := dk_43 (blk_at bk_cX4_hourFor_0 9 rfl)
theorem dX4_hourFor_10 : decode cX4_hourFor 10 = .ok (.getfield 109, 3) := dq_180 bk_cX4_hourFor_0 10 rfl rfl
theorem dX4_hourFor_13 : decode cX4_hourFor 13 = .ok (.aload_n 0, 1) := dk_42 (blk_at bk_cX4_hourFor_0 13 rfl)
theorem dX4_hourFor_14 : decode cX4_hourFor 14 = .ok (.getfield 15, 3) := dq_180 bk_cX4_hourFor_0 14 rfl rfl
theorem dX4_hourFor_17 : decode cX4_hourFor 17 = .ok (.if_icmp .ge 5, 3) := dq_162 bk_cX4_hourFor_0 17 rfl (by decide)
theorem dX4_hourFor_20 : decode cX4_hourFor 20 = .ok (.iconst (-1), 1) := dk_2 (blk_at bk_cX4_hourFor_0 20 rfl)
theorem dX4_hourFor_21 : decode cX4_hourFor 21 = .ok (.ireturn, 1) := dk_172 (blk_at bk_cX4_hourFor_0 21 rfl)
theorem dX4_hourFor_22 : decode cX4_hourFor 22 = .ok (.aload_n 1, 1) := dk_43 (blk_at bk_cX4_hourFor_0 22 rfl)
theorem dX4_hourFor_23 : decode cX4_hourFor 23 = .ok (.invokevirtual 102, 3) := dq_182 bk_cX4_hourFor_0 23 rfl rfl
theorem dX4_hourFor_26 : decode cX4_hourFor 26 = .ok (.istore_n 2, 1) := dk_61 (blk_at bk_cX4_hourFor_0 26 rfl)
theorem dX4_hourFor_27 : decode cX4_hourFor 27 = .ok (.aload_n 0, 1) := dk_42 (blk_at bk_cX4_hourFor_0 27 rfl)
theorem dX4_hourFor_28 : decode cX4_hourFor 28 = .ok (.aload_n 1, 1) := dk_43 (blk_at bk_cX4_hourFor_0 28 rfl)
theorem dX4_hourFor_29 : decode cX4_hourFor 29 = .ok (.getfield 100, 3) := dq_180 bk_cX4_hourFor_0 29 rfl rfl
theorem dX4_hourFor_32 : decode cX4_hourFor 32 = .ok (.aload_n 1, 1) := dk_43 (blk_at bk_cX4_hourFor_0 32 rfl)
theorem dX4_hourFor_33 : decode cX4_hourFor 33 = .ok (.getfield 112, 3) := dq_180 bk_cX4_hourFor_0 33 rfl rfl
theorem dX4_hourFor_36 : decode cX4_hourFor 36 = .ok (.aload_n 1, 1) := dk_43 (blk_at bk_cX4_hourFor_0 36 rfl)
theorem dX4_hourFor_37 : decode cX4_hourFor 37 = .ok (.getfield 101, 3) := dq_180 bk_cX4_hourFor_0 37 rfl rfl
theorem bk_cX4_hourFor_40 : (cX4_hourFor.data.toList.drop 40).take 38 = [28, 3, 182, 0, 105, 153, 0, 8, 43, 180, 0, 112, 172, 4, 62, 29, 43, 180, 0, 113, 163, 0, 81, 43, 180, 0, 112, 29, 100, 54, 4, 21, 4, 155, 0, 25, 42, 43] := by decide +kernel
theorem dX4_hourFor_40 : decode cX4_hourFor 40 = .ok (.iload_n 2, 1) := dk_28 (blk_at bk_cX4_hourFor_40 0 rfl)
theorem dX4_hourFor_41 : decode cX4_hourFor 41 = .ok (.iconst 0, 1) := dk_3 (blk_at bk_cX4_hourFor_40 1 rfl)
theorem dX4_hourFor_42 : decode cX4_hourFor 42 = .ok (.invokevirtual 105, 3) := dq_182 bk_cX4_hourFor_40 2 rfl rfl
theorem dX4_hourFor_45 : decode cX4_hourFor 45 = .ok (.ifCond .eq 8, 3) := dq_153 bk_cX4_hourFor_40 5 rfl (by decide)
theorem dX4_hourFor_48 : decode cX4_hourFor 48 = .ok (.aload_n 1, 1) := dk_43 (blk_at bk_cX4_hourFor_40 8 rfl)
theorem dX4_hourFor_49 : decode cX4_hourFor 49 = .ok (.getfield 112, 3) := dq_180 bk_cX4_hourFor_40 9 rfl rfl
theorem dX4_hourFor_52 : decode cX4_hourFor 52 = .ok (.ireturn, 1) := dk_172 (blk_at bk_cX4_hourFor_40 12 rfl)
theorem dX4_hourFor_53 : decode cX4_hourFor 53 = .ok (.iconst 1, 1) := dk_4 (blk_at bk_cX4_hourFor_40 13 rfl)
theorem dX4_hourFor_54 : decode cX4_hourFor 54 = .ok (.istore_n 3, 1) := dk_62 (blk_at bk_cX4_hourFor_40 14 rfl)
theorem dX4_hourFor_55 : decode cX4_hourFor 55 = .ok (.iload_n 3, 1) := dk_29 (blk_at bk_cX4_hourFor_40 15 rfl)
theorem dX4_hourFor_56 : decode cX4_hourFor 56 = .ok (.aload_n 1, 1) := dk_43 (blk_at bk_cX4_hourFor_40 16 rfl)
theorem dX4_hourFor_57 : decode cX4_hourFor 57 = .ok (.getfield 113, 3) := dq_180 bk_cX4_hourFor_40 17 rfl rfl
theorem dX4_hourFor_60 : decode cX4_hourFor 60 = .ok (.if_icmp .gt 81, 3) := dq_163 bk_cX4_hourFor_40 20 rfl (by decide)
theorem dX4_hourFor_63 : decode cX4_hourFor 63 = .ok (.aload_n 1, 1) := dk_43 (blk_at bk_cX4_hourFor_40 23 rfl)
theorem dX4_hourFor_64 : decode cX4_hourFor 64 = .ok (.getfield 112, 3) := dq_180 bk_cX4_hourFor_40 24 rfl rfl
theorem dX4_hourFor_67 : decode cX4_hourFor 67 = .ok (.iload_n 3, 1) := dk_29 (blk_at bk_cX4_hourFor_40 27 rfl)
theorem dX4_hourFor_68 : decode cX4_hourFor 68 = .ok (.isub, 1) := dk_100 (blk_at bk_cX4_hourFor_40 28 rfl)
theorem dX4_hourFor_69 : decode cX4_hourFor 69 = .ok (.istore 4, 2) := dq_54 bk_cX4_hourFor_40 29 rfl rfl
theorem dX4_hourFor_71 : decode cX4_hourFor 71 = .ok (.iload 4, 2) := dq_21 bk_cX4_hourFor_40 31 rfl rfl
theorem dX4_hourFor_73 : decode cX4_hourFor 73 = .ok (.ifCond .lt 25, 3) := dq_155 bk_cX4_hourFor_40 33 rfl (by decide)
theorem dX4_hourFor_76 : decode cX4_hourFor 76 = .ok (.aload_n 0, 1) := dk_42 (blk_at bk_cX4_hourFor_40 36 rfl)
theorem dX4_hourFor_77 : decode cX4_hourFor 77 = .ok (.aload_n 1, 1) := dk_43 (blk_at bk_cX4_hourFor_40 37 rfl)
theorem bk_cX4_hourFor_78 : (cX4_hourFor.data.toList.drop 78).take 40 = [180, 0, 100, 21, 4, 43, 180, 0, 101, 28, 3, 182, 0, 105, 153, 0, 6, 21, 4, 172, 43, 180, 0, 112, 29, 96, 54, 5, 21, 5, 16, 24, 162, 0, 25, 42, 43, 180, 0, 100] := by decide +kernel
theorem dX4_hourFor_78 : decode cX4_hourFor 78 = .ok (.getfield 100, 3) := dq_180 bk_cX4_hourFor_78 0 rfl rfl
theorem dX4_hourFor_81 : decode cX4_hourFor 81 = .ok (.iload 4, 2) := dq_21 bk_cX4_hourFor_78 3 rfl rfl
theorem dX4_hourFor_83 : decode cX4_hourFor 83 = .ok (.aload_n 1, 1) := dk_43 (blk_at bk_cX4_hourFor_78 5 rfl)
theorem dX4_hourFor_84 : decode cX4_hourFor 84 = .ok (.getfield 101, 3) := dq_180 bk_cX4_hourFor_78 6 rfl rfl
theorem dX4_hourFor_87 : decode cX4_hourFor 87 = .ok (.iload_n 2, 1) := dk_28 (blk_at bk_cX4_hourFor_78 9 rfl)
theorem dX4_hourFor_88 : decode cX4_hourFor 88 = .ok (.iconst 0, 1) := dk_3 (blk_at bk_cX4_hourFor_78 10 rfl)
theorem dX4_hourFor_89 : decode cX4_hourFor 89 = .ok (.invokevirtual 105, 3) := dq_182 bk_cX4_hourFor_78 11 rfl rfl
theorem dX4_hourFor_92 : decode cX4_hourFor 92 = .ok (.ifCond .eq 6, 3) := dq_153 bk_cX4_hourFor_78 14 rfl (by decide)
theorem dX4_hourFor_95 : decode cX4_hourFor 95 = .ok (.iload 4, 2) := dq_21 bk_cX4_hourFor_78 17 rfl rfl
theorem dX4_hourFor_97 : decode cX4_hourFor 97 = .ok (.ireturn, 1) := dk_172 (blk_at bk_cX4_hourFor_78 19 rfl)
theorem dX4_hourFor_98 : decode cX4_hourFor 98 = .ok (.aload_n 1, 1) := dk_43 (blk_at bk_cX4_hourFor_78 20 rfl)
theorem dX4_hourFor_99 : decode cX4_hourFor 99 = .ok (.getfield 112, 3) := dq_180 bk_cX4_hourFor_78 21 rfl rfl
theorem dX4_hourFor_102 : decode cX4_hourFor 102 = .ok (.iload_n 3, 1) := dk_29 (blk_at bk_cX4_hourFor_78 24 rfl)
theorem dX4_hourFor_103 : decode cX4_hourFor 103 = .ok (.iadd, 1) := dk_96 (blk_at bk_cX4_hourFor_78 25 rfl)
theorem dX4_hourFor_104 : decode cX4_hourFor 104 = .ok (.istore 5, 2) := dq_54 bk_cX4_hourFor_78 26 rfl rfl
theorem dX4_hourFor_106 : decode cX4_hourFor 106 = .ok (.iload 5, 2) := dq_21 bk_cX4_hourFor_78 28 rfl rfl
theorem dX4_hourFor_108 : decode cX4_hourFor 108 = .ok (.bipush 24, 2) := dq_16 bk_cX4_hourFor_78 30 rfl (by decide)
theorem dX4_hourFor_110 : decode cX4_hourFor 110 = .ok (.if_icmp .ge 25, 3) := dq_162 bk_cX4_hourFor_78 32 rfl (by decide)
theorem dX4_hourFor_113 : decode cX4_hourFor 113 = .ok (.aload_n 0, 1) := dk_42 (blk_at bk_cX4_hourFor_78 35 rfl)
theorem dX4_hourFor_114 : decode cX4_hourFor 114 = .ok (.aload_n 1, 1) := dk_43 (blk_at bk_cX4_hourFor_78 36 rfl)
theorem dX4_hourFor_115 : decode cX4_hourFor 115 = .ok (.getfield 100, 3) := dq_180 bk_cX4_hourFor_78 37 rfl rfl
theorem bk_cX4_hourFor_118 : (cX4_hourFor.data.toList.drop 118).take 25 = [21, 5, 43, 180, 0, 101, 28, 3, 182, 0, 105, 153, 0, 6, 21, 5, 172, 132, 3, 1, 167, 255, 173, 2, 172] := by decide +kernel
theorem dX4_hourFor_118 : decode cX4_hourFor 118 = .ok (.iload 5, 2) := dq_21 bk_cX4_hourFor_118 0 rfl rfl
theorem dX4_hourFor_120 : decode cX4_hourFor 120 = .ok (.aload_n 1, 1) := dk_43 (blk_at bk_cX4_hourFor_118 2 rfl)
theorem dX4_hourFor_121 : decode cX4_hourFor 121 = .ok (.getfield 101, 3) := dq_180 bk_cX4_hourFor_118 3 rfl rfl
theorem dX4_hourFor_124 : decode cX4_hourFor 124 = .ok (.iload_n 2, 1) := dk_28 (blk_at bk_cX4_hourFor_118 6 rfl)
theorem dX4_hourFor_125 : decode cX4_hourFor 125 = .ok (.iconst 0, 1) := dk_3 (blk_at bk_cX4_hourFor_118 7 rfl)
theorem dX4_hourFor_126 : decode cX4_hourFor 126 = .ok (.invokevirtual 105, 3) := dq_182 bk_cX4_hourFor_118 8 rfl rfl
theorem dX4_hourFor_129 : decode cX4_hourFor 129 = .ok (.ifCond .eq 6, 3) := dq_153 bk_cX4_hourFor_118 11 rfl (by decide)
theorem dX4_hourFor_132 : decode cX4_hourFor 132 = .ok (.iload 5, 2) := dq_21 bk_cX4_hourFor_118 14 rfl rfl
theorem dX4_hourFor_134 : decode cX4_hourFor 134 = .ok (.ireturn, 1) := dk_172 (blk_at bk_cX4_hourFor_118 16 rfl)
theorem dX4_hourFor_135 : decode cX4_hourFor 135 = .ok (.iinc 3 1, 3) := dq_132 bk_cX4_hourFor_118 17 rfl rfl (by decide)
theorem dX4_hourFor_138 : decode cX4_hourFor 138 = .ok (.goto (-83), 3) := dq_167 bk_cX4_hourFor_118 20 rfl (by decide)
theorem dX4_hourFor_141 : decode cX4_hourFor 141 = .ok (.iconst (-1), 1) := dk_2 (blk_at bk_cX4_hourFor_118 23 rfl)
theorem dX4_hourFor_142 : decode cX4_hourFor 142 = .ok (.ireturn, 1) := dk_172 (blk_at bk_cX4_hourFor_118 24 rfl)
theorem bk_cX4_grant_0 : (cX4_grant.data.toList.drop 0).take 38 = [42, 182, 0, 116, 78, 45, 43, 180, 0, 120, 43, 180, 0, 100, 28, 43, 180, 0, 101, 182, 0, 123, 45, 43, 180, 0, 127, 42, 180, 0, 15, 184, 0, 130, 43, 180, 0, 109] := by decide +kernel
theorem dX4_grant_0 : decode cX4_grant 0 = .ok (.aload_n 0, 1) := dk_42 (blk_at bk_cX4_grant_0 0 rfl)
theorem dX4_grant_1 : decode cX4_grant 1 = .ok (.invokevirtual 116, 3) := dq_182 bk_cX4_grant_0 1 rfl rfl
theorem dX4_grant_4 : decode cX4_grant 4 = .ok (.astore_n 3, 1) := dk_78 (blk_at bk_cX4_grant_0 4 rfl)
theorem dX4_grant_5 : decode cX4_grant 5 = .ok (.aload_n 3, 1) := dk_45 (blk_at bk_cX4_grant_0 5 rfl)
theorem dX4_grant_6 : decode cX4_grant 6 = .ok (.aload_n 1, 1) := dk_43 (blk_at bk_cX4_grant_0 6 rfl)
theorem dX4_grant_7 : decode cX4_grant 7 = .ok (.getfield 120, 3) := dq_180 bk_cX4_grant_0 7 rfl rfl
theorem dX4_grant_10 : decode cX4_grant 10 = .ok (.aload_n 1, 1) := dk_43 (blk_at bk_cX4_grant_0 10 rfl)
theorem dX4_grant_11 : decode cX4_grant 11 = .ok (.getfield 100, 3) := dq_180 bk_cX4_grant_0 11 rfl rfl
theorem dX4_grant_14 : decode cX4_grant 14 = .ok (.iload_n 2, 1) := dk_28 (blk_at bk_cX4_grant_0 14 rfl)
theorem dX4_grant_15 : decode cX4_grant 15 = .ok (.aload_n 1, 1) := dk_43 (blk_at bk_cX4_grant_0 15 rfl)
theorem dX4_grant_16 : decode cX4_grant 16 = .ok (.getfield 101, 3) := dq_180 bk_cX4_grant_0 16 rfl rfl
theorem dX4_grant_19 : decode cX4_grant 19 = .ok (.invokevirtual 123, 3) := dq_182 bk_cX4_grant_0 19 rfl rfl
theorem dX4_grant_22 : decode cX4_grant 22 = .ok (.aload_n 3, 1) := dk_45 (blk_at bk_cX4_grant_0 22 rfl)
theorem dX4_grant_23 : decode cX4_grant 23 = .ok (.aload_n 1, 1) := dk_43 (blk_at bk_cX4_grant_0 23 rfl)
theorem dX4_grant_24 : decode cX4_grant 24 = .ok (.getfield 127, 3) := dq_180 bk_cX4_grant_0 24 rfl rfl
theorem dX4_grant_27 : decode cX4_grant 27 = .ok (.aload_n 0, 1) := dk_42 (blk_at bk_cX4_grant_0 27 rfl)
theorem dX4_grant_28 : decode cX4_grant 28 = .ok (.getfield 15, 3) := dq_180 bk_cX4_grant_0 28 rfl rfl
theorem dX4_grant_31 : decode cX4_grant 31 = .ok (.invokestatic 130, 3) := dq_184 bk_cX4_grant_0 31 rfl rfl
theorem dX4_grant_34 : decode cX4_grant 34 = .ok (.aload_n 1, 1) := dk_43 (blk_at bk_cX4_grant_0 34 rfl)
theorem dX4_grant_35 : decode cX4_grant 35 = .ok (.getfield 109, 3) := dq_180 bk_cX4_grant_0 35 rfl rfl
theorem bk_cX4_grant_38 : (cX4_grant.data.toList.drop 38).take 9 = [182, 0, 133, 45, 4, 181, 0, 137, 177] := by decide +kernel
theorem dX4_grant_38 : decode cX4_grant 38 = .ok (.invokevirtual 133, 3) := dq_182 bk_cX4_grant_38 0 rfl rfl
theorem dX4_grant_41 : decode cX4_grant 41 = .ok (.aload_n 3, 1) := dk_45 (blk_at bk_cX4_grant_38 3 rfl)
theorem dX4_grant_42 : decode cX4_grant 42 = .ok (.iconst 1, 1) := dk_4 (blk_at bk_cX4_grant_38 4 rfl)
theorem dX4_grant_43 : decode cX4_grant 43 = .ok (.putfield 137, 3) := dq_181 bk_cX4_grant_38 5 rfl rfl
theorem dX4_grant_46 : decode cX4_grant 46 = .ok (.return_, 1) := dk_177 (blk_at bk_cX4_grant_38 8 rfl)
theorem bk_cX4_holdsMore_0 : (cX4_holdsMore.data.toList.drop 0).take 40 = [3, 54, 4, 3, 54, 5, 21, 5, 16, 7, 162, 0, 43, 21, 4, 42, 21, 5, 27, 28, 4, 96, 3, 3, 182, 0, 96, 128, 54, 4, 21, 4, 42, 21, 5, 27, 29, 4, 96, 4] := by decide +kernel
theorem dX4_holdsMore_0 : decode cX4_holdsMore 0 = .ok (.iconst 0, 1) := dk_3 (blk_at bk_cX4_holdsMore_0 0 rfl)
theorem dX4_holdsMore_1 : decode cX4_holdsMore 1 = .ok (.istore 4, 2) := dq_54 bk_cX4_holdsMore_0 1 rfl rfl
theorem dX4_holdsMore_3 : decode cX4_holdsMore 3 = .ok (.iconst 0, 1) := dk_3 (blk_at bk_cX4_holdsMore_0 3 rfl)
theorem dX4_holdsMore_4 : decode cX4_holdsMore 4 = .ok (.istore 5, 2) := dq_54 bk_cX4_holdsMore_0 4 rfl rfl
theorem dX4_holdsMore_6 : decode cX4_holdsMore 6 = .ok (.iload 5, 2) := dq_21 bk_cX4_holdsMore_0 6 rfl rfl
theorem dX4_holdsMore_8 : decode cX4_holdsMore 8 = .ok (.bipush 7, 2) := dq_16 bk_cX4_holdsMore_0 8 rfl (by decide)
theorem dX4_holdsMore_10 : decode cX4_holdsMore 10 = .ok (.if_icmp .ge 43, 3) := dq_162 bk_cX4_holdsMore_0 10 rfl (by decide)
theorem dX4_holdsMore_13 : decode cX4_holdsMore 13 = .ok (.iload 4, 2) := dq_21 bk_cX4_holdsMore_0 13 rfl rfl
theorem dX4_holdsMore_15 : decode cX4_holdsMore 15 = .ok (.aload_n 0, 1) := dk_42 (blk_at bk_cX4_holdsMore_0 15 rfl)
theorem dX4_holdsMore_16 : decode cX4_holdsMore 16 = .ok (.iload 5, 2) := dq_21 bk_cX4_holdsMore_0 16 rfl rfl
theorem dX4_holdsMore_18 : decode cX4_holdsMore 18 = .ok (.iload_n 1, 1) := dk_27 (blk_at bk_cX4_holdsMore_0 18 rfl)
theorem dX4_holdsMore_19 : decode cX4_holdsMore 19 = .ok (.iload_n 2, 1) := dk_28 (blk_at bk_cX4_holdsMore_0 19 rfl)
theorem dX4_holdsMore_20 : decode cX4_holdsMore 20 = .ok (.iconst 1, 1) := dk_4 (blk_at bk_cX4_holdsMore_0 20 rfl)
theorem dX4_holdsMore_21 : decode cX4_holdsMore 21 = .ok (.iadd, 1) := dk_96 (blk_at bk_cX4_holdsMore_0 21 rfl)
theorem dX4_holdsMore_22 : decode cX4_holdsMore 22 = .ok (.iconst 0, 1) := dk_3 (blk_at bk_cX4_holdsMore_0 22 rfl)
theorem dX4_holdsMore_23 : decode cX4_holdsMore 23 = .ok (.iconst 0, 1) := dk_3 (blk_at bk_cX4_holdsMore_0 23 rfl)
theorem dX4_holdsMore_24 : decode cX4_holdsMore 24 = .ok (.invokevirtual 96, 3) := dq_182 bk_cX4_holdsMore_0 24 rfl rfl
theorem dX4_holdsMore_27 : decode cX4_holdsMore 27 = .ok (.ior, 1) := dk_128 (blk_at bk_cX4_holdsMore_0 27 rfl)
theorem dX4_holdsMore_28 : decode cX4_holdsMore 28 = .ok (.istore 4, 2) := dq_54 bk_cX4_holdsMore_0 28 rfl rfl
theorem dX4_holdsMore_30 : decode cX4_holdsMore 30 = .ok (.iload 4, 2) := dq_21 bk_cX4_holdsMore_0 30 rfl rfl
theorem dX4_holdsMore_32 : decode cX4_holdsMore 32 = .ok (.aload_n 0, 1) := dk_42 (blk_at bk_cX4_holdsMore_0 32 rfl)
theorem dX4_holdsMore_33 : decode cX4_holdsMore 33 = .ok (.iload 5, 2) := dq_21 bk_cX4_holdsMore_0 33 rfl rfl
theorem dX4_holdsMore_35 : decode cX4_holdsMore 35 = .ok (.iload_n 1, 1) := dk_27 (blk_at bk_cX4_holdsMore_0 35 rfl)
theorem dX4_holdsMore_36 : decode cX4_holdsMore 36 = .ok (.iload_n 3, 1) := dk_29 (blk_at bk_cX4_holdsMore_0 36 rfl)
theorem dX4_holdsMore_37 : decode cX4_holdsMore 37 = .ok (.iconst 1, 1) := dk_4 (blk_at bk_cX4_holdsMore_0 37 rfl)
theorem dX4_holdsMore_38 : decode cX4_holdsMore 38 = .ok (.iadd, 1) := dk_96 (blk_at bk_cX4_holdsMore_0 38 rfl)
theorem dX4_holdsMore_39 : decode cX4_holdsMore 39 = .ok (.iconst 1, 1) := dk_4 (blk_at bk_cX4_holdsMore_0 39 rfl)
theorem bk_cX4_holdsMore_40 : (cX4_holdsMore.data.toList.drop 40).take 29 = [3, 182, 0, 96, 128, 54, 4, 132, 5, 1, 167, 255, 212, 21, 4, 42, 182, 0, 141, 126, 153, 0, 7, 4, 167, 0, 4, 3, 172] := by decide +kernel
theorem dX4_holdsMore_40 : decode cX4_holdsMore 40 = .ok (.iconst 0, 1) := dk_3 (blk_at bk_cX4_holdsMore_40 0 rfl)
theorem dX4_holdsMore_41 : decode cX4_holdsMore 41 = .ok (.invokevirtual 96, 3) := dq_182 bk_cX4_holdsMore_40 1 rfl rfl
theorem dX4_holdsMore_44 : decode cX4_holdsMore 44 = .ok (.ior, 1) := dk_128 (blk_at bk_cX4_holdsMore_40 4 rfl)
theorem dX4_holdsMore_45 : decode cX4_holdsMore 45 = .ok (.istore 4, 2) := dq_54 bk_cX4_holdsMore_40 5 rfl rfl
theorem dX4_holdsMore_47 : decode cX4_holdsMore 47 = .ok (.iinc 5 1, 3) := dq_132 bk_cX4_holdsMore_40 7 rfl rfl (by decide)
theorem dX4_holdsMore_50 : decode cX4_holdsMore 50 = .ok (.goto (-44), 3) := dq_167 bk_cX4_holdsMore_40 10 rfl (by decide)
theorem dX4_holdsMore_53 : decode cX4_holdsMore 53 = .ok (.iload 4, 2) := dq_21 bk_cX4_holdsMore_40 13 rfl rfl
theorem dX4_holdsMore_55 : decode cX4_holdsMore 55 = .ok (.aload_n 0, 1) := dk_42 (blk_at bk_cX4_holdsMore_40 15 rfl)
theorem dX4_holdsMore_56 : decode cX4_holdsMore 56 = .ok (.invokevirtual 141, 3) := dq_182 bk_cX4_holdsMore_40 16 rfl rfl
theorem dX4_holdsMore_59 : decode cX4_holdsMore 59 = .ok (.iand, 1) := dk_126 (blk_at bk_cX4_holdsMore_40 19 rfl)
theorem dX4_holdsMore_60 : decode cX4_holdsMore 60 = .ok (.ifCond .eq 7, 3) := dq_153 bk_cX4_holdsMore_40 20 rfl (by decide)
theorem dX4_holdsMore_63 : decode cX4_holdsMore 63 = .ok (.iconst 1, 1) := dk_4 (blk_at bk_cX4_holdsMore_40 23 rfl)
theorem dX4_holdsMore_64 : decode cX4_holdsMore 64 = .ok (.goto 4, 3) := dq_167 bk_cX4_holdsMore_40 24 rfl (by decide)
theorem dX4_holdsMore_67 : decode cX4_holdsMore 67 = .ok (.iconst 0, 1) := dk_3 (blk_at bk_cX4_holdsMore_40 27 rfl)
theorem dX4_holdsMore_68 : decode cX4_holdsMore 68 = .ok (.ireturn, 1) := dk_172 (blk_at bk_cX4_holdsMore_40 28 rfl)
theorem bk_cX4_seriesOf_0 : (cX4_seriesOf.data.toList.drop 0).take 40 = [3, 62, 3, 54, 4, 21, 4, 42, 180, 0, 21, 162, 0, 27, 42, 180, 0, 36, 21, 4, 50, 27, 28, 182, 0, 144, 153, 0, 6, 132, 3, 1, 132, 4, 1, 167, 255, 226, 29, 172] := by decide +kernel
theorem dX4_seriesOf_0 : decode cX4_seriesOf 0 = .ok (.iconst 0, 1) := dk_3 (blk_at bk_cX4_seriesOf_0 0 rfl)
theorem dX4_seriesOf_1 : decode cX4_seriesOf 1 = .ok (.istore_n 3, 1) := dk_62 (blk_at bk_cX4_seriesOf_0 1 rfl)
theorem dX4_seriesOf_2 : decode cX4_seriesOf 2 = .ok (.iconst 0, 1) := dk_3 (blk_at bk_cX4_seriesOf_0 2 rfl)
theorem dX4_seriesOf_3 : decode cX4_seriesOf 3 = .ok (.istore 4, 2) := dq_54 bk_cX4_seriesOf_0 3 rfl rfl
theorem dX4_seriesOf_5 : decode cX4_seriesOf 5 = .ok (.iload 4, 2) := dq_21 bk_cX4_seriesOf_0 5 rfl rfl
theorem dX4_seriesOf_7 : decode cX4_seriesOf 7 = .ok (.aload_n 0, 1) := dk_42 (blk_at bk_cX4_seriesOf_0 7 rfl)
theorem dX4_seriesOf_8 : decode cX4_seriesOf 8 = .ok (.getfield 21, 3) := dq_180 bk_cX4_seriesOf_0 8 rfl rfl
theorem dX4_seriesOf_11 : decode cX4_seriesOf 11 = .ok (.if_icmp .ge 27, 3) := dq_162 bk_cX4_seriesOf_0 11 rfl (by decide)
theorem dX4_seriesOf_14 : decode cX4_seriesOf 14 = .ok (.aload_n 0, 1) := dk_42 (blk_at bk_cX4_seriesOf_0 14 rfl)
theorem dX4_seriesOf_15 : decode cX4_seriesOf 15 = .ok (.getfield 36, 3) := dq_180 bk_cX4_seriesOf_0 15 rfl rfl
theorem dX4_seriesOf_18 : decode cX4_seriesOf 18 = .ok (.iload 4, 2) := dq_21 bk_cX4_seriesOf_0 18 rfl rfl
theorem dX4_seriesOf_20 : decode cX4_seriesOf 20 = .ok (.aaload, 1) := dk_50 (blk_at bk_cX4_seriesOf_0 20 rfl)
theorem dX4_seriesOf_21 : decode cX4_seriesOf 21 = .ok (.iload_n 1, 1) := dk_27 (blk_at bk_cX4_seriesOf_0 21 rfl)
theorem dX4_seriesOf_22 : decode cX4_seriesOf 22 = .ok (.iload_n 2, 1) := dk_28 (blk_at bk_cX4_seriesOf_0 22 rfl)
theorem dX4_seriesOf_23 : decode cX4_seriesOf 23 = .ok (.invokevirtual 144, 3) := dq_182 bk_cX4_seriesOf_0 23 rfl rfl
theorem dX4_seriesOf_26 : decode cX4_seriesOf 26 = .ok (.ifCond .eq 6, 3) := dq_153 bk_cX4_seriesOf_0 26 rfl (by decide)
theorem dX4_seriesOf_29 : decode cX4_seriesOf 29 = .ok (.iinc 3 1, 3) := dq_132 bk_cX4_seriesOf_0 29 rfl rfl (by decide)
theorem dX4_seriesOf_32 : decode cX4_seriesOf 32 = .ok (.iinc 4 1, 3) := dq_132 bk_cX4_seriesOf_0 32 rfl rfl (by decide)
theorem dX4_seriesOf_35 : decode cX4_seriesOf 35 = .ok (.goto (-30), 3) := dq_167 bk_cX4_seriesOf_0 35 rfl (by decide)
theorem dX4_seriesOf_38 : decode cX4_seriesOf 38 = .ok (.iload_n 3, 1) := dk_29 (blk_at bk_cX4_seriesOf_0 38 rfl)
theorem dX4_seriesOf_39 : decode cX4_seriesOf 39 = .ok (.ireturn, 1) := dk_172 (blk_at bk_cX4_seriesOf_0 39 rfl)
theorem bk_cX4_basisOf_0 : (cX4_basisOf.data.toList.drop 0).take 40 = [3, 62, 3, 54, 4, 21, 4, 42, 180, 0, 21, 162, 0, 37, 42, 180, 0, 36, 21, 4, 50, 27, 28, 182, 0, 144, 153, 0, 16, 29, 42, 180, 0, 36, 21, 4, 50, 182, 0, 147] := by decide +kernel
theorem dX4_basisOf_0 : decode cX4_basisOf 0 = .ok (.iconst 0, 1) := dk_3 (blk_at bk_cX4_basisOf_0 0 rfl)
theorem dX4_basisOf_1 : decode cX4_basisOf 1 = .ok (.istore_n 3, 1) := dk_62 (blk_at bk_cX4_basisOf_0 1 rfl)
theorem dX4_basisOf_2 : decode cX4_basisOf 2 = .ok (.iconst 0, 1) := dk_3 (blk_at bk_cX4_basisOf_0 2 rfl)
theorem dX4_basisOf_3 : decode cX4_basisOf 3 = .ok (.istore 4, 2) := dq_54 bk_cX4_basisOf_0 3 rfl rfl
theorem dX4_basisOf_5 : decode cX4_basisOf 5 = .ok (.iload 4, 2) := dq_21 bk_cX4_basisOf_0 5 rfl rfl
theorem dX4_basisOf_7 : decode cX4_basisOf 7 = .ok (.aload_n 0, 1) := dk_42 (blk_at bk_cX4_basisOf_0 7 rfl)
theorem dX4_basisOf_8 : decode cX4_basisOf 8 = .ok (.getfield 21, 3) := dq_180 bk_cX4_basisOf_0 8 rfl rfl
theorem dX4_basisOf_11 : decode cX4_basisOf 11 = .ok (.if_icmp .ge 37, 3) := dq_162 bk_cX4_basisOf_0 11 rfl (by decide)
theorem dX4_basisOf_14 : decode cX4_basisOf 14 = .ok (.aload_n 0, 1) := dk_42 (blk_at bk_cX4_basisOf_0 14 rfl)
theorem dX4_basisOf_15 : decode cX4_basisOf 15 = .ok (.getfield 36, 3) := dq_180 bk_cX4_basisOf_0 15 rfl rfl
theorem dX4_basisOf_18 : decode cX4_basisOf 18 = .ok (.iload 4, 2) := dq_21 bk_cX4_basisOf_0 18 rfl rfl
theorem dX4_basisOf_20 : decode cX4_basisOf 20 = .ok (.aaload, 1) := dk_50 (blk_at bk_cX4_basisOf_0 20 rfl)
theorem dX4_basisOf_21 : decode cX4_basisOf 21 = .ok (.iload_n 1, 1) := dk_27 (blk_at bk_cX4_basisOf_0 21 rfl)
theorem dX4_basisOf_22 : decode cX4_basisOf 22 = .ok (.iload_n 2, 1) := dk_28 (blk_at bk_cX4_basisOf_0 22 rfl)
theorem dX4_basisOf_23 : decode cX4_basisOf 23 = .ok (.invokevirtual 144, 3) := dq_182 bk_cX4_basisOf_0 23 rfl rfl
theorem dX4_basisOf_26 : decode cX4_basisOf 26 = .ok (.ifCond .eq 16, 3) := dq_153 bk_cX4_basisOf_0 26 rfl (by decide)
theorem dX4_basisOf_29 : decode cX4_basisOf 29 = .ok (.iload_n 3, 1) := dk_29 (blk_at bk_cX4_basisOf_0 29 rfl)
theorem dX4_basisOf_30 : decode cX4_basisOf 30 = .ok (.aload_n 0, 1) := dk_42 (blk_at bk_cX4_basisOf_0 30 rfl)
theorem dX4_basisOf_31 : decode cX4_basisOf 31 = .ok (.getfield 36, 3) := dq_180 bk_cX4_basisOf_0 31 rfl rfl
theorem dX4_basisOf_34 : decode cX4_basisOf 34 = .ok (.iload 4, 2) := dq_21 bk_cX4_basisOf_0 34 rfl rfl
theorem dX4_basisOf_36 : decode cX4_basisOf 36 = .ok (.aaload, 1) := dk_50 (blk_at bk_cX4_basisOf_0 36 rfl)
theorem dX4_basisOf_37 : decode cX4_basisOf 37 = .ok (.invokevirtual 147, 3) := dq_182 bk_cX4_basisOf_0 37 rfl rfl
theorem bk_cX4_basisOf_40 : (cX4_basisOf.data.toList.drop 40).take 10 = [96, 62, 132, 4, 1, 167, 255, 216, 29, 172] := by decide +kernel
theorem dX4_basisOf_40 : decode cX4_basisOf 40 = .ok (.iadd, 1) := dk_96 (blk_at bk_cX4_basisOf_40 0 rfl)
theorem dX4_basisOf_41 : decode cX4_basisOf 41 = .ok (.istore_n 3, 1) := dk_62 (blk_at bk_cX4_basisOf_40 1 rfl)
theorem dX4_basisOf_42 : decode cX4_basisOf 42 = .ok (.iinc 4 1, 3) := dq_132 bk_cX4_basisOf_40 2 rfl rfl (by decide)
theorem dX4_basisOf_45 : decode cX4_basisOf 45 = .ok (.goto (-40), 3) := dq_167 bk_cX4_basisOf_40 5 rfl (by decide)
theorem dX4_basisOf_48 : decode cX4_basisOf 48 = .ok (.iload_n 3, 1) := dk_29 (blk_at bk_cX4_basisOf_40 8 rfl)
theorem dX4_basisOf_49 : decode cX4_basisOf 49 = .ok (.ireturn, 1) := dk_172 (blk_at bk_cX4_basisOf_40 9 rfl)
theorem bk_cX4_goodOf_0 : (cX4_goodOf.data.toList.drop 0).take 40 = [3, 61, 3, 62, 29, 42, 180, 0, 21, 162, 0, 34, 42, 180, 0, 36, 29, 50, 180, 0, 150, 27, 160, 0, 15, 28, 42, 180, 0, 36, 29, 50, 182, 0, 151, 96, 61, 132, 3, 1] := by decide +kernel
theorem dX4_goodOf_0 : decode cX4_goodOf 0 = .ok (.iconst 0, 1) := dk_3 (blk_at bk_cX4_goodOf_0 0 rfl)
theorem dX4_goodOf_1 : decode cX4_goodOf 1 = .ok (.istore_n 2, 1) := dk_61 (blk_at bk_cX4_goodOf_0 1 rfl)
theorem dX4_goodOf_2 : decode cX4_goodOf 2 = .ok (.iconst 0, 1) := dk_3 (blk_at bk_cX4_goodOf_0 2 rfl)
theorem dX4_goodOf_3 : decode cX4_goodOf 3 = .ok (.istore_n 3, 1) := dk_62 (blk_at bk_cX4_goodOf_0 3 rfl)
theorem dX4_goodOf_4 : decode cX4_goodOf 4 = .ok (.iload_n 3, 1) := dk_29 (blk_at bk_cX4_goodOf_0 4 rfl)
theorem dX4_goodOf_5 : decode cX4_goodOf 5 = .ok (.aload_n 0, 1) := dk_42 (blk_at bk_cX4_goodOf_0 5 rfl)
theorem dX4_goodOf_6 : decode cX4_goodOf 6 = .ok (.getfield 21, 3) := dq_180 bk_cX4_goodOf_0 6 rfl rfl
theorem dX4_goodOf_9 : decode cX4_goodOf 9 = .ok (.if_icmp .ge 34, 3) := dq_162 bk_cX4_goodOf_0 9 rfl (by decide)
theorem dX4_goodOf_12 : decode cX4_goodOf 12 = .ok (.aload_n 0, 1) := dk_42 (blk_at bk_cX4_goodOf_0 12 rfl)
theorem dX4_goodOf_13 : decode cX4_goodOf 13 = .ok (.getfield 36, 3) := dq_180 bk_cX4_goodOf_0 13 rfl rfl
theorem dX4_goodOf_16 : decode cX4_goodOf 16 = .ok (.iload_n 3, 1) := dk_29 (blk_at bk_cX4_goodOf_0 16 rfl)
theorem dX4_goodOf_17 : decode cX4_goodOf 17 = .ok (.aaload, 1) := dk_50 (blk_at bk_cX4_goodOf_0 17 rfl)
theorem dX4_goodOf_18 : decode cX4_goodOf 18 = .ok (.getfield 150, 3) := dq_180 bk_cX4_goodOf_0 18 rfl rfl
theorem dX4_goodOf_21 : decode cX4_goodOf 21 = .ok (.iload_n 1, 1) := dk_27 (blk_at bk_cX4_goodOf_0 21 rfl)
theorem dX4_goodOf_22 : decode cX4_goodOf 22 = .ok (.if_icmp .ne 15, 3) := dq_160 bk_cX4_goodOf_0 22 rfl (by decide)
theorem dX4_goodOf_25 : decode cX4_goodOf 25 = .ok (.iload_n 2, 1) := dk_28 (blk_at bk_cX4_goodOf_0 25 rfl)
theorem dX4_goodOf_26 : decode cX4_goodOf 26 = .ok (.aload_n 0, 1) := dk_42 (blk_at bk_cX4_goodOf_0 26 rfl)
theorem dX4_goodOf_27 : decode cX4_goodOf 27 = .ok (.getfield 36, 3) := dq_180 bk_cX4_goodOf_0 27 rfl rfl
theorem dX4_goodOf_30 : decode cX4_goodOf 30 = .ok (.iload_n 3, 1) := dk_29 (blk_at bk_cX4_goodOf_0 30 rfl)
theorem dX4_goodOf_31 : decode cX4_goodOf 31 = .ok (.aaload, 1) := dk_50 (blk_at bk_cX4_goodOf_0 31 rfl)
theorem dX4_goodOf_32 : decode cX4_goodOf 32 = .ok (.invokevirtual 151, 3) := dq_182 bk_cX4_goodOf_0 32 rfl rfl
theorem dX4_goodOf_35 : decode cX4_goodOf 35 = .ok (.iadd, 1) := dk_96 (blk_at bk_cX4_goodOf_0 35 rfl)
theorem dX4_goodOf_36 : decode cX4_goodOf 36 = .ok (.istore_n 2, 1) := dk_61 (blk_at bk_cX4_goodOf_0 36 rfl)
theorem dX4_goodOf_37 : decode cX4_goodOf 37 = .ok (.iinc 3 1, 3) := dq_132 bk_cX4_goodOf_0 37 rfl rfl (by decide)
theorem bk_cX4_goodOf_40 : (cX4_goodOf.data.toList.drop 40).take 5 = [167, 255, 220, 28, 172] := by decide +kernel
theorem dX4_goodOf_40 : decode cX4_goodOf 40 = .ok (.goto (-36), 3) := dq_167 bk_cX4_goodOf_40 0 rfl (by decide)
theorem dX4_goodOf_43 : decode cX4_goodOf 43 = .ok (.iload_n 2, 1) := dk_28 (blk_at bk_cX4_goodOf_40 3 rfl)
theorem dX4_goodOf_44 : decode cX4_goodOf 44 = .ok (.ireturn, 1) := dk_172 (blk_at bk_cX4_goodOf_40 4 rfl)
theorem bk_cX4_startAnew_0 : (cX4_startAnew.data.toList.drop 0).take 40 = [3, 60, 3, 61, 28, 42, 180, 0, 21, 162, 0, 58, 42, 180, 0, 36, 28, 50, 78, 45, 182, 0, 154, 153, 0, 38, 45, 45, 182, 0, 88, 182, 0, 157, 45, 3, 181, 0, 137, 42] := by decide +kernel
theorem dX4_startAnew_0 : decode cX4_startAnew 0 = .ok (.iconst 0, 1) := dk_3 (blk_at bk_cX4_startAnew_0 0 rfl)
theorem dX4_startAnew_1 : decode cX4_startAnew 1 = .ok (.istore_n 1, 1) := dk_60 (blk_at bk_cX4_startAnew_0 1 rfl)
theorem dX4_startAnew_2 : decode cX4_startAnew 2 = .ok (.iconst 0, 1) := dk_3 (blk_at bk_cX4_startAnew_0 2 rfl)
theorem dX4_startAnew_3 : decode cX4_startAnew 3 = .ok (.istore_n 2, 1) := dk_61 (blk_at bk_cX4_startAnew_0 3 rfl)
theorem dX4_startAnew_4 : decode cX4_startAnew 4 = .ok (.iload_n 2, 1) := dk_28 (blk_at bk_cX4_startAnew_0 4 rfl)
theorem dX4_startAnew_5 : decode cX4_startAnew 5 = .ok (.aload_n 0, 1) := dk_42 (blk_at bk_cX4_startAnew_0 5 rfl)
theorem dX4_startAnew_6 : decode cX4_startAnew 6 = .ok (.getfield 21, 3) := dq_180 bk_cX4_startAnew_0 6 rfl rfl
theorem dX4_startAnew_9 : decode cX4_startAnew 9 = .ok (.if_icmp .ge 58, 3) := dq_162 bk_cX4_startAnew_0 9 rfl (by decide)
theorem dX4_startAnew_12 : decode cX4_startAnew 12 = .ok (.aload_n 0, 1) := dk_42 (blk_at bk_cX4_startAnew_0 12 rfl)
theorem dX4_startAnew_13 : decode cX4_startAnew 13 = .ok (.getfield 36, 3) := dq_180 bk_cX4_startAnew_0 13 rfl rfl
theorem dX4_startAnew_16 : decode cX4_startAnew 16 = .ok (.iload_n 2, 1) := dk_28 (blk_at bk_cX4_startAnew_0 16 rfl)
theorem dX4_startAnew_17 : decode cX4_startAnew 17 = .ok (.aaload, 1) := dk_50 (blk_at bk_cX4_startAnew_0 17 rfl)
theorem dX4_startAnew_18 : decode cX4_startAnew 18 = .ok (.astore_n 3, 1) := dk_78 (blk_at bk_cX4_startAnew_0 18 rfl)
theorem dX4_startAnew_19 : decode cX4_startAnew 19 = .ok (.aload_n 3, 1) := dk_45 (blk_at bk_cX4_startAnew_0 19 rfl)
theorem dX4_startAnew_20 : decode cX4_startAnew 20 = .ok (.invokevirtual 154, 3) := dq_182 bk_cX4_startAnew_0 20 rfl rfl
theorem dX4_startAnew_23 : decode cX4_startAnew 23 = .ok (.ifCond .eq 38, 3) := dq_153 bk_cX4_startAnew_0 23 rfl (by decide)
theorem dX4_startAnew_26 : decode cX4_startAnew 26 = .ok (.aload_n 3, 1) := dk_45 (blk_at bk_cX4_startAnew_0 26 rfl)
theorem dX4_startAnew_27 : decode cX4_startAnew 27 = .ok (.aload_n 3, 1) := dk_45 (blk_at bk_cX4_startAnew_0 27 rfl)
theorem dX4_startAnew_28 : decode cX4_startAnew 28 = .ok (.invokevirtual 88, 3) := dq_182 bk_cX4_startAnew_0 28 rfl rfl
theorem dX4_startAnew_31 : decode cX4_startAnew 31 = .ok (.invokevirtual 157, 3) := dq_182 bk_cX4_startAnew_0 31 rfl rfl
theorem dX4_startAnew_34 : decode cX4_startAnew 34 = .ok (.aload_n 3, 1) := dk_45 (blk_at bk_cX4_startAnew_0 34 rfl)
theorem dX4_startAnew_35 : decode cX4_startAnew 35 = .ok (.iconst 0, 1) := dk_3 (blk_at bk_cX4_startAnew_0 35 rfl)
theorem dX4_startAnew_36 : decode cX4_startAnew 36 = .ok (.putfield 137, 3) := dq_181 bk_cX4_startAnew_0 36 rfl rfl
theorem dX4_startAnew_39 : decode cX4_startAnew 39 = .ok (.aload_n 0, 1) := dk_42 (blk_at bk_cX4_startAnew_0 39 rfl)
theorem bk_cX4_startAnew_40 : (cX4_startAnew.data.toList.drop 40).take 39 = [180, 0, 36, 28, 42, 180, 0, 36, 27, 50, 83, 42, 180, 0, 36, 27, 45, 83, 132, 1, 1, 132, 2, 1, 167, 255, 196, 42, 27, 181, 0, 21, 42, 3, 181, 0, 24, 42, 3] := by decide +kernel
theorem dX4_startAnew_40 : decode cX4_startAnew 40 = .ok (.getfield 36, 3) := dq_180 bk_cX4_startAnew_40 0 rfl rfl
theorem dX4_startAnew_43 : decode cX4_startAnew 43 = .ok (.iload_n 2, 1) := dk_28 (blk_at bk_cX4_startAnew_40 3 rfl)
theorem dX4_startAnew_44 : decode cX4_startAnew 44 = .ok (.aload_n 0, 1) := dk_42 (blk_at bk_cX4_startAnew_40 4 rfl)
theorem dX4_startAnew_45 : decode cX4_startAnew 45 = .ok (.getfield 36, 3) := dq_180 bk_cX4_startAnew_40 5 rfl rfl
theorem dX4_startAnew_48 : decode cX4_startAnew 48 = .ok (.iload_n 1, 1) := dk_27 (blk_at bk_cX4_startAnew_40 8 rfl)
theorem dX4_startAnew_49 : decode cX4_startAnew 49 = .ok (.aaload, 1) := dk_50 (blk_at bk_cX4_startAnew_40 9 rfl)
theorem dX4_startAnew_50 : decode cX4_startAnew 50 = .ok (.aastore, 1) := dk_83 (blk_at bk_cX4_startAnew_40 10 rfl)
theorem dX4_startAnew_51 : decode cX4_startAnew 51 = .ok (.aload_n 0, 1) := dk_42 (blk_at bk_cX4_startAnew_40 11 rfl)
theorem dX4_startAnew_52 : decode cX4_startAnew 52 = .ok (.getfield 36, 3) := dq_180 bk_cX4_startAnew_40 12 rfl rfl
theorem dX4_startAnew_55 : decode cX4_startAnew 55 = .ok (.iload_n 1, 1) := dk_27 (blk_at bk_cX4_startAnew_40 15 rfl)
theorem dX4_startAnew_56 : decode cX4_startAnew 56 = .ok (.aload_n 3, 1) := dk_45 (blk_at bk_cX4_startAnew_40 16 rfl)
theorem dX4_startAnew_57 : decode cX4_startAnew 57 = .ok (.aastore, 1) := dk_83 (blk_at bk_cX4_startAnew_40 17 rfl)
theorem dX4_startAnew_58 : decode cX4_startAnew 58 = .ok (.iinc 1 1, 3) := dq_132 bk_cX4_startAnew_40 18 rfl rfl (by decide)
theorem dX4_startAnew_61 : decode cX4_startAnew 61 = .ok (.iinc 2 1, 3) := dq_132 bk_cX4_startAnew_40 21 rfl rfl (by decide)
theorem dX4_startAnew_64 : decode cX4_startAnew 64 = .ok (.goto (-60), 3) := dq_167 bk_cX4_startAnew_40 24 rfl (by decide)
theorem dX4_startAnew_67 : decode cX4_startAnew 67 = .ok (.aload_n 0, 1) := dk_42 (blk_at bk_cX4_startAnew_40 27 rfl)
theorem dX4_startAnew_68 : decode cX4_startAnew 68 = .ok (.iload_n 1, 1) := dk_27 (blk_at bk_cX4_startAnew_40 28 rfl)
theorem dX4_startAnew_69 : decode cX4_startAnew 69 = .ok (.putfield 21, 3) := dq_181 bk_cX4_startAnew_40 29 rfl rfl
theorem dX4_startAnew_72 : decode cX4_startAnew 72 = .ok (.aload_n 0, 1) := dk_42 (blk_at bk_cX4_startAnew_40 32 rfl)
theorem dX4_startAnew_73 : decode cX4_startAnew 73 = .ok (.iconst 0, 1) := dk_3 (blk_at bk_cX4_startAnew_40 33 rfl)
theorem dX4_startAnew_74 : decode cX4_startAnew 74 = .ok (.putfield 24, 3) := dq_181 bk_cX4_startAnew_40 34 rfl rfl
theorem dX4_startAnew_77 : decode cX4_startAnew 77 = .ok (.aload_n 0, 1) := dk_42 (blk_at bk_cX4_startAnew_40 37 rfl)
theorem dX4_startAnew_78 : decode cX4_startAnew 78 = .ok (.iconst 0, 1) := dk_3 (blk_at bk_cX4_startAnew_40 38 rfl)
theorem bk_cX4_startAnew_79 : (cX4_startAnew.data.toList.drop 79).take 14 = [181, 0, 15, 42, 89, 180, 0, 18, 4, 96, 181, 0, 18, 177] := by decide +kernel
theorem dX4_startAnew_79 : decode cX4_startAnew 79 = .ok (.putfield 15, 3) := dq_181 bk_cX4_startAnew_79 0 rfl rfl
theorem dX4_startAnew_82 : decode cX4_startAnew 82 = .ok (.aload_n 0, 1) := dk_42 (blk_at bk_cX4_startAnew_79 3 rfl)
theorem dX4_startAnew_83 : decode cX4_startAnew 83 = .ok (.dup, 1) := dk_89 (blk_at bk_cX4_startAnew_79 4 rfl)
theorem dX4_startAnew_84 : decode cX4_startAnew 84 = .ok (.getfield 18, 3) := dq_180 bk_cX4_startAnew_79 5 rfl rfl
theorem dX4_startAnew_87 : decode cX4_startAnew 87 = .ok (.iconst 1, 1) := dk_4 (blk_at bk_cX4_startAnew_79 8 rfl)
theorem dX4_startAnew_88 : decode cX4_startAnew 88 = .ok (.iadd, 1) := dk_96 (blk_at bk_cX4_startAnew_79 9 rfl)
theorem dX4_startAnew_89 : decode cX4_startAnew 89 = .ok (.putfield 18, 3) := dq_181 bk_cX4_startAnew_79 10 rfl rfl
theorem dX4_startAnew_92 : decode cX4_startAnew 92 = .ok (.return_, 1) := dk_177 (blk_at bk_cX4_startAnew_79 13 rfl)
theorem bk_cX5_init_0 : (cX5_init.data.toList.drop 0).take 40 = [42, 183, 0, 3, 42, 3, 181, 0, 9, 42, 3, 181, 0, 15, 42, 3, 181, 0, 18, 42, 3, 181, 0, 21, 42, 3, 181, 0, 24, 42, 3, 181, 0, 28, 42, 3, 181, 0, 31, 42] := by decide +kernel
theorem dX5_init_0 : decode cX5_init 0 = .ok (.aload_n 0, 1) := dk_42 (blk_at bk_cX5_init_0 0 rfl)
theorem dX5_init_1 : decode cX5_init 1 = .ok (.invokespecial 3, 3) := dq_183 bk_cX5_init_0 1 rfl rfl
theorem dX5_init_4 : decode cX5_init 4 = .ok (.aload_n 0, 1) := dk_42 (blk_at bk_cX5_init_0 4 rfl)
theorem dX5_init_5 : decode cX5_init 5 = .ok (.iconst 0, 1) := dk_3 (blk_at bk_cX5_init_0 5 rfl)
theorem dX5_init_6 : decode cX5_init 6 = .ok (.putfield 9, 3) := dq_181 bk_cX5_init_0 6 rfl rfl
theorem dX5_init_9 : decode cX5_init 9 = .ok (.aload_n 0, 1) := dk_42 (blk_at bk_cX5_init_0 9 rfl)
theorem dX5_init_10 : decode cX5_init 10 = .ok (.iconst 0, 1) := dk_3 (blk_at bk_cX5_init_0 10 rfl)
theorem dX5_init_11 : decode cX5_init 11 = .ok (.putfield 15, 3) := dq_181 bk_cX5_init_0 11 rfl rfl
theorem dX5_init_14 : decode cX5_init 14 = .ok (.aload_n 0, 1) := dk_42 (blk_at bk_cX5_init_0 14 rfl)
theorem dX5_init_15 : decode cX5_init 15 = .ok (.iconst 0, 1) := dk_3 (blk_at bk_cX5_init_0 15 rfl)
theorem dX5_init_16 : decode cX5_init 16 = .ok (.putfield 18, 3) := dq_181 bk_cX5_init_0 16 rfl rfl
theorem dX5_init_19 : decode cX5_init 19 = .ok (.aload_n 0, 1) := dk_42 (blk_at bk_cX5_init_0 19 rfl)
theorem dX5_init_20 : decode cX5_init 20 = .ok (.iconst 0, 1) := dk_3 (blk_at bk_cX5_init_0 20 rfl)
theorem dX5_init_21 : decode cX5_init 21 = .ok (.putfield 21, 3) := dq_181 bk_cX5_init_0 21 rfl rfl
theorem dX5_init_24 : decode cX5_init 24 = .ok (.aload_n 0, 1) := dk_42 (blk_at bk_cX5_init_0 24 rfl)
theorem dX5_init_25 : decode cX5_init 25 = .ok (.iconst 0, 1) := dk_3 (blk_at bk_cX5_init_0 25 rfl)
theorem dX5_init_26 : decode cX5_init 26 = .ok (.putfield 24, 3) := dq_181 bk_cX5_init_0 26 rfl rfl
theorem dX5_init_29 : decode cX5_init 29 = .ok (.aload_n 0, 1) := dk_42 (blk_at bk_cX5_init_0 29 rfl)
theorem dX5_init_30 : decode cX5_init 30 = .ok (.iconst 0, 1) := dk_3 (blk_at bk_cX5_init_0 30 rfl)
theorem dX5_init_31 : decode cX5_init 31 = .ok (.putfield 28, 3) := dq_181 bk_cX5_init_0 31 rfl rfl
theorem dX5_init_34 : decode cX5_init 34 = .ok (.aload_n 0, 1) := dk_42 (blk_at bk_cX5_init_0 34 rfl)
theorem dX5_init_35 : decode cX5_init 35 = .ok (.iconst 0, 1) := dk_3 (blk_at bk_cX5_init_0 35 rfl)
theorem dX5_init_36 : decode cX5_init 36 = .ok (.putfield 31, 3) := dq_181 bk_cX5_init_0 36 rfl rfl
theorem dX5_init_39 : decode cX5_init 39 = .ok (.aload_n 0, 1) := dk_42 (blk_at bk_cX5_init_0 39 rfl)
theorem bk_cX5_init_40 : (cX5_init.data.toList.drop 40).take 25 = [3, 181, 0, 34, 42, 3, 181, 0, 37, 42, 3, 181, 0, 40, 42, 3, 181, 0, 43, 42, 3, 181, 0, 46, 177] := by decide +kernel
theorem dX5_init_40 : decode cX5_init 40 = .ok (.iconst 0, 1) := dk_3 (blk_at bk_cX5_init_40 0 rfl)
theorem dX5_init_41 : decode cX5_init 41 = .ok (.putfield 34, 3) := dq_181 bk_cX5_init_40 1 rfl rfl
theorem dX5_init_44 : decode cX5_init 44 = .ok (.aload_n 0, 1) := dk_42 (blk_at bk_cX5_init_40 4 rfl)
theorem dX5_init_45 : decode cX5_init 45 = .ok (.iconst 0, 1) := dk_3 (blk_at bk_cX5_init_40 5 rfl)
theorem dX5_init_46 : decode cX5_init 46 = .ok (.putfield 37, 3) := dq_181 bk_cX5_init_40 6 rfl rfl
theorem dX5_init_49 : decode cX5_init 49 = .ok (.aload_n 0, 1) := dk_42 (blk_at bk_cX5_init_40 9 rfl)
theorem dX5_init_50 : decode cX5_init 50 = .ok (.iconst 0, 1) := dk_3 (blk_at bk_cX5_init_40 10 rfl)
theorem dX5_init_51 : decode cX5_init 51 = .ok (.putfield 40, 3) := dq_181 bk_cX5_init_40 11 rfl rfl
theorem dX5_init_54 : decode cX5_init 54 = .ok (.aload_n 0, 1) := dk_42 (blk_at bk_cX5_init_40 14 rfl)
theorem dX5_init_55 : decode cX5_init 55 = .ok (.iconst 0, 1) := dk_3 (blk_at bk_cX5_init_40 15 rfl)
theorem dX5_init_56 : decode cX5_init 56 = .ok (.putfield 43, 3) := dq_181 bk_cX5_init_40 16 rfl rfl
theorem dX5_init_59 : decode cX5_init 59 = .ok (.aload_n 0, 1) := dk_42 (blk_at bk_cX5_init_40 19 rfl)
theorem dX5_init_60 : decode cX5_init 60 = .ok (.iconst 0, 1) := dk_3 (blk_at bk_cX5_init_40 20 rfl)
theorem dX5_init_61 : decode cX5_init 61 = .ok (.putfield 46, 3) := dq_181 bk_cX5_init_40 21 rfl rfl
theorem dX5_init_64 : decode cX5_init 64 = .ok (.return_, 1) := dk_177 (blk_at bk_cX5_init_40 24 rfl)
theorem bk_cX5_copyFrom_0 : (cX5_copyFrom.data.toList.drop 0).take 40 = [42, 43, 180, 0, 9, 181, 0, 9, 42, 43, 180, 0, 15, 181, 0, 15, 42, 43, 180, 0, 18, 181, 0, 18, 42, 43, 180, 0, 21, 181, 0, 21, 42, 43, 180, 0, 24, 181, 0, 24] := by decide +kernel
theorem dX5_copyFrom_0 : decode cX5_copyFrom 0 = .ok (.aload_n 0, 1) := dk_42 (blk_at bk_cX5_copyFrom_0 0 rfl)
theorem dX5_copyFrom_1 : decode cX5_copyFrom 1 = .ok (.aload_n 1, 1) := dk_43 (blk_at bk_cX5_copyFrom_0 1 rfl)
theorem dX5_copyFrom_2 : decode cX5_copyFrom 2 = .ok (.getfield 9, 3) := dq_180 bk_cX5_copyFrom_0 2 rfl rfl
theorem dX5_copyFrom_5 : decode cX5_copyFrom 5 = .ok (.putfield 9, 3) := dq_181 bk_cX5_copyFrom_0 5 rfl rfl
theorem dX5_copyFrom_8 : decode cX5_copyFrom 8 = .ok (.aload_n 0, 1) := dk_42 (blk_at bk_cX5_copyFrom_0 8 rfl)
theorem dX5_copyFrom_9 : decode cX5_copyFrom 9 = .ok (.aload_n 1, 1) := dk_43 (blk_at bk_cX5_copyFrom_0 9 rfl)
theorem dX5_copyFrom_10 : decode cX5_copyFrom 10 = .ok (.getfield 15, 3) := dq_180 bk_cX5_copyFrom_0 10 rfl rfl
theorem dX5_copyFrom_13 : decode cX5_copyFrom 13 = .ok (.putfield 15, 3) := dq_181 bk_cX5_copyFrom_0 13 rfl rfl
theorem dX5_copyFrom_16 : decode cX5_copyFrom 16 = .ok (.aload_n 0, 1) := dk_42 (blk_at bk_cX5_copyFrom_0 16 rfl)
theorem dX5_copyFrom_17 : decode cX5_copyFrom 17 = .ok (.aload_n 1, 1) := dk_43 (blk_at bk_cX5_copyFrom_0 17 rfl)
theorem dX5_copyFrom_18 : decode cX5_copyFrom 18 = .ok (.getfield 18, 3) := dq_180 bk_cX5_copyFrom_0 18 rfl rfl
theorem dX5_copyFrom_21 : decode cX5_copyFrom 21 = .ok (.putfield 18, 3) := dq_181 bk_cX5_copyFrom_0 21 rfl rfl
theorem dX5_copyFrom_24 : decode cX5_copyFrom 24 = .ok (.aload_n 0, 1) := dk_42 (blk_at bk_cX5_copyFrom_0 24 rfl)
theorem dX5_copyFrom_25 : decode cX5_copyFrom 25 = .ok (.aload_n 1, 1) := dk_43 (blk_at bk_cX5_copyFrom_0 25 rfl)
theorem dX5_copyFrom_26 : decode cX5_copyFrom 26 = .ok (.getfield 21, 3) := dq_180 bk_cX5_copyFrom_0 26 rfl rfl
theorem dX5_copyFrom_29 : decode cX5_copyFrom 29 = .ok (.putfield 21, 3) := dq_181 bk_cX5_copyFrom_0 29 rfl rfl
theorem dX5_copyFrom_32 : decode cX5_copyFrom 32 = .ok (.aload_n 0, 1) := dk_42 (blk_at bk_cX5_copyFrom_0 32 rfl)
theorem dX5_copyFrom_33 : decode cX5_copyFrom 33 = .ok (.aload_n 1, 1) := dk_43 (blk_at bk_cX5_copyFrom_0 33 rfl)
theorem dX5_copyFrom_34 : decode cX5_copyFrom 34 = .ok (.getfield 24, 3) := dq_180 bk_cX5_copyFrom_0 34 rfl rfl
theorem dX5_copyFrom_37 : decode cX5_copyFrom 37 = .ok (.putfield 24, 3) := dq_181 bk_cX5_copyFrom_0 37 rfl rfl
theorem bk_cX5_copyFrom_40 : (cX5_copyFrom.data.toList.drop 40).take 40 = [42, 43, 180, 0, 28, 181, 0, 28, 42, 43, 180, 0, 31, 181, 0, 31, 42, 43, 180, 0, 34, 181, 0, 34, 42, 43, 180, 0, 37, 181, 0, 37, 42, 43, 180, 0, 40, 181, 0, 40] := by decide +kernel
theorem dX5_copyFrom_40 : decode cX5_copyFrom 40 = .ok (.aload_n 0, 1) := dk_42 (blk_at bk_cX5_copyFrom_40 0 rfl)
theorem dX5_copyFrom_41 : decode cX5_copyFrom 41 = .ok (.aload_n 1, 1) := dk_43 (blk_at bk_cX5_copyFrom_40 1 rfl)
theorem dX5_copyFrom_42 : decode cX5_copyFrom 42 = .ok (.getfield 28, 3) := dq_180 bk_cX5_copyFrom_40 2 rfl rfl
theorem dX5_copyFrom_45 : decode cX5_copyFrom 45 = .ok (.putfield 28, 3) := dq_181 bk_cX5_copyFrom_40 5 rfl rfl
theorem dX5_copyFrom_48 : decode cX5_copyFrom 48 = .ok (.aload_n 0, 1) := dk_42 (blk_at bk_cX5_copyFrom_40 8 rfl)
theorem dX5_copyFrom_49 : decode cX5_copyFrom 49 = .ok (.aload_n 1, 1) := dk_43 (blk_at bk_cX5_copyFrom_40 9 rfl)
theorem dX5_copyFrom_50 : decode cX5_copyFrom 50 = .ok (.getfield 31, 3) := dq_180 bk_cX5_copyFrom_40 10 rfl rfl
theorem dX5_copyFrom_53 : decode cX5_copyFrom 53 = .ok (.putfield 31, 3) := dq_181 bk_cX5_copyFrom_40 13 rfl rfl
theorem dX5_copyFrom_56 : decode cX5_copyFrom 56 = .ok (.aload_n 0, 1) := dk_42 (blk_at bk_cX5_copyFrom_40 16 rfl)
theorem dX5_copyFrom_57 : decode cX5_copyFrom 57 = .ok (.aload_n 1, 1) := dk_43 (blk_at bk_cX5_copyFrom_40 17 rfl)
theorem dX5_copyFrom_58 : decode cX5_copyFrom 58 = .ok (.getfield 34, 3) := dq_180 bk_cX5_copyFrom_40 18 rfl rfl
theorem dX5_copyFrom_61 : decode cX5_copyFrom 61 = .ok (.putfield 34, 3) := dq_181 bk_cX5_copyFrom_40 21 rfl rfl
theorem dX5_copyFrom_64 : decode cX5_copyFrom 64 = .ok (.aload_n 0, 1) := dk_42 (blk_at bk_cX5_copyFrom_40 24 rfl)
theorem dX5_copyFrom_65 : decode cX5_copyFrom 65 = .ok (.aload_n 1, 1) := dk_43 (blk_at bk_cX5_copyFrom_40 25 rfl)
theorem dX5_copyFrom_66 : decode cX5_copyFrom 66 = .ok (.getfield 37, 3) := dq_180 bk_cX5_copyFrom_40 26 rfl rfl
theorem dX5_copyFrom_69 : decode cX5_copyFrom 69 = .ok (.putfield 37, 3) := dq_181 bk_cX5_copyFrom_40 29 rfl rfl
theorem dX5_copyFrom_72 : decode cX5_copyFrom 72 = .ok (.aload_n 0, 1) := dk_42 (blk_at bk_cX5_copyFrom_40 32 rfl)
theorem dX5_copyFrom_73 : decode cX5_copyFrom 73 = .ok (.aload_n 1, 1) := dk_43 (blk_at bk_cX5_copyFrom_40 33 rfl)
theorem dX5_copyFrom_74 : decode cX5_copyFrom 74 = .ok (.getfield 40, 3) := dq_180 bk_cX5_copyFrom_40 34 rfl rfl
theorem dX5_copyFrom_77 : decode cX5_copyFrom 77 = .ok (.putfield 40, 3) := dq_181 bk_cX5_copyFrom_40 37 rfl rfl
theorem bk_cX5_copyFrom_80 : (cX5_copyFrom.data.toList.drop 80).take 17 = [42, 43, 180, 0, 43, 181, 0, 43, 42, 43, 180, 0, 46, 181, 0, 46, 177] := by decide +kernel
theorem dX5_copyFrom_80 : decode cX5_copyFrom 80 = .ok (.aload_n 0, 1) := dk_42 (blk_at bk_cX5_copyFrom_80 0 rfl)
theorem dX5_copyFrom_81 : decode cX5_copyFrom 81 = .ok (.aload_n 1, 1) := dk_43 (blk_at bk_cX5_copyFrom_80 1 rfl)
theorem dX5_copyFrom_82 : decode cX5_copyFrom 82 = .ok (.getfield 43, 3) := dq_180 bk_cX5_copyFrom_80 2 rfl rfl
theorem dX5_copyFrom_85 : decode cX5_copyFrom 85 = .ok (.putfield 43, 3) := dq_181 bk_cX5_copyFrom_80 5 rfl rfl
theorem dX5_copyFrom_88 : decode cX5_copyFrom 88 = .ok (.aload_n 0, 1) := dk_42 (blk_at bk_cX5_copyFrom_80 8 rfl)
theorem dX5_copyFrom_89 : decode cX5_copyFrom 89 = .ok (.aload_n 1, 1) := dk_43 (blk_at bk_cX5_copyFrom_80 9 rfl)
theorem dX5_copyFrom_90 : decode cX5_copyFrom 90 = .ok (.getfield 46, 3) := dq_180 bk_cX5_copyFrom_80 10 rfl rfl
theorem dX5_copyFrom_93 : decode cX5_copyFrom 93 = .ok (.putfield 46, 3) := dq_181 bk_cX5_copyFrom_80 13 rfl rfl
theorem dX5_copyFrom_96 : decode cX5_copyFrom 96 = .ok (.return_, 1) := dk_177 (blk_at bk_cX5_copyFrom_80 16 rfl)
theorem bk_cX5_placeAt_0 : (cX5_placeAt.data.toList.drop 0).take 22 = [42, 27, 181, 0, 9, 42, 28, 181, 0, 15, 42, 29, 181, 0, 18, 42, 21, 4, 181, 0, 21, 177] := by decide +kernel
theorem dX5_placeAt_0 : decode cX5_placeAt 0 = .ok (.aload_n 0, 1) := dk_42 (blk_at bk_cX5_placeAt_0 0 rfl)
theorem dX5_placeAt_1 : decode cX5_placeAt 1 = .ok (.iload_n 1, 1) := dk_27 (blk_at bk_cX5_placeAt_0 1 rfl)
theorem dX5_placeAt_2 : decode cX5_placeAt 2 = .ok (.putfield 9, 3) := dq_181 bk_cX5_placeAt_0 2 rfl rfl
theorem dX5_placeAt_5 : decode cX5_placeAt 5 = .ok (.aload_n 0, 1) := dk_42 (blk_at bk_cX5_placeAt_0 5 rfl)
theorem dX5_placeAt_6 : decode cX5_placeAt 6 = .ok (.iload_n 2, 1) := dk_28 (blk_at bk_cX5_placeAt_0 6 rfl)
theorem dX5_placeAt_7 : decode cX5_placeAt 7 = .ok (.putfield 15, 3) := dq_181 bk_cX5_placeAt_0 7 rfl rfl
theorem dX5_placeAt_10 : decode cX5_placeAt 10 = .ok (.aload_n 0, 1) := dk_42 (blk_at bk_cX5_placeAt_0 10 rfl)
theorem dX5_placeAt_11 : decode cX5_placeAt 11 = .ok (.iload_n 3, 1) := dk_29 (blk_at bk_cX5_placeAt_0 11 rfl)
theorem dX5_placeAt_12 : decode cX5_placeAt 12 = .ok (.putfield 18, 3) := dq_181 bk_cX5_placeAt_0 12 rfl rfl
theorem dX5_placeAt_15 : decode cX5_placeAt 15 = .ok (.aload_n 0, 1) := dk_42 (blk_at bk_cX5_placeAt_0 15 rfl)
theorem dX5_placeAt_16 : decode cX5_placeAt 16 = .ok (.iload 4, 2) := dq_21 bk_cX5_placeAt_0 16 rfl rfl
theorem dX5_placeAt_18 : decode cX5_placeAt 18 = .ok (.putfield 21, 3) := dq_181 bk_cX5_placeAt_0 18 rfl rfl
theorem dX5_placeAt_21 : decode cX5_placeAt 21 = .ok (.return_, 1) := dk_177 (blk_at bk_cX5_placeAt_0 21 rfl)
theorem bk_cX5_comeWith_0 : (cX5_comeWith.data.toList.drop 0).take 20 = [42, 27, 181, 0, 28, 42, 28, 181, 0, 31, 42, 27, 28, 184, 0, 49, 182, 0, 53, 177] := by decide +kernel
theorem dX5_comeWith_0 : decode cX5_comeWith 0 = .ok (.aload_n 0, 1) := dk_42 (blk_at bk_cX5_comeWith_0 0 rfl)
theorem dX5_comeWith_1 : decode cX5_comeWith 1 = .ok (.iload_n 1, 1) := dk_27 (blk_at bk_cX5_comeWith_0 1 rfl)
theorem dX5_comeWith_2 : decode cX5_comeWith 2 = .ok (.putfield 28, 3) := dq_181 bk_cX5_comeWith_0 2 rfl rfl
theorem dX5_comeWith_5 : decode cX5_comeWith 5 = .ok (.aload_n 0, 1) := dk_42 (blk_at bk_cX5_comeWith_0 5 rfl)
theorem dX5_comeWith_6 : decode cX5_comeWith 6 = .ok (.iload_n 2, 1) := dk_28 (blk_at bk_cX5_comeWith_0 6 rfl)
theorem dX5_comeWith_7 : decode cX5_comeWith 7 = .ok (.putfield 31, 3) := dq_181 bk_cX5_comeWith_0 7 rfl rfl
theorem dX5_comeWith_10 : decode cX5_comeWith 10 = .ok (.aload_n 0, 1) := dk_42 (blk_at bk_cX5_comeWith_0 10 rfl)
theorem dX5_comeWith_11 : decode cX5_comeWith 11 = .ok (.iload_n 1, 1) := dk_27 (blk_at bk_cX5_comeWith_0 11 rfl)
theorem dX5_comeWith_12 : decode cX5_comeWith 12 = .ok (.iload_n 2, 1) := dk_28 (blk_at bk_cX5_comeWith_0 12 rfl)
theorem dX5_comeWith_13 : decode cX5_comeWith 13 = .ok (.invokestatic 49, 3) := dq_184 bk_cX5_comeWith_0 13 rfl rfl
theorem dX5_comeWith_16 : decode cX5_comeWith 16 = .ok (.invokevirtual 53, 3) := dq_182 bk_cX5_comeWith_0 16 rfl rfl
theorem dX5_comeWith_19 : decode cX5_comeWith 19 = .ok (.return_, 1) := dk_177 (blk_at bk_cX5_comeWith_0 19 rfl)
theorem bk_cX5_openIn_0 : (cX5_openIn.data.toList.drop 0).take 26 = [42, 27, 181, 0, 34, 42, 3, 181, 0, 37, 42, 3, 181, 0, 40, 42, 3, 181, 0, 43, 42, 3, 181, 0, 46, 177] := by decide +kernel
theorem dX5_openIn_0 : decode cX5_openIn 0 = .ok (.aload_n 0, 1) := dk_42 (blk_at bk_cX5_openIn_0 0 rfl)
theorem dX5_openIn_1 : decode cX5_openIn 1 = .ok (.iload_n 1, 1) := dk_27 (blk_at bk_cX5_openIn_0 1 rfl)
theorem dX5_openIn_2 : decode cX5_openIn 2 = .ok (.putfield 34, 3) := dq_181 bk_cX5_openIn_0 2 rfl rfl
theorem dX5_openIn_5 : decode cX5_openIn 5 = .ok (.aload_n 0, 1) := dk_42 (blk_at bk_cX5_openIn_0 5 rfl)
theorem dX5_openIn_6 : decode cX5_openIn 6 = .ok (.iconst 0, 1) := dk_3 (blk_at bk_cX5_openIn_0 6 rfl)
theorem dX5_openIn_7 : decode cX5_openIn 7 = .ok (.putfield 37, 3) := dq_181 bk_cX5_openIn_0 7 rfl rfl
theorem dX5_openIn_10 : decode cX5_openIn 10 = .ok (.aload_n 0, 1) := dk_42 (blk_at bk_cX5_openIn_0 10 rfl)
theorem dX5_openIn_11 : decode cX5_openIn 11 = .ok (.iconst 0, 1) := dk_3 (blk_at bk_cX5_openIn_0 11 rfl)
theorem dX5_openIn_12 : decode cX5_openIn 12 = .ok (.putfield 40, 3) := dq_181 bk_cX5_openIn_0 12 rfl rfl
theorem dX5_openIn_15 : decode cX5_openIn 15 = .ok (.aload_n 0, 1) := dk_42 (blk_at bk_cX5_openIn_0 15 rfl)
theorem dX5_openIn_16 : decode cX5_openIn 16 = .ok (.iconst 0, 1) := dk_3 (blk_at bk_cX5_openIn_0 16 rfl)
theorem dX5_openIn_17 : decode cX5_openIn 17 = .ok (.putfield 43, 3) := dq_181 bk_cX5_openIn_0 17 rfl rfl
theorem dX5_openIn_20 : decode cX5_openIn 20 = .ok (.aload_n 0, 1) := dk_42 (blk_at bk_cX5_openIn_0 20 rfl)
theorem dX5_openIn_21 : decode cX5_openIn 21 = .ok (.iconst 0, 1) := dk_3 (blk_at bk_cX5_openIn_0 21 rfl)
theorem dX5_openIn_22 : decode cX5_openIn 22 = .ok (.putfield 46, 3) := dq_181 bk_cX5_openIn_0 22 rfl rfl
theorem dX5_openIn_25 : decode cX5_openIn 25 = .ok (.return_, 1) := dk_177 (blk_at bk_cX5_openIn_0 25 rfl)
theorem bk_cX5_changeOver_0 : (cX5_changeOver.data.toList.drop 0).take 40 = [42, 180, 0, 15, 61, 42, 180, 0, 18, 62, 42, 180, 0, 21, 54, 4, 42, 43, 180, 0, 15, 181, 0, 15, 42, 43, 180, 0, 18, 181, 0, 18, 42, 43, 180, 0, 21, 181, 0, 21] := by decide +kernel
theorem dX5_changeOver_0 : decode cX5_changeOver 0 = .ok (.aload_n 0, 1) := dk_42 (blk_at bk_cX5_changeOver_0 0 rfl)
theorem dX5_changeOver_1 : decode cX5_changeOver 1 = .ok (.getfield 15, 3) := dq_180 bk_cX5_changeOver_0 1 rfl rfl
theorem dX5_changeOver_4 : decode cX5_changeOver 4 = .ok (.istore_n 2, 1) := dk_61 (blk_at bk_cX5_changeOver_0 4 rfl)
theorem dX5_changeOver_5 : decode cX5_changeOver 5 = .ok (.aload_n 0, 1) := dk_42 (blk_at bk_cX5_changeOver_0 5 rfl)
theorem dX5_changeOver_6 : decode cX5_changeOver 6 = .ok (.getfield 18, 3) := dq_180 bk_cX5_changeOver_0 6 rfl rfl
theorem dX5_changeOver_9 : decode cX5_changeOver 9 = .ok (.istore_n 3, 1) := dk_62 (blk_at bk_cX5_changeOver_0 9 rfl)
theorem dX5_changeOver_10 : decode cX5_changeOver 10 = .ok (.aload_n 0, 1) := dk_42 (blk_at bk_cX5_changeOver_0 10 rfl)
theorem dX5_changeOver_11 : decode cX5_changeOver 11 = .ok (.getfield 21, 3) := dq_180 bk_cX5_changeOver_0 11 rfl rfl
theorem dX5_changeOver_14 : decode cX5_changeOver 14 = .ok (.istore 4, 2) := dq_54 bk_cX5_changeOver_0 14 rfl rfl
theorem dX5_changeOver_16 : decode cX5_changeOver 16 = .ok (.aload_n 0, 1) := dk_42 (blk_at bk_cX5_changeOver_0 16 rfl)
theorem dX5_changeOver_17 : decode cX5_changeOver 17 = .ok (.aload_n 1, 1) := dk_43 (blk_at bk_cX5_changeOver_0 17 rfl)
theorem dX5_changeOver_18 : decode cX5_changeOver 18 = .ok (.getfield 15, 3) := dq_180 bk_cX5_changeOver_0 18 rfl rfl
theorem dX5_changeOver_21 : decode cX5_changeOver 21 = .ok (.putfield 15, 3) := dq_181 bk_cX5_changeOver_0 21 rfl rfl
theorem dX5_changeOver_24 : decode cX5_changeOver 24 = .ok (.aload_n 0, 1) := dk_42 (blk_at bk_cX5_changeOver_0 24 rfl)
theorem dX5_changeOver_25 : decode cX5_changeOver 25 = .ok (.aload_n 1, 1) := dk_43 (blk_at bk_cX5_changeOver_0 25 rfl)
theorem dX5_changeOver_26 : decode cX5_changeOver 26 = .ok (.getfield 18, 3) := dq_180 bk_cX5_changeOver_0 26 rfl rfl
theorem dX5_changeOver_29 : decode cX5_changeOver 29 = .ok (.putfield 18, 3) := dq_181 bk_cX5_changeOver_0 29 rfl rfl
theorem dX5_changeOver_32 : decode cX5_changeOver 32 = .ok (.aload_n 0, 1) := dk_42 (blk_at bk_cX5_changeOver_0 32 rfl)
theorem dX5_changeOver_33 : decode cX5_changeOver 33 = .ok (.aload_n 1, 1) := dk_43 (blk_at bk_cX5_changeOver_0 33 rfl)
theorem dX5_changeOver_34 : decode cX5_changeOver 34 = .ok (.getfield 21, 3) := dq_180 bk_cX5_changeOver_0 34 rfl rfl
theorem dX5_changeOver_37 : decode cX5_changeOver 37 = .ok (.putfield 21, 3) := dq_181 bk_cX5_changeOver_0 37 rfl rfl
theorem bk_cX5_changeOver_40 : (cX5_changeOver.data.toList.drop 40).take 17 = [43, 28, 181, 0, 15, 43, 29, 181, 0, 18, 43, 21, 4, 181, 0, 21, 177] := by decide +kernel
theorem dX5_changeOver_40 : decode cX5_changeOver 40 = .ok (.aload_n 1, 1) := dk_43 (blk_at bk_cX5_changeOver_40 0 rfl)
theorem dX5_changeOver_41 : decode cX5_changeOver 41 = .ok (.iload_n 2, 1) := dk_28 (blk_at bk_cX5_changeOver_40 1 rfl)
theorem dX5_changeOver_42 : decode cX5_changeOver 42 = .ok (.putfield 15, 3) := dq_181 bk_cX5_changeOver_40 2 rfl rfl
theorem dX5_changeOver_45 : decode cX5_changeOver 45 = .ok (.aload_n 1, 1) := dk_43 (blk_at bk_cX5_changeOver_40 5 rfl)
theorem dX5_changeOver_46 : decode cX5_changeOver 46 = .ok (.iload_n 3, 1) := dk_29 (blk_at bk_cX5_changeOver_40 6 rfl)
theorem dX5_changeOver_47 : decode cX5_changeOver 47 = .ok (.putfield 18, 3) := dq_181 bk_cX5_changeOver_40 7 rfl rfl
theorem dX5_changeOver_50 : decode cX5_changeOver 50 = .ok (.aload_n 1, 1) := dk_43 (blk_at bk_cX5_changeOver_40 10 rfl)
theorem dX5_changeOver_51 : decode cX5_changeOver 51 = .ok (.iload 4, 2) := dq_21 bk_cX5_changeOver_40 11 rfl rfl
theorem dX5_changeOver_53 : decode cX5_changeOver 53 = .ok (.putfield 21, 3) := dq_181 bk_cX5_changeOver_40 13 rfl rfl
theorem dX5_changeOver_56 : decode cX5_changeOver 56 = .ok (.return_, 1) := dk_177 (blk_at bk_cX5_changeOver_40 16 rfl)
theorem bk_cX5_openBits_0 : (cX5_openBits.data.toList.drop 0).take 27 = [42, 180, 0, 34, 42, 180, 0, 37, 42, 180, 0, 40, 128, 42, 180, 0, 43, 128, 42, 180, 0, 46, 128, 2, 130, 126, 172] := by decide +kernel
theorem dX5_openBits_0 : decode cX5_openBits 0 = .ok (.aload_n 0, 1) := dk_42 (blk_at bk_cX5_openBits_0 0 rfl)
theorem dX5_openBits_1 : decode cX5_openBits 1 = .ok (.getfield 34, 3) := dq_180 bk_cX5_openBits_0 1 rfl rfl
theorem dX5_openBits_4 : decode cX5_openBits 4 = .ok (.aload_n 0, 1) := dk_42 (blk_at bk_cX5_openBits_0 4 rfl)
theorem dX5_openBits_5 : decode cX5_openBits 5 = .ok (.getfield 37, 3) := dq_180 bk_cX5_openBits_0 5 rfl rfl
theorem dX5_openBits_8 : decode cX5_openBits 8 = .ok (.aload_n 0, 1) := dk_42 (blk_at bk_cX5_openBits_0 8 rfl)
theorem dX5_openBits_9 : decode cX5_openBits 9 = .ok (.getfield 40, 3) := dq_180 bk_cX5_openBits_0 9 rfl rfl
theorem dX5_openBits_12 : decode cX5_openBits 12 = .ok (.ior, 1) := dk_128 (blk_at bk_cX5_openBits_0 12 rfl)
theorem dX5_openBits_13 : decode cX5_openBits 13 = .ok (.aload_n 0, 1) := dk_42 (blk_at bk_cX5_openBits_0 13 rfl)
theorem dX5_openBits_14 : decode cX5_openBits 14 = .ok (.getfield 43, 3) := dq_180 bk_cX5_openBits_0 14 rfl rfl
theorem dX5_openBits_17 : decode cX5_openBits 17 = .ok (.ior, 1) := dk_128 (blk_at bk_cX5_openBits_0 17 rfl)
theorem dX5_openBits_18 : decode cX5_openBits 18 = .ok (.aload_n 0, 1) := dk_42 (blk_at bk_cX5_openBits_0 18 rfl)
theorem dX5_openBits_19 : decode cX5_openBits 19 = .ok (.getfield 46, 3) := dq_180 bk_cX5_openBits_0 19 rfl rfl
theorem dX5_openBits_22 : decode cX5_openBits 22 = .ok (.ior, 1) := dk_128 (blk_at bk_cX5_openBits_0 22 rfl)
theorem dX5_openBits_23 : decode cX5_openBits 23 = .ok (.iconst (-1), 1) := dk_2 (blk_at bk_cX5_openBits_0 23 rfl)
theorem dX5_openBits_24 : decode cX5_openBits 24 = .ok (.ixor, 1) := dk_130 (blk_at bk_cX5_openBits_0 24 rfl)
theorem dX5_openBits_25 : decode cX5_openBits 25 = .ok (.iand, 1) := dk_126 (blk_at bk_cX5_openBits_0 25 rfl)
theorem dX5_openBits_26 : decode cX5_openBits 26 = .ok (.ireturn, 1) := dk_172 (blk_at bk_cX5_openBits_0 26 rfl)
theorem bk_cX5_heldBits_0 : (cX5_heldBits.data.toList.drop 0).take 12 = [42, 180, 0, 34, 42, 180, 0, 46, 2, 130, 126, 172] := by decide +kernel
theorem dX5_heldBits_0 : decode cX5_heldBits 0 = .ok (.aload_n 0, 1) := dk_42 (blk_at bk_cX5_heldBits_0 0 rfl)
theorem dX5_heldBits_1 : decode cX5_heldBits 1 = .ok (.getfield 34, 3) := dq_180 bk_cX5_heldBits_0 1 rfl rfl
theorem dX5_heldBits_4 : decode cX5_heldBits 4 = .ok (.aload_n 0, 1) := dk_42 (blk_at bk_cX5_heldBits_0 4 rfl)
theorem dX5_heldBits_5 : decode cX5_heldBits 5 = .ok (.getfield 46, 3) := dq_180 bk_cX5_heldBits_0 5 rfl rfl
theorem dX5_heldBits_8 : decode cX5_heldBits 8 = .ok (.iconst (-1), 1) := dk_2 (blk_at bk_cX5_heldBits_0 8 rfl)
theorem dX5_heldBits_9 : decode cX5_heldBits 9 = .ok (.ixor, 1) := dk_130 (blk_at bk_cX5_heldBits_0 9 rfl)
theorem dX5_heldBits_10 : decode cX5_heldBits 10 = .ok (.iand, 1) := dk_126 (blk_at bk_cX5_heldBits_0 10 rfl)
theorem dX5_heldBits_11 : decode cX5_heldBits 11 = .ok (.ireturn, 1) := dk_172 (blk_at bk_cX5_heldBits_0 11 rfl)
theorem dX5_bitsThatAre_1 : decode cX5_bitsThatAre 1 = .ok (.tableswitch 51 1 4 #[31, 36, 41, 46], 31) := by decide +kernel
theorem bk_cX5_bitsThatAre_0 : (cX5_bitsThatAre.data.toList.drop 0).take 38 = [27, 170, 0, 0, 0, 0, 0, 51, 0, 0, 0, 1, 0, 0, 0, 4, 0, 0, 0, 31, 0, 0, 0, 36, 0, 0, 0, 41, 0, 0, 0, 46, 42, 180, 0, 37, 172, 42] := by decide +kernel
theorem dX5_bitsThatAre_0 : decode cX5_bitsThatAre 0 = .ok (.iload_n 1, 1) := dk_27 (blk_at bk_cX5_bitsThatAre_0 0 rfl)
theorem dX5_bitsThatAre_32 : decode cX5_bitsThatAre 32 = .ok (.aload_n 0, 1) := dk_42 (blk_at bk_cX5_bitsThatAre_0 32 rfl)
theorem dX5_bitsThatAre_33 : decode cX5_bitsThatAre 33 = .ok (.getfield 37, 3) := dq_180 bk_cX5_bitsThatAre_0 33 rfl rfl
theorem dX5_bitsThatAre_36 : decode cX5_bitsThatAre 36 = .ok (.ireturn, 1) := dk_172 (blk_at bk_cX5_bitsThatAre_0 36 rfl)
theorem dX5_bitsThatAre_37 : decode cX5_bitsThatAre 37 = .ok (.aload_n 0, 1) := dk_42 (blk_at bk_cX5_bitsThatAre_0 37 rfl)
theorem bk_cX5_bitsThatAre_38 : (cX5_bitsThatAre.data.toList.drop 38).take 19 = [180, 0, 40, 172, 42, 180, 0, 43, 172, 42, 180, 0, 46, 172, 42, 182, 0, 57, 172] := by decide +kernel
theorem dX5_bitsThatAre_38 : decode cX5_bitsThatAre 38 = .ok (.getfield 40, 3) := dq_180 bk_cX5_bitsThatAre_38 0 rfl rfl
theorem dX5_bitsThatAre_41 : decode cX5_bitsThatAre 41 = .ok (.ireturn, 1) := dk_172 (blk_at bk_cX5_bitsThatAre_38 3 rfl)
theorem dX5_bitsThatAre_42 : decode cX5_bitsThatAre 42 = .ok (.aload_n 0, 1) := dk_42 (blk_at bk_cX5_bitsThatAre_38 4 rfl)
theorem dX5_bitsThatAre_43 : decode cX5_bitsThatAre 43 = .ok (.getfield 43, 3) := dq_180 bk_cX5_bitsThatAre_38 5 rfl rfl
theorem dX5_bitsThatAre_46 : decode cX5_bitsThatAre 46 = .ok (.ireturn, 1) := dk_172 (blk_at bk_cX5_bitsThatAre_38 8 rfl)
theorem dX5_bitsThatAre_47 : decode cX5_bitsThatAre 47 = .ok (.aload_n 0, 1) := dk_42 (blk_at bk_cX5_bitsThatAre_38 9 rfl)
theorem dX5_bitsThatAre_48 : decode cX5_bitsThatAre 48 = .ok (.getfield 46, 3) := dq_180 bk_cX5_bitsThatAre_38 10 rfl rfl
theorem dX5_bitsThatAre_51 : decode cX5_bitsThatAre 51 = .ok (.ireturn, 1) := dk_172 (blk_at bk_cX5_bitsThatAre_38 13 rfl)
theorem dX5_bitsThatAre_52 : decode cX5_bitsThatAre 52 = .ok (.aload_n 0, 1) := dk_42 (blk_at bk_cX5_bitsThatAre_38 14 rfl)
theorem dX5_bitsThatAre_53 : decode cX5_bitsThatAre 53 = .ok (.invokevirtual 57, 3) := dq_182 bk_cX5_bitsThatAre_38 15 rfl rfl
theorem dX5_bitsThatAre_56 : decode cX5_bitsThatAre 56 = .ok (.ireturn, 1) := dk_172 (blk_at bk_cX5_bitsThatAre_38 18 rfl)
theorem bk_cX5_stateOf_0 : (cX5_stateOf.data.toList.drop 0).take 29 = [3, 61, 28, 7, 163, 0, 23, 42, 28, 182, 0, 61, 27, 184, 0, 65, 153, 0, 5, 28, 172, 132, 2, 1, 167, 255, 234, 2, 172] := by decide +kernel
theorem dX5_stateOf_0 : decode cX5_stateOf 0 = .ok (.iconst 0, 1) := dk_3 (blk_at bk_cX5_stateOf_0 0 rfl)
theorem dX5_stateOf_1 : decode cX5_stateOf 1 = .ok (.istore_n 2, 1) := dk_61 (blk_at bk_cX5_stateOf_0 1 rfl)
theorem dX5_stateOf_2 : decode cX5_stateOf 2 = .ok (.iload_n 2, 1) := dk_28 (blk_at bk_cX5_stateOf_0 2 rfl)
theorem dX5_stateOf_3 : decode cX5_stateOf 3 = .ok (.iconst 4, 1) := dk_7 (blk_at bk_cX5_stateOf_0 3 rfl)
theorem dX5_stateOf_4 : decode cX5_stateOf 4 = .ok (.if_icmp .gt 23, 3) := dq_163 bk_cX5_stateOf_0 4 rfl (by decide)
theorem dX5_stateOf_7 : decode cX5_stateOf 7 = .ok (.aload_n 0, 1) := dk_42 (blk_at bk_cX5_stateOf_0 7 rfl)
theorem dX5_stateOf_8 : decode cX5_stateOf 8 = .ok (.iload_n 2, 1) := dk_28 (blk_at bk_cX5_stateOf_0 8 rfl)
theorem dX5_stateOf_9 : decode cX5_stateOf 9 = .ok (.invokevirtual 61, 3) := dq_182 bk_cX5_stateOf_0 9 rfl rfl
theorem dX5_stateOf_12 : decode cX5_stateOf 12 = .ok (.iload_n 1, 1) := dk_27 (blk_at bk_cX5_stateOf_0 12 rfl)
theorem dX5_stateOf_13 : decode cX5_stateOf 13 = .ok (.invokestatic 65, 3) := dq_184 bk_cX5_stateOf_0 13 rfl rfl
theorem dX5_stateOf_16 : decode cX5_stateOf 16 = .ok (.ifCond .eq 5, 3) := dq_153 bk_cX5_stateOf_0 16 rfl (by decide)
theorem dX5_stateOf_19 : decode cX5_stateOf 19 = .ok (.iload_n 2, 1) := dk_28 (blk_at bk_cX5_stateOf_0 19 rfl)
theorem dX5_stateOf_20 : decode cX5_stateOf 20 = .ok (.ireturn, 1) := dk_172 (blk_at bk_cX5_stateOf_0 20 rfl)
theorem dX5_stateOf_21 : decode cX5_stateOf 21 = .ok (.iinc 2 1, 3) := dq_132 bk_cX5_stateOf_0 21 rfl rfl (by decide)
theorem dX5_stateOf_24 : decode cX5_stateOf 24 = .ok (.goto (-22), 3) := dq_167 bk_cX5_stateOf_0 24 rfl (by decide)
theorem dX5_stateOf_27 : decode cX5_stateOf 27 = .ok (.iconst (-1), 1) := dk_2 (blk_at bk_cX5_stateOf_0 27 rfl)
theorem dX5_stateOf_28 : decode cX5_stateOf 28 = .ok (.ireturn, 1) := dk_172 (blk_at bk_cX5_stateOf_0 28 rfl)
theorem bk_cX5_holds_0 : (cX5_holds.data.toList.drop 0).take 9 = [42, 182, 0, 69, 27, 184, 0, 65, 172] := by decide +kernel
theorem dX5_holds_0 : decode cX5_holds 0 = .ok (.aload_n 0, 1) := dk_42 (blk_at bk_cX5_holds_0 0 rfl)
theorem dX5_holds_1 : decode cX5_holds 1 = .ok (.invokevirtual 69, 3) := dq_182 bk_cX5_holds_0 1 rfl rfl
theorem dX5_holds_4 : decode cX5_holds 4 = .ok (.iload_n 1, 1) := dk_27 (blk_at bk_cX5_holds_0 4 rfl)
theorem dX5_holds_5 : decode cX5_holds 5 = .ok (.invokestatic 65, 3) := dq_184 bk_cX5_holds_0 5 rfl rfl
theorem dX5_holds_8 : decode cX5_holds 8 = .ok (.ireturn, 1) := dk_172 (blk_at bk_cX5_holds_0 8 rfl)
theorem bk_cX5_fills_0 : (cX5_fills.data.toList.drop 0).take 30 = [42, 180, 0, 15, 28, 160, 0, 23, 42, 180, 0, 18, 29, 160, 0, 15, 42, 27, 182, 0, 72, 153, 0, 7, 4, 167, 0, 4, 3, 172] := by decide +kernel
theorem dX5_fills_0 : decode cX5_fills 0 = .ok (.aload_n 0, 1) := dk_42 (blk_at bk_cX5_fills_0 0 rfl)
theorem dX5_fills_1 : decode cX5_fills 1 = .ok (.getfield 15, 3) := dq_180 bk_cX5_fills_0 1 rfl rfl
theorem dX5_fills_4 : decode cX5_fills 4 = .ok (.iload_n 2, 1) := dk_28 (blk_at bk_cX5_fills_0 4 rfl)
theorem dX5_fills_5 : decode cX5_fills 5 = .ok (.if_icmp .ne 23, 3) := dq_160 bk_cX5_fills_0 5 rfl (by decide)
theorem dX5_fills_8 : decode cX5_fills 8 = .ok (.aload_n 0, 1) := dk_42 (blk_at bk_cX5_fills_0 8 rfl)
theorem dX5_fills_9 : decode cX5_fills 9 = .ok (.getfield 18, 3) := dq_180 bk_cX5_fills_0 9 rfl rfl
theorem dX5_fills_12 : decode cX5_fills 12 = .ok (.iload_n 3, 1) := dk_29 (blk_at bk_cX5_fills_0 12 rfl)
theorem dX5_fills_13 : decode cX5_fills 13 = .ok (.if_icmp .ne 15, 3) := dq_160 bk_cX5_fills_0 13 rfl (by decide)
theorem dX5_fills_16 : decode cX5_fills 16 = .ok (.aload_n 0, 1) := dk_42 (blk_at bk_cX5_fills_0 16 rfl)
theorem dX5_fills_17 : decode cX5_fills 17 = .ok (.iload_n 1, 1) := dk_27 (blk_at bk_cX5_fills_0 17 rfl)
theorem dX5_fills_18 : decode cX5_fills 18 = .ok (.invokevirtual 72, 3) := dq_182 bk_cX5_fills_0 18 rfl rfl
theorem dX5_fills_21 : decode cX5_fills 21 = .ok (.ifCond .eq 7, 3) := dq_153 bk_cX5_fills_0 21 rfl (by decide)
theorem dX5_fills_24 : decode cX5_fills 24 = .ok (.iconst 1, 1) := dk_4 (blk_at bk_cX5_fills_0 24 rfl)
theorem dX5_fills_25 : decode cX5_fills 25 = .ok (.goto 4, 3) := dq_167 bk_cX5_fills_0 25 rfl (by decide)
theorem dX5_fills_28 : decode cX5_fills 28 = .ok (.iconst 0, 1) := dk_3 (blk_at bk_cX5_fills_0 28 rfl)
theorem dX5_fills_29 : decode cX5_fills 29 = .ok (.ireturn, 1) := dk_172 (blk_at bk_cX5_fills_0 29 rfl)
theorem bk_cX5_isOf_0 : (cX5_isOf.data.toList.drop 0).take 27 = [42, 180, 0, 9, 27, 160, 0, 20, 28, 2, 159, 0, 11, 42, 180, 0, 15, 28, 160, 0, 7, 4, 167, 0, 4, 3, 172] := by decide +kernel
theorem dX5_isOf_0 : decode cX5_isOf 0 = .ok (.aload_n 0, 1) := dk_42 (blk_at bk_cX5_isOf_0 0 rfl)
theorem dX5_isOf_1 : decode cX5_isOf 1 = .ok (.getfield 9, 3) := dq_180 bk_cX5_isOf_0 1 rfl rfl
theorem dX5_isOf_4 : decode cX5_isOf 4 = .ok (.iload_n 1, 1) := dk_27 (blk_at bk_cX5_isOf_0 4 rfl)
theorem dX5_isOf_5 : decode cX5_isOf 5 = .ok (.if_icmp .ne 20, 3) := dq_160 bk_cX5_isOf_0 5 rfl (by decide)
theorem dX5_isOf_8 : decode cX5_isOf 8 = .ok (.iload_n 2, 1) := dk_28 (blk_at bk_cX5_isOf_0 8 rfl)
theorem dX5_isOf_9 : decode cX5_isOf 9 = .ok (.iconst (-1), 1) := dk_2 (blk_at bk_cX5_isOf_0 9 rfl)
theorem dX5_isOf_10 : decode cX5_isOf 10 = .ok (.if_icmp .eq 11, 3) := dq_159 bk_cX5_isOf_0 10 rfl (by decide)
theorem dX5_isOf_13 : decode cX5_isOf 13 = .ok (.aload_n 0, 1) := dk_42 (blk_at bk_cX5_isOf_0 13 rfl)
theorem dX5_isOf_14 : decode cX5_isOf 14 = .ok (.getfield 15, 3) := dq_180 bk_cX5_isOf_0 14 rfl rfl
theorem dX5_isOf_17 : decode cX5_isOf 17 = .ok (.iload_n 2, 1) := dk_28 (blk_at bk_cX5_isOf_0 17 rfl)
theorem dX5_isOf_18 : decode cX5_isOf 18 = .ok (.if_icmp .ne 7, 3) := dq_160 bk_cX5_isOf_0 18 rfl (by decide)
theorem dX5_isOf_21 : decode cX5_isOf 21 = .ok (.iconst 1, 1) := dk_4 (blk_at bk_cX5_isOf_0 21 rfl)
theorem dX5_isOf_22 : decode cX5_isOf 22 = .ok (.goto 4, 3) := dq_167 bk_cX5_isOf_0 22 rfl (by decide)
theorem dX5_isOf_25 : decode cX5_isOf 25 = .ok (.iconst 0, 1) := dk_3 (blk_at bk_cX5_isOf_0 25 rfl)
theorem dX5_isOf_26 : decode cX5_isOf 26 = .ok (.ireturn, 1) := dk_172 (blk_at bk_cX5_isOf_0 26 rfl)
theorem bk_cX5_basis_0 : (cX5_basis.data.toList.drop 0).take 8 = [42, 182, 0, 69, 184, 0, 76, 172] := by decide +kernel
theorem dX5_basis_0 : decode cX5_basis 0 = .ok (.aload_n 0, 1) := dk_42 (blk_at bk_cX5_basis_0 0 rfl)
theorem dX5_basis_1 : decode cX5_basis 1 = .ok (.invokevirtual 69, 3) := dq_182 bk_cX5_basis_0 1 rfl rfl
theorem dX5_basis_4 : decode cX5_basis 4 = .ok (.invokestatic 76, 3) := dq_184 bk_cX5_basis_0 4 rfl rfl
theorem dX5_basis_7 : decode cX5_basis 7 = .ok (.ireturn, 1) := dk_172 (blk_at bk_cX5_basis_0 7 rfl)
theorem bk_cX5_good_0 : (cX5_good.data.toList.drop 0).take 13 = [42, 180, 0, 37, 42, 180, 0, 43, 128, 184, 0, 76, 172] := by decide +kernel
theorem dX5_good_0 : decode cX5_good 0 = .ok (.aload_n 0, 1) := dk_42 (blk_at bk_cX5_good_0 0 rfl)
theorem dX5_good_1 : decode cX5_good 1 = .ok (.getfield 37, 3) := dq_180 bk_cX5_good_0 1 rfl rfl
theorem dX5_good_4 : decode cX5_good 4 = .ok (.aload_n 0, 1) := dk_42 (blk_at bk_cX5_good_0 4 rfl)
theorem dX5_good_5 : decode cX5_good 5 = .ok (.getfield 43, 3) := dq_180 bk_cX5_good_0 5 rfl rfl
theorem dX5_good_8 : decode cX5_good 8 = .ok (.ior, 1) := dk_128 (blk_at bk_cX5_good_0 8 rfl)
theorem dX5_good_9 : decode cX5_good 9 = .ok (.invokestatic 76, 3) := dq_184 bk_cX5_good_0 9 rfl rfl
theorem dX5_good_12 : decode cX5_good 12 = .ok (.ireturn, 1) := dk_172 (blk_at bk_cX5_good_0 12 rfl)
theorem bk_cX5_isKeptWith_0 : (cX5_isKeptWith.data.toList.drop 0).take 24 = [42, 182, 0, 81, 61, 28, 158, 0, 16, 8, 27, 104, 7, 28, 104, 161, 0, 7, 4, 167, 0, 4, 3, 172] := by decide +kernel
theorem dX5_isKeptWith_0 : decode cX5_isKeptWith 0 = .ok (.aload_n 0, 1) := dk_42 (blk_at bk_cX5_isKeptWith_0 0 rfl)
theorem dX5_isKeptWith_1 : decode cX5_isKeptWith 1 = .ok (.invokevirtual 81, 3) := dq_182 bk_cX5_isKeptWith_0 1 rfl rfl
theorem dX5_isKeptWith_4 : decode cX5_isKeptWith 4 = .ok (.istore_n 2, 1) := dk_61 (blk_at bk_cX5_isKeptWith_0 4 rfl)
theorem dX5_isKeptWith_5 : decode cX5_isKeptWith 5 = .ok (.iload_n 2, 1) := dk_28 (blk_at bk_cX5_isKeptWith_0 5 rfl)
theorem dX5_isKeptWith_6 : decode cX5_isKeptWith 6 = .ok (.ifCond .le 16, 3) := dq_158 bk_cX5_isKeptWith_0 6 rfl (by decide)
theorem dX5_isKeptWith_9 : decode cX5_isKeptWith 9 = .ok (.iconst 5, 1) := dk_8 (blk_at bk_cX5_isKeptWith_0 9 rfl)
theorem dX5_isKeptWith_10 : decode cX5_isKeptWith 10 = .ok (.iload_n 1, 1) := dk_27 (blk_at bk_cX5_isKeptWith_0 10 rfl)
theorem dX5_isKeptWith_11 : decode cX5_isKeptWith 11 = .ok (.imul, 1) := dk_104 (blk_at bk_cX5_isKeptWith_0 11 rfl)
theorem dX5_isKeptWith_12 : decode cX5_isKeptWith 12 = .ok (.iconst 4, 1) := dk_7 (blk_at bk_cX5_isKeptWith_0 12 rfl)
theorem dX5_isKeptWith_13 : decode cX5_isKeptWith 13 = .ok (.iload_n 2, 1) := dk_28 (blk_at bk_cX5_isKeptWith_0 13 rfl)
theorem dX5_isKeptWith_14 : decode cX5_isKeptWith 14 = .ok (.imul, 1) := dk_104 (blk_at bk_cX5_isKeptWith_0 14 rfl)
theorem dX5_isKeptWith_15 : decode cX5_isKeptWith 15 = .ok (.if_icmp .lt 7, 3) := dq_161 bk_cX5_isKeptWith_0 15 rfl (by decide)
theorem dX5_isKeptWith_18 : decode cX5_isKeptWith 18 = .ok (.iconst 1, 1) := dk_4 (blk_at bk_cX5_isKeptWith_0 18 rfl)
theorem dX5_isKeptWith_19 : decode cX5_isKeptWith 19 = .ok (.goto 4, 3) := dq_167 bk_cX5_isKeptWith_0 19 rfl (by decide)
theorem dX5_isKeptWith_22 : decode cX5_isKeptWith 22 = .ok (.iconst 0, 1) := dk_3 (blk_at bk_cX5_isKeptWith_0 22 rfl)
theorem dX5_isKeptWith_23 : decode cX5_isKeptWith 23 = .ok (.ireturn, 1) := dk_172 (blk_at bk_cX5_isKeptWith_0 23 rfl)
theorem bk_cX5_isSafe_0 : (cX5_isSafe.data.toList.drop 0).take 9 = [42, 42, 182, 0, 84, 182, 0, 87, 172] := by decide +kernel
theorem dX5_isSafe_0 : decode cX5_isSafe 0 = .ok (.aload_n 0, 1) := dk_42 (blk_at bk_cX5_isSafe_0 0 rfl)
theorem dX5_isSafe_1 : decode cX5_isSafe 1 = .ok (.aload_n 0, 1) := dk_42 (blk_at bk_cX5_isSafe_0 1 rfl)
theorem dX5_isSafe_2 : decode cX5_isSafe 2 = .ok (.invokevirtual 84, 3) := dq_182 bk_cX5_isSafe_0 2 rfl rfl
theorem dX5_isSafe_5 : decode cX5_isSafe 5 = .ok (.invokevirtual 87, 3) := dq_182 bk_cX5_isSafe_0 5 rfl rfl
theorem dX5_isSafe_8 : decode cX5_isSafe 8 = .ok (.ireturn, 1) := dk_172 (blk_at bk_cX5_isSafe_0 8 rfl)
theorem bk_cX5_isLost_0 : (cX5_isLost.data.toList.drop 0).take 25 = [42, 42, 182, 0, 84, 42, 182, 0, 57, 184, 0, 76, 96, 182, 0, 87, 154, 0, 7, 4, 167, 0, 4, 3, 172] := by decide +kernel
theorem dX5_isLost_0 : decode cX5_isLost 0 = .ok (.aload_n 0, 1) := dk_42 (blk_at bk_cX5_isLost_0 0 rfl)
theorem dX5_isLost_1 : decode cX5_isLost 1 = .ok (.aload_n 0, 1) := dk_42 (blk_at bk_cX5_isLost_0 1 rfl)
theorem dX5_isLost_2 : decode cX5_isLost 2 = .ok (.invokevirtual 84, 3) := dq_182 bk_cX5_isLost_0 2 rfl rfl
theorem dX5_isLost_5 : decode cX5_isLost 5 = .ok (.aload_n 0, 1) := dk_42 (blk_at bk_cX5_isLost_0 5 rfl)
theorem dX5_isLost_6 : decode cX5_isLost 6 = .ok (.invokevirtual 57, 3) := dq_182 bk_cX5_isLost_0 6 rfl rfl
theorem dX5_isLost_9 : decode cX5_isLost 9 = .ok (.invokestatic 76, 3) := dq_184 bk_cX5_isLost_0 9 rfl rfl
theorem dX5_isLost_12 : decode cX5_isLost 12 = .ok (.iadd, 1) := dk_96 (blk_at bk_cX5_isLost_0 12 rfl)
theorem dX5_isLost_13 : decode cX5_isLost 13 = .ok (.invokevirtual 87, 3) := dq_182 bk_cX5_isLost_0 13 rfl rfl
theorem dX5_isLost_16 : decode cX5_isLost 16 = .ok (.ifCond .ne 7, 3) := dq_154 bk_cX5_isLost_0 16 rfl (by decide)
theorem dX5_isLost_19 : decode cX5_isLost 19 = .ok (.iconst 1, 1) := dk_4 (blk_at bk_cX5_isLost_0 19 rfl)
theorem dX5_isLost_20 : decode cX5_isLost 20 = .ok (.goto 4, 3) := dq_167 bk_cX5_isLost_0 20 rfl (by decide)
theorem dX5_isLost_23 : decode cX5_isLost 23 = .ok (.iconst 0, 1) := dk_3 (blk_at bk_cX5_isLost_0 23 rfl)
theorem dX5_isLost_24 : decode cX5_isLost 24 = .ok (.ireturn, 1) := dk_172 (blk_at bk_cX5_isLost_0 24 rfl)
theorem bk_cX5_missesLeft_0 : (cX5_missesLeft.data.toList.drop 0).take 40 = [42, 182, 0, 90, 153, 0, 5, 2, 172, 42, 182, 0, 57, 184, 0, 76, 60, 7, 42, 182, 0, 81, 104, 7, 96, 8, 108, 61, 27, 42, 182, 0, 84, 27, 96, 28, 100, 184, 0, 94] := by decide +kernel
theorem dX5_missesLeft_0 : decode cX5_missesLeft 0 = .ok (.aload_n 0, 1) := dk_42 (blk_at bk_cX5_missesLeft_0 0 rfl)
theorem dX5_missesLeft_1 : decode cX5_missesLeft 1 = .ok (.invokevirtual 90, 3) := dq_182 bk_cX5_missesLeft_0 1 rfl rfl
theorem dX5_missesLeft_4 : decode cX5_missesLeft 4 = .ok (.ifCond .eq 5, 3) := dq_153 bk_cX5_missesLeft_0 4 rfl (by decide)
theorem dX5_missesLeft_7 : decode cX5_missesLeft 7 = .ok (.iconst (-1), 1) := dk_2 (blk_at bk_cX5_missesLeft_0 7 rfl)
theorem dX5_missesLeft_8 : decode cX5_missesLeft 8 = .ok (.ireturn, 1) := dk_172 (blk_at bk_cX5_missesLeft_0 8 rfl)
theorem dX5_missesLeft_9 : decode cX5_missesLeft 9 = .ok (.aload_n 0, 1) := dk_42 (blk_at bk_cX5_missesLeft_0 9 rfl)
theorem dX5_missesLeft_10 : decode cX5_missesLeft 10 = .ok (.invokevirtual 57, 3) := dq_182 bk_cX5_missesLeft_0 10 rfl rfl
theorem dX5_missesLeft_13 : decode cX5_missesLeft 13 = .ok (.invokestatic 76, 3) := dq_184 bk_cX5_missesLeft_0 13 rfl rfl
theorem dX5_missesLeft_16 : decode cX5_missesLeft 16 = .ok (.istore_n 1, 1) := dk_60 (blk_at bk_cX5_missesLeft_0 16 rfl)
theorem dX5_missesLeft_17 : decode cX5_missesLeft 17 = .ok (.iconst 4, 1) := dk_7 (blk_at bk_cX5_missesLeft_0 17 rfl)
theorem dX5_missesLeft_18 : decode cX5_missesLeft 18 = .ok (.aload_n 0, 1) := dk_42 (blk_at bk_cX5_missesLeft_0 18 rfl)
theorem dX5_missesLeft_19 : decode cX5_missesLeft 19 = .ok (.invokevirtual 81, 3) := dq_182 bk_cX5_missesLeft_0 19 rfl rfl
theorem dX5_missesLeft_22 : decode cX5_missesLeft 22 = .ok (.imul, 1) := dk_104 (blk_at bk_cX5_missesLeft_0 22 rfl)
theorem dX5_missesLeft_23 : decode cX5_missesLeft 23 = .ok (.iconst 4, 1) := dk_7 (blk_at bk_cX5_missesLeft_0 23 rfl)
theorem dX5_missesLeft_24 : decode cX5_missesLeft 24 = .ok (.iadd, 1) := dk_96 (blk_at bk_cX5_missesLeft_0 24 rfl)
theorem dX5_missesLeft_25 : decode cX5_missesLeft 25 = .ok (.iconst 5, 1) := dk_8 (blk_at bk_cX5_missesLeft_0 25 rfl)
theorem dX5_missesLeft_26 : decode cX5_missesLeft 26 = .ok (.idiv, 1) := dk_108 (blk_at bk_cX5_missesLeft_0 26 rfl)
theorem dX5_missesLeft_27 : decode cX5_missesLeft 27 = .ok (.istore_n 2, 1) := dk_61 (blk_at bk_cX5_missesLeft_0 27 rfl)
theorem dX5_missesLeft_28 : decode cX5_missesLeft 28 = .ok (.iload_n 1, 1) := dk_27 (blk_at bk_cX5_missesLeft_0 28 rfl)
theorem dX5_missesLeft_29 : decode cX5_missesLeft 29 = .ok (.aload_n 0, 1) := dk_42 (blk_at bk_cX5_missesLeft_0 29 rfl)
theorem dX5_missesLeft_30 : decode cX5_missesLeft 30 = .ok (.invokevirtual 84, 3) := dq_182 bk_cX5_missesLeft_0 30 rfl rfl
theorem dX5_missesLeft_33 : decode cX5_missesLeft 33 = .ok (.iload_n 1, 1) := dk_27 (blk_at bk_cX5_missesLeft_0 33 rfl)
theorem dX5_missesLeft_34 : decode cX5_missesLeft 34 = .ok (.iadd, 1) := dk_96 (blk_at bk_cX5_missesLeft_0 34 rfl)
theorem dX5_missesLeft_35 : decode cX5_missesLeft 35 = .ok (.iload_n 2, 1) := dk_28 (blk_at bk_cX5_missesLeft_0 35 rfl)
theorem dX5_missesLeft_36 : decode cX5_missesLeft 36 = .ok (.isub, 1) := dk_100 (blk_at bk_cX5_missesLeft_0 36 rfl)
theorem dX5_missesLeft_37 : decode cX5_missesLeft 37 = .ok (.invokestatic 94, 3) := dq_184 bk_cX5_missesLeft_0 37 rfl rfl
theorem bk_cX5_missesLeft_40 : (cX5_missesLeft.data.toList.drop 40).take 1 = [172] := by decide +kernel
theorem dX5_missesLeft_40 : decode cX5_missesLeft 40 = .ok (.ireturn, 1) := dk_172 (blk_at bk_cX5_missesLeft_40 0 rfl)
theorem dX6_init_8 : decode cX6_init 8 = .ok (.newarray .byte, 2) := by decide +kernel
theorem bk_cX6_init_0 : (cX6_init.data.toList.drop 0).take 19 = [42, 183, 0, 3, 42, 17, 9, 96, 188, 8, 181, 0, 9, 42, 3, 181, 0, 15, 177] := by decide +kernel
theorem dX6_init_0 : decode cX6_init 0 = .ok (.aload_n 0, 1) := dk_42 (blk_at bk_cX6_init_0 0 rfl)
theorem dX6_init_1 : decode cX6_init 1 = .ok (.invokespecial 3, 3) := dq_183 bk_cX6_init_0 1 rfl rfl
theorem dX6_init_4 : decode cX6_init 4 = .ok (.aload_n 0, 1) := dk_42 (blk_at bk_cX6_init_0 4 rfl)
theorem dX6_init_5 : decode cX6_init 5 = .ok (.sipush 2400, 3) := dq_17 bk_cX6_init_0 5 rfl (by decide)
theorem dX6_init_10 : decode cX6_init 10 = .ok (.putfield 9, 3) := dq_181 bk_cX6_init_0 10 rfl rfl
theorem dX6_init_13 : decode cX6_init 13 = .ok (.aload_n 0, 1) := dk_42 (blk_at bk_cX6_init_0 13 rfl)
theorem dX6_init_14 : decode cX6_init 14 = .ok (.iconst 0, 1) := dk_3 (blk_at bk_cX6_init_0 14 rfl)
theorem dX6_init_15 : decode cX6_init 15 = .ok (.putfield 15, 3) := dq_181 bk_cX6_init_0 15 rfl rfl
theorem dX6_init_18 : decode cX6_init 18 = .ok (.return_, 1) := dk_177 (blk_at bk_cX6_init_0 18 rfl)
theorem bk_cX6_write_0 : (cX6_write.data.toList.drop 0).take 40 = [42, 3, 181, 0, 15, 42, 18, 19, 182, 0, 21, 42, 43, 180, 0, 25, 182, 0, 28, 42, 16, 59, 182, 0, 32, 3, 62, 29, 16, 24, 162, 0, 46, 43, 180, 0, 36, 29, 46, 7] := by decide +kernel
theorem dX6_write_0 : decode cX6_write 0 = .ok (.aload_n 0, 1) := dk_42 (blk_at bk_cX6_write_0 0 rfl)
theorem dX6_write_1 : decode cX6_write 1 = .ok (.iconst 0, 1) := dk_3 (blk_at bk_cX6_write_0 1 rfl)
theorem dX6_write_2 : decode cX6_write 2 = .ok (.putfield 15, 3) := dq_181 bk_cX6_write_0 2 rfl rfl
theorem dX6_write_5 : decode cX6_write 5 = .ok (.aload_n 0, 1) := dk_42 (blk_at bk_cX6_write_0 5 rfl)
theorem dX6_write_6 : decode cX6_write 6 = .ok (.ldc 19, 2) := dq_18 bk_cX6_write_0 6 rfl rfl
theorem dX6_write_8 : decode cX6_write 8 = .ok (.invokevirtual 21, 3) := dq_182 bk_cX6_write_0 8 rfl rfl
theorem dX6_write_11 : decode cX6_write 11 = .ok (.aload_n 0, 1) := dk_42 (blk_at bk_cX6_write_0 11 rfl)
theorem dX6_write_12 : decode cX6_write 12 = .ok (.aload_n 1, 1) := dk_43 (blk_at bk_cX6_write_0 12 rfl)
theorem dX6_write_13 : decode cX6_write 13 = .ok (.getfield 25, 3) := dq_180 bk_cX6_write_0 13 rfl rfl
theorem dX6_write_16 : decode cX6_write 16 = .ok (.invokevirtual 28, 3) := dq_182 bk_cX6_write_0 16 rfl rfl
theorem dX6_write_19 : decode cX6_write 19 = .ok (.aload_n 0, 1) := dk_42 (blk_at bk_cX6_write_0 19 rfl)
theorem dX6_write_20 : decode cX6_write 20 = .ok (.bipush 59, 2) := dq_16 bk_cX6_write_0 20 rfl (by decide)
theorem dX6_write_22 : decode cX6_write 22 = .ok (.invokevirtual 32, 3) := dq_182 bk_cX6_write_0 22 rfl rfl
theorem dX6_write_25 : decode cX6_write 25 = .ok (.iconst 0, 1) := dk_3 (blk_at bk_cX6_write_0 25 rfl)
theorem dX6_write_26 : decode cX6_write 26 = .ok (.istore_n 3, 1) := dk_62 (blk_at bk_cX6_write_0 26 rfl)
theorem dX6_write_27 : decode cX6_write 27 = .ok (.iload_n 3, 1) := dk_29 (blk_at bk_cX6_write_0 27 rfl)
theorem dX6_write_28 : decode cX6_write 28 = .ok (.bipush 24, 2) := dq_16 bk_cX6_write_0 28 rfl (by decide)
theorem dX6_write_30 : decode cX6_write 30 = .ok (.if_icmp .ge 46, 3) := dq_162 bk_cX6_write_0 30 rfl (by decide)
theorem dX6_write_33 : decode cX6_write 33 = .ok (.aload_n 1, 1) := dk_43 (blk_at bk_cX6_write_0 33 rfl)
theorem dX6_write_34 : decode cX6_write 34 = .ok (.getfield 36, 3) := dq_180 bk_cX6_write_0 34 rfl rfl
theorem dX6_write_37 : decode cX6_write 37 = .ok (.iload_n 3, 1) := dk_29 (blk_at bk_cX6_write_0 37 rfl)
theorem dX6_write_38 : decode cX6_write 38 = .ok (.iaload, 1) := dk_46 (blk_at bk_cX6_write_0 38 rfl)
theorem dX6_write_39 : decode cX6_write 39 = .ok (.iconst 4, 1) := dk_7 (blk_at bk_cX6_write_0 39 rfl)
theorem bk_cX6_write_40 : (cX6_write.data.toList.drop 40).take 40 = [160, 0, 13, 43, 180, 0, 40, 29, 46, 7, 159, 0, 20, 42, 29, 43, 180, 0, 36, 29, 46, 43, 180, 0, 40, 29, 46, 182, 0, 43, 132, 3, 1, 167, 255, 210, 3, 62, 29, 44] := by decide +kernel
theorem dX6_write_40 : decode cX6_write 40 = .ok (.if_icmp .ne 13, 3) := dq_160 bk_cX6_write_40 0 rfl (by decide)
theorem dX6_write_43 : decode cX6_write 43 = .ok (.aload_n 1, 1) := dk_43 (blk_at bk_cX6_write_40 3 rfl)
theorem dX6_write_44 : decode cX6_write 44 = .ok (.getfield 40, 3) := dq_180 bk_cX6_write_40 4 rfl rfl
theorem dX6_write_47 : decode cX6_write 47 = .ok (.iload_n 3, 1) := dk_29 (blk_at bk_cX6_write_40 7 rfl)
theorem dX6_write_48 : decode cX6_write 48 = .ok (.iaload, 1) := dk_46 (blk_at bk_cX6_write_40 8 rfl)
theorem dX6_write_49 : decode cX6_write 49 = .ok (.iconst 4, 1) := dk_7 (blk_at bk_cX6_write_40 9 rfl)
theorem dX6_write_50 : decode cX6_write 50 = .ok (.if_icmp .eq 20, 3) := dq_159 bk_cX6_write_40 10 rfl (by decide)
theorem dX6_write_53 : decode cX6_write 53 = .ok (.aload_n 0, 1) := dk_42 (blk_at bk_cX6_write_40 13 rfl)
theorem dX6_write_54 : decode cX6_write 54 = .ok (.iload_n 3, 1) := dk_29 (blk_at bk_cX6_write_40 14 rfl)
theorem dX6_write_55 : decode cX6_write 55 = .ok (.aload_n 1, 1) := dk_43 (blk_at bk_cX6_write_40 15 rfl)
theorem dX6_write_56 : decode cX6_write 56 = .ok (.getfield 36, 3) := dq_180 bk_cX6_write_40 16 rfl rfl
theorem dX6_write_59 : decode cX6_write 59 = .ok (.iload_n 3, 1) := dk_29 (blk_at bk_cX6_write_40 19 rfl)
theorem dX6_write_60 : decode cX6_write 60 = .ok (.iaload, 1) := dk_46 (blk_at bk_cX6_write_40 20 rfl)
theorem dX6_write_61 : decode cX6_write 61 = .ok (.aload_n 1, 1) := dk_43 (blk_at bk_cX6_write_40 21 rfl)
theorem dX6_write_62 : decode cX6_write 62 = .ok (.getfield 40, 3) := dq_180 bk_cX6_write_40 22 rfl rfl
theorem dX6_write_65 : decode cX6_write 65 = .ok (.iload_n 3, 1) := dk_29 (blk_at bk_cX6_write_40 25 rfl)
theorem dX6_write_66 : decode cX6_write 66 = .ok (.iaload, 1) := dk_46 (blk_at bk_cX6_write_40 26 rfl)
theorem dX6_write_67 : decode cX6_write 67 = .ok (.invokevirtual 43, 3) := dq_182 bk_cX6_write_40 27 rfl rfl
theorem dX6_write_70 : decode cX6_write 70 = .ok (.iinc 3 1, 3) := dq_132 bk_cX6_write_40 30 rfl rfl (by decide)
theorem dX6_write_73 : decode cX6_write 73 = .ok (.goto (-46), 3) := dq_167 bk_cX6_write_40 33 rfl (by decide)
theorem dX6_write_76 : decode cX6_write 76 = .ok (.iconst 0, 1) := dk_3 (blk_at bk_cX6_write_40 36 rfl)
theorem dX6_write_77 : decode cX6_write 77 = .ok (.istore_n 3, 1) := dk_62 (blk_at bk_cX6_write_40 37 rfl)
theorem dX6_write_78 : decode cX6_write 78 = .ok (.iload_n 3, 1) := dk_29 (blk_at bk_cX6_write_40 38 rfl)
theorem dX6_write_79 : decode cX6_write 79 = .ok (.aload_n 2, 1) := dk_44 (blk_at bk_cX6_write_40 39 rfl)
theorem bk_cX6_write_80 : (cX6_write.data.toList.drop 80).take 40 = [180, 0, 47, 162, 0, 27, 42, 18, 52, 182, 0, 21, 42, 44, 29, 182, 0, 54, 42, 16, 59, 182, 0, 32, 132, 3, 1, 167, 255, 227, 3, 62, 29, 43, 180, 0, 58, 162, 0, 20] := by decide +kernel
theorem dX6_write_80 : decode cX6_write 80 = .ok (.getfield 47, 3) := dq_180 bk_cX6_write_80 0 rfl rfl
theorem dX6_write_83 : decode cX6_write 83 = .ok (.if_icmp .ge 27, 3) := dq_162 bk_cX6_write_80 3 rfl (by decide)
theorem dX6_write_86 : decode cX6_write 86 = .ok (.aload_n 0, 1) := dk_42 (blk_at bk_cX6_write_80 6 rfl)
theorem dX6_write_87 : decode cX6_write 87 = .ok (.ldc 52, 2) := dq_18 bk_cX6_write_80 7 rfl rfl
theorem dX6_write_89 : decode cX6_write 89 = .ok (.invokevirtual 21, 3) := dq_182 bk_cX6_write_80 9 rfl rfl
theorem dX6_write_92 : decode cX6_write 92 = .ok (.aload_n 0, 1) := dk_42 (blk_at bk_cX6_write_80 12 rfl)
theorem dX6_write_93 : decode cX6_write 93 = .ok (.aload_n 2, 1) := dk_44 (blk_at bk_cX6_write_80 13 rfl)
theorem dX6_write_94 : decode cX6_write 94 = .ok (.iload_n 3, 1) := dk_29 (blk_at bk_cX6_write_80 14 rfl)
theorem dX6_write_95 : decode cX6_write 95 = .ok (.invokevirtual 54, 3) := dq_182 bk_cX6_write_80 15 rfl rfl
theorem dX6_write_98 : decode cX6_write 98 = .ok (.aload_n 0, 1) := dk_42 (blk_at bk_cX6_write_80 18 rfl)
theorem dX6_write_99 : decode cX6_write 99 = .ok (.bipush 59, 2) := dq_16 bk_cX6_write_80 19 rfl (by decide)
theorem dX6_write_101 : decode cX6_write 101 = .ok (.invokevirtual 32, 3) := dq_182 bk_cX6_write_80 21 rfl rfl
theorem dX6_write_104 : decode cX6_write 104 = .ok (.iinc 3 1, 3) := dq_132 bk_cX6_write_80 24 rfl rfl (by decide)
theorem dX6_write_107 : decode cX6_write 107 = .ok (.goto (-29), 3) := dq_167 bk_cX6_write_80 27 rfl (by decide)
theorem dX6_write_110 : decode cX6_write 110 = .ok (.iconst 0, 1) := dk_3 (blk_at bk_cX6_write_80 30 rfl)
theorem dX6_write_111 : decode cX6_write 111 = .ok (.istore_n 3, 1) := dk_62 (blk_at bk_cX6_write_80 31 rfl)
theorem dX6_write_112 : decode cX6_write 112 = .ok (.iload_n 3, 1) := dk_29 (blk_at bk_cX6_write_80 32 rfl)
theorem dX6_write_113 : decode cX6_write 113 = .ok (.aload_n 1, 1) := dk_43 (blk_at bk_cX6_write_80 33 rfl)
theorem dX6_write_114 : decode cX6_write 114 = .ok (.getfield 58, 3) := dq_180 bk_cX6_write_80 34 rfl rfl
theorem dX6_write_117 : decode cX6_write 117 = .ok (.if_icmp .ge 20, 3) := dq_162 bk_cX6_write_80 37 rfl (by decide)
theorem bk_cX6_write_120 : (cX6_write.data.toList.drop 120).take 38 = [42, 43, 180, 0, 61, 29, 50, 44, 182, 0, 65, 132, 3, 1, 167, 255, 234, 3, 62, 29, 43, 180, 0, 69, 162, 0, 20, 42, 43, 180, 0, 72, 29, 50, 44, 182, 0, 76] := by decide +kernel
theorem dX6_write_120 : decode cX6_write 120 = .ok (.aload_n 0, 1) := dk_42 (blk_at bk_cX6_write_120 0 rfl)
theorem dX6_write_121 : decode cX6_write 121 = .ok (.aload_n 1, 1) := dk_43 (blk_at bk_cX6_write_120 1 rfl)
theorem dX6_write_122 : decode cX6_write 122 = .ok (.getfield 61, 3) := dq_180 bk_cX6_write_120 2 rfl rfl
theorem dX6_write_125 : decode cX6_write 125 = .ok (.iload_n 3, 1) := dk_29 (blk_at bk_cX6_write_120 5 rfl)
theorem dX6_write_126 : decode cX6_write 126 = .ok (.aaload, 1) := dk_50 (blk_at bk_cX6_write_120 6 rfl)
theorem dX6_write_127 : decode cX6_write 127 = .ok (.aload_n 2, 1) := dk_44 (blk_at bk_cX6_write_120 7 rfl)
theorem dX6_write_128 : decode cX6_write 128 = .ok (.invokevirtual 65, 3) := dq_182 bk_cX6_write_120 8 rfl rfl
theorem dX6_write_131 : decode cX6_write 131 = .ok (.iinc 3 1, 3) := dq_132 bk_cX6_write_120 11 rfl rfl (by decide)
theorem dX6_write_134 : decode cX6_write 134 = .ok (.goto (-22), 3) := dq_167 bk_cX6_write_120 14 rfl (by decide)
theorem dX6_write_137 : decode cX6_write 137 = .ok (.iconst 0, 1) := dk_3 (blk_at bk_cX6_write_120 17 rfl)
theorem dX6_write_138 : decode cX6_write 138 = .ok (.istore_n 3, 1) := dk_62 (blk_at bk_cX6_write_120 18 rfl)
theorem dX6_write_139 : decode cX6_write 139 = .ok (.iload_n 3, 1) := dk_29 (blk_at bk_cX6_write_120 19 rfl)
theorem dX6_write_140 : decode cX6_write 140 = .ok (.aload_n 1, 1) := dk_43 (blk_at bk_cX6_write_120 20 rfl)
theorem dX6_write_141 : decode cX6_write 141 = .ok (.getfield 69, 3) := dq_180 bk_cX6_write_120 21 rfl rfl
theorem dX6_write_144 : decode cX6_write 144 = .ok (.if_icmp .ge 20, 3) := dq_162 bk_cX6_write_120 24 rfl (by decide)
theorem dX6_write_147 : decode cX6_write 147 = .ok (.aload_n 0, 1) := dk_42 (blk_at bk_cX6_write_120 27 rfl)
theorem dX6_write_148 : decode cX6_write 148 = .ok (.aload_n 1, 1) := dk_43 (blk_at bk_cX6_write_120 28 rfl)
theorem dX6_write_149 : decode cX6_write 149 = .ok (.getfield 72, 3) := dq_180 bk_cX6_write_120 29 rfl rfl
theorem dX6_write_152 : decode cX6_write 152 = .ok (.iload_n 3, 1) := dk_29 (blk_at bk_cX6_write_120 32 rfl)
theorem dX6_write_153 : decode cX6_write 153 = .ok (.aaload, 1) := dk_50 (blk_at bk_cX6_write_120 33 rfl)
theorem dX6_write_154 : decode cX6_write 154 = .ok (.aload_n 2, 1) := dk_44 (blk_at bk_cX6_write_120 34 rfl)
theorem dX6_write_155 : decode cX6_write 155 = .ok (.invokevirtual 76, 3) := dq_182 bk_cX6_write_120 35 rfl rfl
theorem bk_cX6_write_158 : (cX6_write.data.toList.drop 158).take 11 = [132, 3, 1, 167, 255, 234, 42, 180, 0, 15, 172] := by decide +kernel
theorem dX6_write_158 : decode cX6_write 158 = .ok (.iinc 3 1, 3) := dq_132 bk_cX6_write_158 0 rfl rfl (by decide)
theorem dX6_write_161 : decode cX6_write 161 = .ok (.goto (-22), 3) := dq_167 bk_cX6_write_158 3 rfl (by decide)
theorem dX6_write_164 : decode cX6_write 164 = .ok (.aload_n 0, 1) := dk_42 (blk_at bk_cX6_write_158 6 rfl)
theorem dX6_write_165 : decode cX6_write 165 = .ok (.getfield 15, 3) := dq_180 bk_cX6_write_158 7 rfl rfl
theorem dX6_write_168 : decode cX6_write 168 = .ok (.ireturn, 1) := dk_172 (blk_at bk_cX6_write_158 10 rfl)
theorem bk_cX6_putLimit_0 : (cX6_putLimit.data.toList.drop 0).take 34 = [42, 18, 80, 182, 0, 21, 42, 27, 182, 0, 28, 42, 28, 182, 0, 28, 42, 18, 82, 182, 0, 21, 42, 29, 182, 0, 28, 42, 16, 59, 182, 0, 32, 177] := by decide +kernel
theorem dX6_putLimit_0 : decode cX6_putLimit 0 = .ok (.aload_n 0, 1) := dk_42 (blk_at bk_cX6_putLimit_0 0 rfl)
theorem dX6_putLimit_1 : decode cX6_putLimit 1 = .ok (.ldc 80, 2) := dq_18 bk_cX6_putLimit_0 1 rfl rfl
theorem dX6_putLimit_3 : decode cX6_putLimit 3 = .ok (.invokevirtual 21, 3) := dq_182 bk_cX6_putLimit_0 3 rfl rfl
theorem dX6_putLimit_6 : decode cX6_putLimit 6 = .ok (.aload_n 0, 1) := dk_42 (blk_at bk_cX6_putLimit_0 6 rfl)
theorem dX6_putLimit_7 : decode cX6_putLimit 7 = .ok (.iload_n 1, 1) := dk_27 (blk_at bk_cX6_putLimit_0 7 rfl)
theorem dX6_putLimit_8 : decode cX6_putLimit 8 = .ok (.invokevirtual 28, 3) := dq_182 bk_cX6_putLimit_0 8 rfl rfl
theorem dX6_putLimit_11 : decode cX6_putLimit 11 = .ok (.aload_n 0, 1) := dk_42 (blk_at bk_cX6_putLimit_0 11 rfl)
theorem dX6_putLimit_12 : decode cX6_putLimit 12 = .ok (.iload_n 2, 1) := dk_28 (blk_at bk_cX6_putLimit_0 12 rfl)
theorem dX6_putLimit_13 : decode cX6_putLimit 13 = .ok (.invokevirtual 28, 3) := dq_182 bk_cX6_putLimit_0 13 rfl rfl
theorem dX6_putLimit_16 : decode cX6_putLimit 16 = .ok (.aload_n 0, 1) := dk_42 (blk_at bk_cX6_putLimit_0 16 rfl)
theorem dX6_putLimit_17 : decode cX6_putLimit 17 = .ok (.ldc 82, 2) := dq_18 bk_cX6_putLimit_0 17 rfl rfl
theorem dX6_putLimit_19 : decode cX6_putLimit 19 = .ok (.invokevirtual 21, 3) := dq_182 bk_cX6_putLimit_0 19 rfl rfl
theorem dX6_putLimit_22 : decode cX6_putLimit 22 = .ok (.aload_n 0, 1) := dk_42 (blk_at bk_cX6_putLimit_0 22 rfl)
theorem dX6_putLimit_23 : decode cX6_putLimit 23 = .ok (.iload_n 3, 1) := dk_29 (blk_at bk_cX6_putLimit_0 23 rfl)
theorem dX6_putLimit_24 : decode cX6_putLimit 24 = .ok (.invokevirtual 28, 3) := dq_182 bk_cX6_putLimit_0 24 rfl rfl
theorem dX6_putLimit_27 : decode cX6_putLimit 27 = .ok (.aload_n 0, 1) := dk_42 (blk_at bk_cX6_putLimit_0 27 rfl)
theorem dX6_putLimit_28 : decode cX6_putLimit 28 = .ok (.bipush 59, 2) := dq_16 bk_cX6_putLimit_0 28 rfl (by decide)
theorem dX6_putLimit_30 : decode cX6_putLimit 30 = .ok (.invokevirtual 32, 3) := dq_182 bk_cX6_putLimit_0 30 rfl rfl
theorem dX6_putLimit_33 : decode cX6_putLimit 33 = .ok (.return_, 1) := dk_177 (blk_at bk_cX6_putLimit_0 33 rfl)
theorem bk_cX6_putSeries_0 : (cX6_putSeries.data.toList.drop 0).take 40 = [42, 18, 84, 182, 0, 21, 42, 44, 43, 180, 0, 86, 182, 0, 54, 42, 43, 180, 0, 90, 43, 180, 0, 93, 43, 180, 0, 96, 182, 0, 99, 42, 43, 180, 0, 102, 43, 180, 0, 105] := by decide +kernel
theorem dX6_putSeries_0 : decode cX6_putSeries 0 = .ok (.aload_n 0, 1) := dk_42 (blk_at bk_cX6_putSeries_0 0 rfl)
theorem dX6_putSeries_1 : decode cX6_putSeries 1 = .ok (.ldc 84, 2) := dq_18 bk_cX6_putSeries_0 1 rfl rfl
theorem dX6_putSeries_3 : decode cX6_putSeries 3 = .ok (.invokevirtual 21, 3) := dq_182 bk_cX6_putSeries_0 3 rfl rfl
theorem dX6_putSeries_6 : decode cX6_putSeries 6 = .ok (.aload_n 0, 1) := dk_42 (blk_at bk_cX6_putSeries_0 6 rfl)
theorem dX6_putSeries_7 : decode cX6_putSeries 7 = .ok (.aload_n 2, 1) := dk_44 (blk_at bk_cX6_putSeries_0 7 rfl)
theorem dX6_putSeries_8 : decode cX6_putSeries 8 = .ok (.aload_n 1, 1) := dk_43 (blk_at bk_cX6_putSeries_0 8 rfl)
theorem dX6_putSeries_9 : decode cX6_putSeries 9 = .ok (.getfield 86, 3) := dq_180 bk_cX6_putSeries_0 9 rfl rfl
theorem dX6_putSeries_12 : decode cX6_putSeries 12 = .ok (.invokevirtual 54, 3) := dq_182 bk_cX6_putSeries_0 12 rfl rfl
theorem dX6_putSeries_15 : decode cX6_putSeries 15 = .ok (.aload_n 0, 1) := dk_42 (blk_at bk_cX6_putSeries_0 15 rfl)
theorem dX6_putSeries_16 : decode cX6_putSeries 16 = .ok (.aload_n 1, 1) := dk_43 (blk_at bk_cX6_putSeries_0 16 rfl)
theorem dX6_putSeries_17 : decode cX6_putSeries 17 = .ok (.getfield 90, 3) := dq_180 bk_cX6_putSeries_0 17 rfl rfl
theorem dX6_putSeries_20 : decode cX6_putSeries 20 = .ok (.aload_n 1, 1) := dk_43 (blk_at bk_cX6_putSeries_0 20 rfl)
theorem dX6_putSeries_21 : decode cX6_putSeries 21 = .ok (.getfield 93, 3) := dq_180 bk_cX6_putSeries_0 21 rfl rfl
theorem dX6_putSeries_24 : decode cX6_putSeries 24 = .ok (.aload_n 1, 1) := dk_43 (blk_at bk_cX6_putSeries_0 24 rfl)
theorem dX6_putSeries_25 : decode cX6_putSeries 25 = .ok (.getfield 96, 3) := dq_180 bk_cX6_putSeries_0 25 rfl rfl
theorem dX6_putSeries_28 : decode cX6_putSeries 28 = .ok (.invokevirtual 99, 3) := dq_182 bk_cX6_putSeries_0 28 rfl rfl
theorem dX6_putSeries_31 : decode cX6_putSeries 31 = .ok (.aload_n 0, 1) := dk_42 (blk_at bk_cX6_putSeries_0 31 rfl)
theorem dX6_putSeries_32 : decode cX6_putSeries 32 = .ok (.aload_n 1, 1) := dk_43 (blk_at bk_cX6_putSeries_0 32 rfl)
theorem dX6_putSeries_33 : decode cX6_putSeries 33 = .ok (.getfield 102, 3) := dq_180 bk_cX6_putSeries_0 33 rfl rfl
theorem dX6_putSeries_36 : decode cX6_putSeries 36 = .ok (.aload_n 1, 1) := dk_43 (blk_at bk_cX6_putSeries_0 36 rfl)
theorem dX6_putSeries_37 : decode cX6_putSeries 37 = .ok (.getfield 105, 3) := dq_180 bk_cX6_putSeries_0 37 rfl rfl
theorem bk_cX6_putSeries_40 : (cX6_putSeries.data.toList.drop 40).take 23 = [182, 0, 108, 43, 180, 0, 112, 153, 0, 9, 42, 18, 116, 182, 0, 21, 42, 16, 59, 182, 0, 32, 177] := by decide +kernel
theorem dX6_putSeries_40 : decode cX6_putSeries 40 = .ok (.invokevirtual 108, 3) := dq_182 bk_cX6_putSeries_40 0 rfl rfl
theorem dX6_putSeries_43 : decode cX6_putSeries 43 = .ok (.aload_n 1, 1) := dk_43 (blk_at bk_cX6_putSeries_40 3 rfl)
theorem dX6_putSeries_44 : decode cX6_putSeries 44 = .ok (.getfield 112, 3) := dq_180 bk_cX6_putSeries_40 4 rfl rfl
theorem dX6_putSeries_47 : decode cX6_putSeries 47 = .ok (.ifCond .eq 9, 3) := dq_153 bk_cX6_putSeries_40 7 rfl (by decide)
theorem dX6_putSeries_50 : decode cX6_putSeries 50 = .ok (.aload_n 0, 1) := dk_42 (blk_at bk_cX6_putSeries_40 10 rfl)
theorem dX6_putSeries_51 : decode cX6_putSeries 51 = .ok (.ldc 116, 2) := dq_18 bk_cX6_putSeries_40 11 rfl rfl
theorem dX6_putSeries_53 : decode cX6_putSeries 53 = .ok (.invokevirtual 21, 3) := dq_182 bk_cX6_putSeries_40 13 rfl rfl
theorem dX6_putSeries_56 : decode cX6_putSeries 56 = .ok (.aload_n 0, 1) := dk_42 (blk_at bk_cX6_putSeries_40 16 rfl)
theorem dX6_putSeries_57 : decode cX6_putSeries 57 = .ok (.bipush 59, 2) := dq_16 bk_cX6_putSeries_40 17 rfl (by decide)
theorem dX6_putSeries_59 : decode cX6_putSeries 59 = .ok (.invokevirtual 32, 3) := dq_182 bk_cX6_putSeries_40 19 rfl rfl
theorem dX6_putSeries_62 : decode cX6_putSeries 62 = .ok (.return_, 1) := dk_177 (blk_at bk_cX6_putSeries_40 22 rfl)
theorem bk_cX6_putAsk_0 : (cX6_putAsk.data.toList.drop 0).take 40 = [42, 18, 118, 182, 0, 21, 42, 44, 43, 180, 0, 120, 182, 0, 54, 42, 43, 180, 0, 123, 43, 180, 0, 124, 43, 180, 0, 125, 182, 0, 99, 42, 43, 180, 0, 126, 43, 180, 0, 127] := by decide +kernel
theorem dX6_putAsk_0 : decode cX6_putAsk 0 = .ok (.aload_n 0, 1) := dk_42 (blk_at bk_cX6_putAsk_0 0 rfl)
theorem dX6_putAsk_1 : decode cX6_putAsk 1 = .ok (.ldc 118, 2) := dq_18 bk_cX6_putAsk_0 1 rfl rfl
theorem dX6_putAsk_3 : decode cX6_putAsk 3 = .ok (.invokevirtual 21, 3) := dq_182 bk_cX6_putAsk_0 3 rfl rfl
theorem dX6_putAsk_6 : decode cX6_putAsk 6 = .ok (.aload_n 0, 1) := dk_42 (blk_at bk_cX6_putAsk_0 6 rfl)
theorem dX6_putAsk_7 : decode cX6_putAsk 7 = .ok (.aload_n 2, 1) := dk_44 (blk_at bk_cX6_putAsk_0 7 rfl)
theorem dX6_putAsk_8 : decode cX6_putAsk 8 = .ok (.aload_n 1, 1) := dk_43 (blk_at bk_cX6_putAsk_0 8 rfl)
theorem dX6_putAsk_9 : decode cX6_putAsk 9 = .ok (.getfield 120, 3) := dq_180 bk_cX6_putAsk_0 9 rfl rfl
theorem dX6_putAsk_12 : decode cX6_putAsk 12 = .ok (.invokevirtual 54, 3) := dq_182 bk_cX6_putAsk_0 12 rfl rfl
theorem dX6_putAsk_15 : decode cX6_putAsk 15 = .ok (.aload_n 0, 1) := dk_42 (blk_at bk_cX6_putAsk_0 15 rfl)
theorem dX6_putAsk_16 : decode cX6_putAsk 16 = .ok (.aload_n 1, 1) := dk_43 (blk_at bk_cX6_putAsk_0 16 rfl)
theorem dX6_putAsk_17 : decode cX6_putAsk 17 = .ok (.getfield 123, 3) := dq_180 bk_cX6_putAsk_0 17 rfl rfl
theorem dX6_putAsk_20 : decode cX6_putAsk 20 = .ok (.aload_n 1, 1) := dk_43 (blk_at bk_cX6_putAsk_0 20 rfl)
theorem dX6_putAsk_21 : decode cX6_putAsk 21 = .ok (.getfield 124, 3) := dq_180 bk_cX6_putAsk_0 21 rfl rfl
theorem dX6_putAsk_24 : decode cX6_putAsk 24 = .ok (.aload_n 1, 1) := dk_43 (blk_at bk_cX6_putAsk_0 24 rfl)
theorem dX6_putAsk_25 : decode cX6_putAsk 25 = .ok (.getfield 125, 3) := dq_180 bk_cX6_putAsk_0 25 rfl rfl
theorem dX6_putAsk_28 : decode cX6_putAsk 28 = .ok (.invokevirtual 99, 3) := dq_182 bk_cX6_putAsk_0 28 rfl rfl
theorem dX6_putAsk_31 : decode cX6_putAsk 31 = .ok (.aload_n 0, 1) := dk_42 (blk_at bk_cX6_putAsk_0 31 rfl)
theorem dX6_putAsk_32 : decode cX6_putAsk 32 = .ok (.aload_n 1, 1) := dk_43 (blk_at bk_cX6_putAsk_0 32 rfl)
theorem dX6_putAsk_33 : decode cX6_putAsk 33 = .ok (.getfield 126, 3) := dq_180 bk_cX6_putAsk_0 33 rfl rfl
theorem dX6_putAsk_36 : decode cX6_putAsk 36 = .ok (.aload_n 1, 1) := dk_43 (blk_at bk_cX6_putAsk_0 36 rfl)
theorem dX6_putAsk_37 : decode cX6_putAsk 37 = .ok (.getfield 127, 3) := dq_180 bk_cX6_putAsk_0 37 rfl rfl
theorem bk_cX6_putAsk_40 : (cX6_putAsk.data.toList.drop 40).take 31 = [182, 0, 108, 43, 180, 0, 128, 158, 0, 17, 42, 18, 131, 182, 0, 21, 42, 43, 180, 0, 128, 182, 0, 28, 42, 16, 59, 182, 0, 32, 177] := by decide +kernel
theorem dX6_putAsk_40 : decode cX6_putAsk 40 = .ok (.invokevirtual 108, 3) := dq_182 bk_cX6_putAsk_40 0 rfl rfl
theorem dX6_putAsk_43 : decode cX6_putAsk 43 = .ok (.aload_n 1, 1) := dk_43 (blk_at bk_cX6_putAsk_40 3 rfl)
theorem dX6_putAsk_44 : decode cX6_putAsk 44 = .ok (.getfield 128, 3) := dq_180 bk_cX6_putAsk_40 4 rfl rfl
theorem dX6_putAsk_47 : decode cX6_putAsk 47 = .ok (.ifCond .le 17, 3) := dq_158 bk_cX6_putAsk_40 7 rfl (by decide)
theorem dX6_putAsk_50 : decode cX6_putAsk 50 = .ok (.aload_n 0, 1) := dk_42 (blk_at bk_cX6_putAsk_40 10 rfl)
theorem dX6_putAsk_51 : decode cX6_putAsk 51 = .ok (.ldc 131, 2) := dq_18 bk_cX6_putAsk_40 11 rfl rfl
theorem dX6_putAsk_53 : decode cX6_putAsk 53 = .ok (.invokevirtual 21, 3) := dq_182 bk_cX6_putAsk_40 13 rfl rfl
theorem dX6_putAsk_56 : decode cX6_putAsk 56 = .ok (.aload_n 0, 1) := dk_42 (blk_at bk_cX6_putAsk_40 16 rfl)
theorem dX6_putAsk_57 : decode cX6_putAsk 57 = .ok (.aload_n 1, 1) := dk_43 (blk_at bk_cX6_putAsk_40 17 rfl)
theorem dX6_putAsk_58 : decode cX6_putAsk 58 = .ok (.getfield 128, 3) := dq_180 bk_cX6_putAsk_40 18 rfl rfl
theorem dX6_putAsk_61 : decode cX6_putAsk 61 = .ok (.invokevirtual 28, 3) := dq_182 bk_cX6_putAsk_40 21 rfl rfl
theorem dX6_putAsk_64 : decode cX6_putAsk 64 = .ok (.aload_n 0, 1) := dk_42 (blk_at bk_cX6_putAsk_40 24 rfl)
theorem dX6_putAsk_65 : decode cX6_putAsk 65 = .ok (.bipush 59, 2) := dq_16 bk_cX6_putAsk_40 25 rfl (by decide)
theorem dX6_putAsk_67 : decode cX6_putAsk 67 = .ok (.invokevirtual 32, 3) := dq_182 bk_cX6_putAsk_40 27 rfl rfl
theorem dX6_putAsk_70 : decode cX6_putAsk 70 = .ok (.return_, 1) := dk_177 (blk_at bk_cX6_putAsk_40 30 rfl)
theorem bk_cX6_putPlace_0 : (cX6_putPlace.data.toList.drop 0).take 40 = [42, 182, 0, 132, 3, 54, 4, 21, 4, 6, 162, 0, 24, 42, 18, 135, 27, 7, 104, 21, 4, 96, 182, 0, 137, 182, 0, 32, 132, 4, 1, 167, 255, 232, 42, 28, 182, 0, 28, 42] := by decide +kernel
theorem dX6_putPlace_0 : decode cX6_putPlace 0 = .ok (.aload_n 0, 1) := dk_42 (blk_at bk_cX6_putPlace_0 0 rfl)
theorem dX6_putPlace_1 : decode cX6_putPlace 1 = .ok (.invokevirtual 132, 3) := dq_182 bk_cX6_putPlace_0 1 rfl rfl
theorem dX6_putPlace_4 : decode cX6_putPlace 4 = .ok (.iconst 0, 1) := dk_3 (blk_at bk_cX6_putPlace_0 4 rfl)
theorem dX6_putPlace_5 : decode cX6_putPlace 5 = .ok (.istore 4, 2) := dq_54 bk_cX6_putPlace_0 5 rfl rfl
theorem dX6_putPlace_7 : decode cX6_putPlace 7 = .ok (.iload 4, 2) := dq_21 bk_cX6_putPlace_0 7 rfl rfl
theorem dX6_putPlace_9 : decode cX6_putPlace 9 = .ok (.iconst 3, 1) := dk_6 (blk_at bk_cX6_putPlace_0 9 rfl)
theorem dX6_putPlace_10 : decode cX6_putPlace 10 = .ok (.if_icmp .ge 24, 3) := dq_162 bk_cX6_putPlace_0 10 rfl (by decide)
theorem dX6_putPlace_13 : decode cX6_putPlace 13 = .ok (.aload_n 0, 1) := dk_42 (blk_at bk_cX6_putPlace_0 13 rfl)
theorem dX6_putPlace_14 : decode cX6_putPlace 14 = .ok (.ldc 135, 2) := dq_18 bk_cX6_putPlace_0 14 rfl rfl
theorem dX6_putPlace_16 : decode cX6_putPlace 16 = .ok (.iload_n 1, 1) := dk_27 (blk_at bk_cX6_putPlace_0 16 rfl)
theorem dX6_putPlace_17 : decode cX6_putPlace 17 = .ok (.iconst 4, 1) := dk_7 (blk_at bk_cX6_putPlace_0 17 rfl)
theorem dX6_putPlace_18 : decode cX6_putPlace 18 = .ok (.imul, 1) := dk_104 (blk_at bk_cX6_putPlace_0 18 rfl)
theorem dX6_putPlace_19 : decode cX6_putPlace 19 = .ok (.iload 4, 2) := dq_21 bk_cX6_putPlace_0 19 rfl rfl
theorem dX6_putPlace_21 : decode cX6_putPlace 21 = .ok (.iadd, 1) := dk_96 (blk_at bk_cX6_putPlace_0 21 rfl)
theorem dX6_putPlace_22 : decode cX6_putPlace 22 = .ok (.invokevirtual 137, 3) := dq_182 bk_cX6_putPlace_0 22 rfl rfl
theorem dX6_putPlace_25 : decode cX6_putPlace 25 = .ok (.invokevirtual 32, 3) := dq_182 bk_cX6_putPlace_0 25 rfl rfl
theorem dX6_putPlace_28 : decode cX6_putPlace 28 = .ok (.iinc 4 1, 3) := dq_132 bk_cX6_putPlace_0 28 rfl rfl (by decide)
theorem dX6_putPlace_31 : decode cX6_putPlace 31 = .ok (.goto (-24), 3) := dq_167 bk_cX6_putPlace_0 31 rfl (by decide)
theorem dX6_putPlace_34 : decode cX6_putPlace 34 = .ok (.aload_n 0, 1) := dk_42 (blk_at bk_cX6_putPlace_0 34 rfl)
theorem dX6_putPlace_35 : decode cX6_putPlace 35 = .ok (.iload_n 2, 1) := dk_28 (blk_at bk_cX6_putPlace_0 35 rfl)
theorem dX6_putPlace_36 : decode cX6_putPlace 36 = .ok (.invokevirtual 28, 3) := dq_182 bk_cX6_putPlace_0 36 rfl rfl
theorem dX6_putPlace_39 : decode cX6_putPlace 39 = .ok (.aload_n 0, 1) := dk_42 (blk_at bk_cX6_putPlace_0 39 rfl)
theorem bk_cX6_putPlace_40 : (cX6_putPlace.data.toList.drop 40).take 15 = [29, 154, 0, 8, 18, 82, 167, 0, 5, 18, 143, 182, 0, 21, 177] := by decide +kernel
theorem dX6_putPlace_40 : decode cX6_putPlace 40 = .ok (.iload_n 3, 1) := dk_29 (blk_at bk_cX6_putPlace_40 0 rfl)
theorem dX6_putPlace_41 : decode cX6_putPlace 41 = .ok (.ifCond .ne 8, 3) := dq_154 bk_cX6_putPlace_40 1 rfl (by decide)
theorem dX6_putPlace_44 : decode cX6_putPlace 44 = .ok (.ldc 82, 2) := dq_18 bk_cX6_putPlace_40 4 rfl rfl
theorem dX6_putPlace_46 : decode cX6_putPlace 46 = .ok (.goto 5, 3) := dq_167 bk_cX6_putPlace_40 6 rfl (by decide)
theorem dX6_putPlace_49 : decode cX6_putPlace 49 = .ok (.ldc 143, 2) := dq_18 bk_cX6_putPlace_40 9 rfl rfl
theorem dX6_putPlace_51 : decode cX6_putPlace 51 = .ok (.invokevirtual 21, 3) := dq_182 bk_cX6_putPlace_40 11 rfl rfl
theorem dX6_putPlace_54 : decode cX6_putPlace 54 = .ok (.return_, 1) := dk_177 (blk_at bk_cX6_putPlace_40 14 rfl)
theorem bk_cX6_putSpan_0 : (cX6_putSpan.data.toList.drop 0).take 17 = [42, 27, 182, 0, 28, 42, 16, 45, 182, 0, 32, 42, 28, 182, 0, 28, 177] := by decide +kernel
theorem dX6_putSpan_0 : decode cX6_putSpan 0 = .ok (.aload_n 0, 1) := dk_42 (blk_at bk_cX6_putSpan_0 0 rfl)
theorem dX6_putSpan_1 : decode cX6_putSpan 1 = .ok (.iload_n 1, 1) := dk_27 (blk_at bk_cX6_putSpan_0 1 rfl)
theorem dX6_putSpan_2 : decode cX6_putSpan 2 = .ok (.invokevirtual 28, 3) := dq_182 bk_cX6_putSpan_0 2 rfl rfl
theorem dX6_putSpan_5 : decode cX6_putSpan 5 = .ok (.aload_n 0, 1) := dk_42 (blk_at bk_cX6_putSpan_0 5 rfl)
theorem dX6_putSpan_6 : decode cX6_putSpan 6 = .ok (.bipush 45, 2) := dq_16 bk_cX6_putSpan_0 6 rfl (by decide)
theorem dX6_putSpan_8 : decode cX6_putSpan 8 = .ok (.invokevirtual 32, 3) := dq_182 bk_cX6_putSpan_0 8 rfl rfl
theorem dX6_putSpan_11 : decode cX6_putSpan 11 = .ok (.aload_n 0, 1) := dk_42 (blk_at bk_cX6_putSpan_0 11 rfl)
theorem dX6_putSpan_12 : decode cX6_putSpan 12 = .ok (.iload_n 2, 1) := dk_28 (blk_at bk_cX6_putSpan_0 12 rfl)
theorem dX6_putSpan_13 : decode cX6_putSpan 13 = .ok (.invokevirtual 28, 3) := dq_182 bk_cX6_putSpan_0 13 rfl rfl
theorem dX6_putSpan_16 : decode cX6_putSpan 16 = .ok (.return_, 1) := dk_177 (blk_at bk_cX6_putSpan_0 16 rfl)
theorem bk_cX6_putName_0 : (cX6_putName.data.toList.drop 0).take 40 = [42, 182, 0, 132, 3, 62, 29, 16, 6, 162, 0, 34, 43, 28, 29, 182, 0, 144, 54, 4, 21, 4, 158, 0, 15, 42, 16, 97, 21, 4, 96, 4, 100, 146, 182, 0, 32, 132, 3, 1] := by decide +kernel
theorem dX6_putName_0 : decode cX6_putName 0 = .ok (.aload_n 0, 1) := dk_42 (blk_at bk_cX6_putName_0 0 rfl)
theorem dX6_putName_1 : decode cX6_putName 1 = .ok (.invokevirtual 132, 3) := dq_182 bk_cX6_putName_0 1 rfl rfl
theorem dX6_putName_4 : decode cX6_putName 4 = .ok (.iconst 0, 1) := dk_3 (blk_at bk_cX6_putName_0 4 rfl)
theorem dX6_putName_5 : decode cX6_putName 5 = .ok (.istore_n 3, 1) := dk_62 (blk_at bk_cX6_putName_0 5 rfl)
theorem dX6_putName_6 : decode cX6_putName 6 = .ok (.iload_n 3, 1) := dk_29 (blk_at bk_cX6_putName_0 6 rfl)
theorem dX6_putName_7 : decode cX6_putName 7 = .ok (.bipush 6, 2) := dq_16 bk_cX6_putName_0 7 rfl (by decide)
theorem dX6_putName_9 : decode cX6_putName 9 = .ok (.if_icmp .ge 34, 3) := dq_162 bk_cX6_putName_0 9 rfl (by decide)
theorem dX6_putName_12 : decode cX6_putName 12 = .ok (.aload_n 1, 1) := dk_43 (blk_at bk_cX6_putName_0 12 rfl)
theorem dX6_putName_13 : decode cX6_putName 13 = .ok (.iload_n 2, 1) := dk_28 (blk_at bk_cX6_putName_0 13 rfl)
theorem dX6_putName_14 : decode cX6_putName 14 = .ok (.iload_n 3, 1) := dk_29 (blk_at bk_cX6_putName_0 14 rfl)
theorem dX6_putName_15 : decode cX6_putName 15 = .ok (.invokevirtual 144, 3) := dq_182 bk_cX6_putName_0 15 rfl rfl
theorem dX6_putName_18 : decode cX6_putName 18 = .ok (.istore 4, 2) := dq_54 bk_cX6_putName_0 18 rfl rfl
theorem dX6_putName_20 : decode cX6_putName 20 = .ok (.iload 4, 2) := dq_21 bk_cX6_putName_0 20 rfl rfl
theorem dX6_putName_22 : decode cX6_putName 22 = .ok (.ifCond .le 15, 3) := dq_158 bk_cX6_putName_0 22 rfl (by decide)
theorem dX6_putName_25 : decode cX6_putName 25 = .ok (.aload_n 0, 1) := dk_42 (blk_at bk_cX6_putName_0 25 rfl)
theorem dX6_putName_26 : decode cX6_putName 26 = .ok (.bipush 97, 2) := dq_16 bk_cX6_putName_0 26 rfl (by decide)
theorem dX6_putName_28 : decode cX6_putName 28 = .ok (.iload 4, 2) := dq_21 bk_cX6_putName_0 28 rfl rfl
theorem dX6_putName_30 : decode cX6_putName 30 = .ok (.iadd, 1) := dk_96 (blk_at bk_cX6_putName_0 30 rfl)
theorem dX6_putName_31 : decode cX6_putName 31 = .ok (.iconst 1, 1) := dk_4 (blk_at bk_cX6_putName_0 31 rfl)
theorem dX6_putName_32 : decode cX6_putName 32 = .ok (.isub, 1) := dk_100 (blk_at bk_cX6_putName_0 32 rfl)
theorem dX6_putName_33 : decode cX6_putName 33 = .ok (.i2c, 1) := dk_146 (blk_at bk_cX6_putName_0 33 rfl)
theorem dX6_putName_34 : decode cX6_putName 34 = .ok (.invokevirtual 32, 3) := dq_182 bk_cX6_putName_0 34 rfl rfl
theorem dX6_putName_37 : decode cX6_putName 37 = .ok (.iinc 3 1, 3) := dq_132 bk_cX6_putName_0 37 rfl rfl (by decide)
theorem bk_cX6_putName_40 : (cX6_putName.data.toList.drop 40).take 4 = [167, 255, 222, 177] := by decide +kernel
theorem dX6_putName_40 : decode cX6_putName 40 = .ok (.goto (-34), 3) := dq_167 bk_cX6_putName_40 0 rfl (by decide)
theorem dX6_putName_43 : decode cX6_putName 43 = .ok (.return_, 1) := dk_177 (blk_at bk_cX6_putName_40 3 rfl)
theorem bk_cX6_putWord_0 : (cX6_putWord.data.toList.drop 0).take 30 = [42, 182, 0, 132, 3, 61, 28, 43, 182, 0, 148, 162, 0, 18, 42, 43, 28, 182, 0, 137, 182, 0, 32, 132, 2, 1, 167, 255, 236, 177] := by decide +kernel
theorem dX6_putWord_0 : decode cX6_putWord 0 = .ok (.aload_n 0, 1) := dk_42 (blk_at bk_cX6_putWord_0 0 rfl)
theorem dX6_putWord_1 : decode cX6_putWord 1 = .ok (.invokevirtual 132, 3) := dq_182 bk_cX6_putWord_0 1 rfl rfl
theorem dX6_putWord_4 : decode cX6_putWord 4 = .ok (.iconst 0, 1) := dk_3 (blk_at bk_cX6_putWord_0 4 rfl)
theorem dX6_putWord_5 : decode cX6_putWord 5 = .ok (.istore_n 2, 1) := dk_61 (blk_at bk_cX6_putWord_0 5 rfl)
theorem dX6_putWord_6 : decode cX6_putWord 6 = .ok (.iload_n 2, 1) := dk_28 (blk_at bk_cX6_putWord_0 6 rfl)
theorem dX6_putWord_7 : decode cX6_putWord 7 = .ok (.aload_n 1, 1) := dk_43 (blk_at bk_cX6_putWord_0 7 rfl)
theorem dX6_putWord_8 : decode cX6_putWord 8 = .ok (.invokevirtual 148, 3) := dq_182 bk_cX6_putWord_0 8 rfl rfl
theorem dX6_putWord_11 : decode cX6_putWord 11 = .ok (.if_icmp .ge 18, 3) := dq_162 bk_cX6_putWord_0 11 rfl (by decide)
theorem dX6_putWord_14 : decode cX6_putWord 14 = .ok (.aload_n 0, 1) := dk_42 (blk_at bk_cX6_putWord_0 14 rfl)
theorem dX6_putWord_15 : decode cX6_putWord 15 = .ok (.aload_n 1, 1) := dk_43 (blk_at bk_cX6_putWord_0 15 rfl)
theorem dX6_putWord_16 : decode cX6_putWord 16 = .ok (.iload_n 2, 1) := dk_28 (blk_at bk_cX6_putWord_0 16 rfl)
theorem dX6_putWord_17 : decode cX6_putWord 17 = .ok (.invokevirtual 137, 3) := dq_182 bk_cX6_putWord_0 17 rfl rfl
theorem dX6_putWord_20 : decode cX6_putWord 20 = .ok (.invokevirtual 32, 3) := dq_182 bk_cX6_putWord_0 20 rfl rfl
theorem dX6_putWord_23 : decode cX6_putWord 23 = .ok (.iinc 2 1, 3) := dq_132 bk_cX6_putWord_0 23 rfl rfl (by decide)
theorem dX6_putWord_26 : decode cX6_putWord 26 = .ok (.goto (-20), 3) := dq_167 bk_cX6_putWord_0 26 rfl (by decide)
theorem dX6_putWord_29 : decode cX6_putWord 29 = .ok (.return_, 1) := dk_177 (blk_at bk_cX6_putWord_0 29 rfl)
theorem bk_cX6_putNumber_0 : (cX6_putNumber.data.toList.drop 0).take 38 = [42, 182, 0, 132, 27, 16, 10, 161, 0, 18, 42, 16, 48, 27, 16, 10, 108, 16, 10, 112, 96, 146, 182, 0, 32, 42, 16, 48, 27, 16, 10, 112, 96, 146, 182, 0, 32, 177] := by decide +kernel
theorem dX6_putNumber_0 : decode cX6_putNumber 0 = .ok (.aload_n 0, 1) := dk_42 (blk_at bk_cX6_putNumber_0 0 rfl)
theorem dX6_putNumber_1 : decode cX6_putNumber 1 = .ok (.invokevirtual 132, 3) := dq_182 bk_cX6_putNumber_0 1 rfl rfl
theorem dX6_putNumber_4 : decode cX6_putNumber 4 = .ok (.iload_n 1, 1) := dk_27 (blk_at bk_cX6_putNumber_0 4 rfl)
theorem dX6_putNumber_5 : decode cX6_putNumber 5 = .ok (.bipush 10, 2) := dq_16 bk_cX6_putNumber_0 5 rfl (by decide)
theorem dX6_putNumber_7 : decode cX6_putNumber 7 = .ok (.if_icmp .lt 18, 3) := dq_161 bk_cX6_putNumber_0 7 rfl (by decide)
theorem dX6_putNumber_10 : decode cX6_putNumber 10 = .ok (.aload_n 0, 1) := dk_42 (blk_at bk_cX6_putNumber_0 10 rfl)
theorem dX6_putNumber_11 : decode cX6_putNumber 11 = .ok (.bipush 48, 2) := dq_16 bk_cX6_putNumber_0 11 rfl (by decide)
theorem dX6_putNumber_13 : decode cX6_putNumber 13 = .ok (.iload_n 1, 1) := dk_27 (blk_at bk_cX6_putNumber_0 13 rfl)
theorem dX6_putNumber_14 : decode cX6_putNumber 14 = .ok (.bipush 10, 2) := dq_16 bk_cX6_putNumber_0 14 rfl (by decide)
theorem dX6_putNumber_16 : decode cX6_putNumber 16 = .ok (.idiv, 1) := dk_108 (blk_at bk_cX6_putNumber_0 16 rfl)
theorem dX6_putNumber_17 : decode cX6_putNumber 17 = .ok (.bipush 10, 2) := dq_16 bk_cX6_putNumber_0 17 rfl (by decide)
theorem dX6_putNumber_19 : decode cX6_putNumber 19 = .ok (.irem, 1) := dk_112 (blk_at bk_cX6_putNumber_0 19 rfl)
theorem dX6_putNumber_20 : decode cX6_putNumber 20 = .ok (.iadd, 1) := dk_96 (blk_at bk_cX6_putNumber_0 20 rfl)
theorem dX6_putNumber_21 : decode cX6_putNumber 21 = .ok (.i2c, 1) := dk_146 (blk_at bk_cX6_putNumber_0 21 rfl)
theorem dX6_putNumber_22 : decode cX6_putNumber 22 = .ok (.invokevirtual 32, 3) := dq_182 bk_cX6_putNumber_0 22 rfl rfl
theorem dX6_putNumber_25 : decode cX6_putNumber 25 = .ok (.aload_n 0, 1) := dk_42 (blk_at bk_cX6_putNumber_0 25 rfl)
theorem dX6_putNumber_26 : decode cX6_putNumber 26 = .ok (.bipush 48, 2) := dq_16 bk_cX6_putNumber_0 26 rfl (by decide)
theorem dX6_putNumber_28 : decode cX6_putNumber 28 = .ok (.iload_n 1, 1) := dk_27 (blk_at bk_cX6_putNumber_0 28 rfl)
theorem dX6_putNumber_29 : decode cX6_putNumber 29 = .ok (.bipush 10, 2) := dq_16 bk_cX6_putNumber_0 29 rfl (by decide)
theorem dX6_putNumber_31 : decode cX6_putNumber 31 = .ok (.irem, 1) := dk_112 (blk_at bk_cX6_putNumber_0 31 rfl)
theorem dX6_putNumber_32 : decode cX6_putNumber 32 = .ok (.iadd, 1) := dk_96 (blk_at bk_cX6_putNumber_0 32 rfl)
theorem dX6_putNumber_33 : decode cX6_putNumber 33 = .ok (.i2c, 1) := dk_146 (blk_at bk_cX6_putNumber_0 33 rfl)
theorem dX6_putNumber_34 : decode cX6_putNumber 34 = .ok (.invokevirtual 32, 3) := dq_182 bk_cX6_putNumber_0 34 rfl rfl
theorem dX6_putNumber_37 : decode cX6_putNumber 37 = .ok (.return_, 1) := dk_177 (blk_at bk_cX6_putNumber_0 37 rfl)
theorem bk_cX6_putBlank_0 : (cX6_putBlank.data.toList.drop 0).take 38 = [42, 180, 0, 15, 158, 0, 43, 42, 180, 0, 9, 42, 180, 0, 15, 4, 100, 51, 184, 0, 151, 154, 0, 20, 42, 180, 0, 9, 42, 180, 0, 15, 4, 100, 51, 184, 0, 155] := by decide +kernel
theorem dX6_putBlank_0 : decode cX6_putBlank 0 = .ok (.aload_n 0, 1) := dk_42 (blk_at bk_cX6_putBlank_0 0 rfl)
theorem dX6_putBlank_1 : decode cX6_putBlank 1 = .ok (.getfield 15, 3) := dq_180 bk_cX6_putBlank_0 1 rfl rfl
theorem dX6_putBlank_4 : decode cX6_putBlank 4 = .ok (.ifCond .le 43, 3) := dq_158 bk_cX6_putBlank_0 4 rfl (by decide)
theorem dX6_putBlank_7 : decode cX6_putBlank 7 = .ok (.aload_n 0, 1) := dk_42 (blk_at bk_cX6_putBlank_0 7 rfl)
theorem dX6_putBlank_8 : decode cX6_putBlank 8 = .ok (.getfield 9, 3) := dq_180 bk_cX6_putBlank_0 8 rfl rfl
theorem dX6_putBlank_11 : decode cX6_putBlank 11 = .ok (.aload_n 0, 1) := dk_42 (blk_at bk_cX6_putBlank_0 11 rfl)
theorem dX6_putBlank_12 : decode cX6_putBlank 12 = .ok (.getfield 15, 3) := dq_180 bk_cX6_putBlank_0 12 rfl rfl
theorem dX6_putBlank_15 : decode cX6_putBlank 15 = .ok (.iconst 1, 1) := dk_4 (blk_at bk_cX6_putBlank_0 15 rfl)
theorem dX6_putBlank_16 : decode cX6_putBlank 16 = .ok (.isub, 1) := dk_100 (blk_at bk_cX6_putBlank_0 16 rfl)
theorem dX6_putBlank_17 : decode cX6_putBlank 17 = .ok (.baload, 1) := dk_51 (blk_at bk_cX6_putBlank_0 17 rfl)
theorem dX6_putBlank_18 : decode cX6_putBlank 18 = .ok (.invokestatic 151, 3) := dq_184 bk_cX6_putBlank_0 18 rfl rfl
theorem dX6_putBlank_21 : decode cX6_putBlank 21 = .ok (.ifCond .ne 20, 3) := dq_154 bk_cX6_putBlank_0 21 rfl (by decide)
theorem dX6_putBlank_24 : decode cX6_putBlank 24 = .ok (.aload_n 0, 1) := dk_42 (blk_at bk_cX6_putBlank_0 24 rfl)
theorem dX6_putBlank_25 : decode cX6_putBlank 25 = .ok (.getfield 9, 3) := dq_180 bk_cX6_putBlank_0 25 rfl rfl
theorem dX6_putBlank_28 : decode cX6_putBlank 28 = .ok (.aload_n 0, 1) := dk_42 (blk_at bk_cX6_putBlank_0 28 rfl)
theorem dX6_putBlank_29 : decode cX6_putBlank 29 = .ok (.getfield 15, 3) := dq_180 bk_cX6_putBlank_0 29 rfl rfl
theorem dX6_putBlank_32 : decode cX6_putBlank 32 = .ok (.iconst 1, 1) := dk_4 (blk_at bk_cX6_putBlank_0 32 rfl)
theorem dX6_putBlank_33 : decode cX6_putBlank 33 = .ok (.isub, 1) := dk_100 (blk_at bk_cX6_putBlank_0 33 rfl)
theorem dX6_putBlank_34 : decode cX6_putBlank 34 = .ok (.baload, 1) := dk_51 (blk_at bk_cX6_putBlank_0 34 rfl)
theorem dX6_putBlank_35 : decode cX6_putBlank 35 = .ok (.invokestatic 155, 3) := dq_184 bk_cX6_putBlank_0 35 rfl rfl
theorem bk_cX6_putBlank_38 : (cX6_putBlank.data.toList.drop 38).take 10 = [153, 0, 9, 42, 16, 32, 182, 0, 32, 177] := by decide +kernel
theorem dX6_putBlank_38 : decode cX6_putBlank 38 = .ok (.ifCond .eq 9, 3) := dq_153 bk_cX6_putBlank_38 0 rfl (by decide)
theorem dX6_putBlank_41 : decode cX6_putBlank 41 = .ok (.aload_n 0, 1) := dk_42 (blk_at bk_cX6_putBlank_38 3 rfl)
theorem dX6_putBlank_42 : decode cX6_putBlank 42 = .ok (.bipush 32, 2) := dq_16 bk_cX6_putBlank_38 4 rfl (by decide)
theorem dX6_putBlank_44 : decode cX6_putBlank 44 = .ok (.invokevirtual 32, 3) := dq_182 bk_cX6_putBlank_38 6 rfl rfl
theorem dX6_putBlank_47 : decode cX6_putBlank 47 = .ok (.return_, 1) := dk_177 (blk_at bk_cX6_putBlank_38 9 rfl)
theorem bk_cX6_putSign_0 : (cX6_putSign.data.toList.drop 0).take 32 = [42, 180, 0, 15, 17, 9, 96, 162, 0, 24, 42, 180, 0, 9, 42, 180, 0, 15, 27, 145, 84, 42, 89, 180, 0, 15, 4, 96, 181, 0, 15, 177] := by decide +kernel
theorem dX6_putSign_0 : decode cX6_putSign 0 = .ok (.aload_n 0, 1) := dk_42 (blk_at bk_cX6_putSign_0 0 rfl)
theorem dX6_putSign_1 : decode cX6_putSign 1 = .ok (.getfield 15, 3) := dq_180 bk_cX6_putSign_0 1 rfl rfl
theorem dX6_putSign_4 : decode cX6_putSign 4 = .ok (.sipush 2400, 3) := dq_17 bk_cX6_putSign_0 4 rfl (by decide)
theorem dX6_putSign_7 : decode cX6_putSign 7 = .ok (.if_icmp .ge 24, 3) := dq_162 bk_cX6_putSign_0 7 rfl (by decide)
theorem dX6_putSign_10 : decode cX6_putSign 10 = .ok (.aload_n 0, 1) := dk_42 (blk_at bk_cX6_putSign_0 10 rfl)
theorem dX6_putSign_11 : decode cX6_putSign 11 = .ok (.getfield 9, 3) := dq_180 bk_cX6_putSign_0 11 rfl rfl
theorem dX6_putSign_14 : decode cX6_putSign 14 = .ok (.aload_n 0, 1) := dk_42 (blk_at bk_cX6_putSign_0 14 rfl)
theorem dX6_putSign_15 : decode cX6_putSign 15 = .ok (.getfield 15, 3) := dq_180 bk_cX6_putSign_0 15 rfl rfl
theorem dX6_putSign_18 : decode cX6_putSign 18 = .ok (.iload_n 1, 1) := dk_27 (blk_at bk_cX6_putSign_0 18 rfl)
theorem dX6_putSign_19 : decode cX6_putSign 19 = .ok (.i2b, 1) := dk_145 (blk_at bk_cX6_putSign_0 19 rfl)
theorem dX6_putSign_20 : decode cX6_putSign 20 = .ok (.bastore, 1) := dk_84 (blk_at bk_cX6_putSign_0 20 rfl)
theorem dX6_putSign_21 : decode cX6_putSign 21 = .ok (.aload_n 0, 1) := dk_42 (blk_at bk_cX6_putSign_0 21 rfl)
theorem dX6_putSign_22 : decode cX6_putSign 22 = .ok (.dup, 1) := dk_89 (blk_at bk_cX6_putSign_0 22 rfl)
theorem dX6_putSign_23 : decode cX6_putSign 23 = .ok (.getfield 15, 3) := dq_180 bk_cX6_putSign_0 23 rfl rfl
theorem dX6_putSign_26 : decode cX6_putSign 26 = .ok (.iconst 1, 1) := dk_4 (blk_at bk_cX6_putSign_0 26 rfl)
theorem dX6_putSign_27 : decode cX6_putSign 27 = .ok (.iadd, 1) := dk_96 (blk_at bk_cX6_putSign_0 27 rfl)
theorem dX6_putSign_28 : decode cX6_putSign 28 = .ok (.putfield 15, 3) := dq_181 bk_cX6_putSign_0 28 rfl rfl
theorem dX6_putSign_31 : decode cX6_putSign 31 = .ok (.return_, 1) := dk_177 (blk_at bk_cX6_putSign_0 31 rfl)
theorem dX7_init_8 : decode cX7_init 8 = .ok (.newarray .byte, 2) := by decide +kernel
theorem bk_cX7_init_0 : (cX7_init.data.toList.drop 0).take 40 = [42, 183, 0, 1, 42, 17, 4, 176, 188, 8, 181, 0, 9, 42, 3, 181, 0, 13, 42, 187, 0, 17, 89, 183, 0, 19, 181, 0, 20, 42, 187, 0, 24, 89, 183, 0, 26, 181, 0, 27] := by decide +kernel
theorem dX7_init_0 : decode cX7_init 0 = .ok (.aload_n 0, 1) := dk_42 (blk_at bk_cX7_init_0 0 rfl)
theorem dX7_init_1 : decode cX7_init 1 = .ok (.invokespecial 1, 3) := dq_183 bk_cX7_init_0 1 rfl rfl
theorem dX7_init_4 : decode cX7_init 4 = .ok (.aload_n 0, 1) := dk_42 (blk_at bk_cX7_init_0 4 rfl)
theorem dX7_init_5 : decode cX7_init 5 = .ok (.sipush 1200, 3) := dq_17 bk_cX7_init_0 5 rfl (by decide)
theorem dX7_init_10 : decode cX7_init 10 = .ok (.putfield 9, 3) := dq_181 bk_cX7_init_0 10 rfl rfl
theorem dX7_init_13 : decode cX7_init 13 = .ok (.aload_n 0, 1) := dk_42 (blk_at bk_cX7_init_0 13 rfl)
theorem dX7_init_14 : decode cX7_init 14 = .ok (.iconst 0, 1) := dk_3 (blk_at bk_cX7_init_0 14 rfl)
theorem dX7_init_15 : decode cX7_init 15 = .ok (.putfield 13, 3) := dq_181 bk_cX7_init_0 15 rfl rfl
theorem dX7_init_18 : decode cX7_init 18 = .ok (.aload_n 0, 1) := dk_42 (blk_at bk_cX7_init_0 18 rfl)
theorem dX7_init_19 : decode cX7_init 19 = .ok (.new 17, 3) := dq_187 bk_cX7_init_0 19 rfl rfl
theorem dX7_init_22 : decode cX7_init 22 = .ok (.dup, 1) := dk_89 (blk_at bk_cX7_init_0 22 rfl)
theorem dX7_init_23 : decode cX7_init 23 = .ok (.invokespecial 19, 3) := dq_183 bk_cX7_init_0 23 rfl rfl
theorem dX7_init_26 : decode cX7_init 26 = .ok (.putfield 20, 3) := dq_181 bk_cX7_init_0 26 rfl rfl
theorem dX7_init_29 : decode cX7_init 29 = .ok (.aload_n 0, 1) := dk_42 (blk_at bk_cX7_init_0 29 rfl)
theorem dX7_init_30 : decode cX7_init 30 = .ok (.new 24, 3) := dq_187 bk_cX7_init_0 30 rfl rfl
theorem dX7_init_33 : decode cX7_init 33 = .ok (.dup, 1) := dk_89 (blk_at bk_cX7_init_0 33 rfl)
theorem dX7_init_34 : decode cX7_init 34 = .ok (.invokespecial 26, 3) := dq_183 bk_cX7_init_0 34 rfl rfl
theorem dX7_init_37 : decode cX7_init 37 = .ok (.putfield 27, 3) := dq_181 bk_cX7_init_0 37 rfl rfl
