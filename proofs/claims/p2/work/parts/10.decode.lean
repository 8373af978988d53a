theorem dX0_init_0 : decode cX0_init 0 = .ok (.aload_n 0, 1) := by decide +kernel
theorem dX0_init_1 : decode cX0_init 1 = .ok (.invokespecial 1, 3) := by decide +kernel
theorem dX0_init_4 : decode cX0_init 4 = .ok (.aload_n 0, 1) := by decide +kernel
theorem dX0_init_5 : decode cX0_init 5 = .ok (.iconst 0, 1) := by decide +kernel
theorem dX0_init_6 : decode cX0_init 6 = .ok (.putfield 7, 3) := by decide +kernel
theorem dX0_init_9 : decode cX0_init 9 = .ok (.aload_n 0, 1) := by decide +kernel
theorem dX0_init_10 : decode cX0_init 10 = .ok (.iconst 0, 1) := by decide +kernel
theorem dX0_init_11 : decode cX0_init 11 = .ok (.putfield 13, 3) := by decide +kernel
theorem dX0_init_14 : decode cX0_init 14 = .ok (.aload_n 0, 1) := by decide +kernel
theorem dX0_init_15 : decode cX0_init 15 = .ok (.iconst 0, 1) := by decide +kernel
theorem dX0_init_16 : decode cX0_init 16 = .ok (.putfield 16, 3) := by decide +kernel
theorem dX0_init_19 : decode cX0_init 19 = .ok (.aload_n 0, 1) := by decide +kernel
theorem dX0_init_20 : decode cX0_init 20 = .ok (.iconst 0, 1) := by decide +kernel
theorem dX0_init_21 : decode cX0_init 21 = .ok (.putfield 19, 3) := by decide +kernel
theorem dX0_init_24 : decode cX0_init 24 = .ok (.aload_n 0, 1) := by decide +kernel
theorem dX0_init_25 : decode cX0_init 25 = .ok (.iconst 0, 1) := by decide +kernel
theorem dX0_init_26 : decode cX0_init 26 = .ok (.putfield 22, 3) := by decide +kernel
theorem dX0_init_29 : decode cX0_init 29 = .ok (.aload_n 0, 1) := by decide +kernel
theorem dX0_init_30 : decode cX0_init 30 = .ok (.iconst 0, 1) := by decide +kernel
theorem dX0_init_31 : decode cX0_init 31 = .ok (.putfield 25, 3) := by decide +kernel
theorem dX0_init_34 : decode cX0_init 34 = .ok (.aload_n 0, 1) := by decide +kernel
theorem dX0_init_35 : decode cX0_init 35 = .ok (.iconst 0, 1) := by decide +kernel
theorem dX0_init_36 : decode cX0_init 36 = .ok (.putfield 28, 3) := by decide +kernel
theorem dX0_init_39 : decode cX0_init 39 = .ok (.return_, 1) := by decide +kernel
theorem dX0_copyFrom_0 : decode cX0_copyFrom 0 = .ok (.aload_n 0, 1) := by decide +kernel
theorem dX0_copyFrom_1 : decode cX0_copyFrom 1 = .ok (.aload_n 1, 1) := by decide +kernel
theorem dX0_copyFrom_2 : decode cX0_copyFrom 2 = .ok (.getfield 7, 3) := by decide +kernel
theorem dX0_copyFrom_5 : decode cX0_copyFrom 5 = .ok (.aload_n 1, 1) := by decide +kernel
theorem dX0_copyFrom_6 : decode cX0_copyFrom 6 = .ok (.getfield 13, 3) := by decide +kernel
theorem dX0_copyFrom_9 : decode cX0_copyFrom 9 = .ok (.aload_n 1, 1) := by decide +kernel
theorem dX0_copyFrom_10 : decode cX0_copyFrom 10 = .ok (.getfield 16, 3) := by decide +kernel
theorem dX0_copyFrom_13 : decode cX0_copyFrom 13 = .ok (.aload_n 1, 1) := by decide +kernel
theorem dX0_copyFrom_14 : decode cX0_copyFrom 14 = .ok (.getfield 19, 3) := by decide +kernel
theorem dX0_copyFrom_17 : decode cX0_copyFrom 17 = .ok (.invokevirtual 31, 3) := by decide +kernel
theorem dX0_copyFrom_20 : decode cX0_copyFrom 20 = .ok (.aload_n 0, 1) := by decide +kernel
theorem dX0_copyFrom_21 : decode cX0_copyFrom 21 = .ok (.aload_n 1, 1) := by decide +kernel
theorem dX0_copyFrom_22 : decode cX0_copyFrom 22 = .ok (.getfield 22, 3) := by decide +kernel
theorem dX0_copyFrom_25 : decode cX0_copyFrom 25 = .ok (.aload_n 1, 1) := by decide +kernel
theorem dX0_copyFrom_26 : decode cX0_copyFrom 26 = .ok (.getfield 25, 3) := by decide +kernel
theorem dX0_copyFrom_29 : decode cX0_copyFrom 29 = .ok (.aload_n 1, 1) := by decide +kernel
theorem dX0_copyFrom_30 : decode cX0_copyFrom 30 = .ok (.getfield 28, 3) := by decide +kernel
theorem dX0_copyFrom_33 : decode cX0_copyFrom 33 = .ok (.invokevirtual 35, 3) := by decide +kernel
theorem dX0_copyFrom_36 : decode cX0_copyFrom 36 = .ok (.return_, 1) := by decide +kernel
theorem dX0_placeAt_0 : decode cX0_placeAt 0 = .ok (.aload_n 0, 1) := by decide +kernel
theorem dX0_placeAt_1 : decode cX0_placeAt 1 = .ok (.iload_n 1, 1) := by decide +kernel
theorem dX0_placeAt_2 : decode cX0_placeAt 2 = .ok (.putfield 7, 3) := by decide +kernel
theorem dX0_placeAt_5 : decode cX0_placeAt 5 = .ok (.aload_n 0, 1) := by decide +kernel
theorem dX0_placeAt_6 : decode cX0_placeAt 6 = .ok (.iload_n 2, 1) := by decide +kernel
theorem dX0_placeAt_7 : decode cX0_placeAt 7 = .ok (.putfield 13, 3) := by decide +kernel
theorem dX0_placeAt_10 : decode cX0_placeAt 10 = .ok (.aload_n 0, 1) := by decide +kernel
theorem dX0_placeAt_11 : decode cX0_placeAt 11 = .ok (.iload_n 3, 1) := by decide +kernel
theorem dX0_placeAt_12 : decode cX0_placeAt 12 = .ok (.putfield 16, 3) := by decide +kernel
theorem dX0_placeAt_15 : decode cX0_placeAt 15 = .ok (.aload_n 0, 1) := by decide +kernel
theorem dX0_placeAt_16 : decode cX0_placeAt 16 = .ok (.iload 4, 2) := by decide +kernel
theorem dX0_placeAt_18 : decode cX0_placeAt 18 = .ok (.putfield 19, 3) := by decide +kernel
theorem dX0_placeAt_21 : decode cX0_placeAt 21 = .ok (.return_, 1) := by decide +kernel
theorem dX0_span_0 : decode cX0_span 0 = .ok (.aload_n 0, 1) := by decide +kernel
theorem dX0_span_1 : decode cX0_span 1 = .ok (.iload_n 1, 1) := by decide +kernel
theorem dX0_span_2 : decode cX0_span 2 = .ok (.putfield 22, 3) := by decide +kernel
theorem dX0_span_5 : decode cX0_span 5 = .ok (.aload_n 0, 1) := by decide +kernel
theorem dX0_span_6 : decode cX0_span 6 = .ok (.iload_n 2, 1) := by decide +kernel
theorem dX0_span_7 : decode cX0_span 7 = .ok (.putfield 25, 3) := by decide +kernel
theorem dX0_span_10 : decode cX0_span 10 = .ok (.aload_n 0, 1) := by decide +kernel
theorem dX0_span_11 : decode cX0_span 11 = .ok (.iload_n 3, 1) := by decide +kernel
theorem dX0_span_12 : decode cX0_span 12 = .ok (.putfield 28, 3) := by decide +kernel
theorem dX0_span_15 : decode cX0_span 15 = .ok (.return_, 1) := by decide +kernel
theorem dX0_wantedBits_0 : decode cX0_wantedBits 0 = .ok (.aload_n 0, 1) := by decide +kernel
theorem dX0_wantedBits_1 : decode cX0_wantedBits 1 = .ok (.getfield 22, 3) := by decide +kernel
theorem dX0_wantedBits_4 : decode cX0_wantedBits 4 = .ok (.aload_n 0, 1) := by decide +kernel
theorem dX0_wantedBits_5 : decode cX0_wantedBits 5 = .ok (.getfield 25, 3) := by decide +kernel
theorem dX0_wantedBits_8 : decode cX0_wantedBits 8 = .ok (.invokestatic 39, 3) := by decide +kernel
theorem dX0_wantedBits_11 : decode cX0_wantedBits 11 = .ok (.ireturn, 1) := by decide +kernel
theorem dX1_init_0 : decode cX1_init 0 = .ok (.aload_n 0, 1) := by decide +kernel
theorem dX1_init_1 : decode cX1_init 1 = .ok (.invokespecial 3, 3) := by decide +kernel
theorem dX1_init_4 : decode cX1_init 4 = .ok (.aload_n 0, 1) := by decide +kernel
theorem dX1_init_5 : decode cX1_init 5 = .ok (.iconst 0, 1) := by decide +kernel
theorem dX1_init_6 : decode cX1_init 6 = .ok (.putfield 9, 3) := by decide +kernel
theorem dX1_init_9 : decode cX1_init 9 = .ok (.aload_n 0, 1) := by decide +kernel
theorem dX1_init_10 : decode cX1_init 10 = .ok (.bipush 48, 2) := by decide +kernel
theorem dX1_init_12 : decode cX1_init 12 = .ok (.newarray .int, 2) := by decide +kernel
theorem dX1_init_14 : decode cX1_init 14 = .ok (.putfield 15, 3) := by decide +kernel
theorem dX1_init_17 : decode cX1_init 17 = .ok (.return_, 1) := by decide +kernel
theorem dX1_copyFrom_0 : decode cX1_copyFrom 0 = .ok (.aload_n 0, 1) := by decide +kernel
theorem dX1_copyFrom_1 : decode cX1_copyFrom 1 = .ok (.aload_n 1, 1) := by decide +kernel
theorem dX1_copyFrom_2 : decode cX1_copyFrom 2 = .ok (.getfield 9, 3) := by decide +kernel
theorem dX1_copyFrom_5 : decode cX1_copyFrom 5 = .ok (.putfield 9, 3) := by decide +kernel
theorem dX1_copyFrom_8 : decode cX1_copyFrom 8 = .ok (.iconst 0, 1) := by decide +kernel
theorem dX1_copyFrom_9 : decode cX1_copyFrom 9 = .ok (.istore_n 2, 1) := by decide +kernel
theorem dX1_copyFrom_10 : decode cX1_copyFrom 10 = .ok (.iload_n 2, 1) := by decide +kernel
theorem dX1_copyFrom_11 : decode cX1_copyFrom 11 = .ok (.aload_n 0, 1) := by decide +kernel
theorem dX1_copyFrom_12 : decode cX1_copyFrom 12 = .ok (.getfield 15, 3) := by decide +kernel
theorem dX1_copyFrom_15 : decode cX1_copyFrom 15 = .ok (.arraylength, 1) := by decide +kernel
theorem dX1_copyFrom_16 : decode cX1_copyFrom 16 = .ok (.if_icmp .ge 21, 3) := by decide +kernel
theorem dX1_copyFrom_19 : decode cX1_copyFrom 19 = .ok (.aload_n 0, 1) := by decide +kernel
theorem dX1_copyFrom_20 : decode cX1_copyFrom 20 = .ok (.getfield 15, 3) := by decide +kernel
theorem dX1_copyFrom_23 : decode cX1_copyFrom 23 = .ok (.iload_n 2, 1) := by decide +kernel
theorem dX1_copyFrom_24 : decode cX1_copyFrom 24 = .ok (.aload_n 1, 1) := by decide +kernel
theorem dX1_copyFrom_25 : decode cX1_copyFrom 25 = .ok (.getfield 15, 3) := by decide +kernel
theorem dX1_copyFrom_28 : decode cX1_copyFrom 28 = .ok (.iload_n 2, 1) := by decide +kernel
theorem dX1_copyFrom_29 : decode cX1_copyFrom 29 = .ok (.iaload, 1) := by decide +kernel
theorem dX1_copyFrom_30 : decode cX1_copyFrom 30 = .ok (.iastore, 1) := by decide +kernel
theorem dX1_copyFrom_31 : decode cX1_copyFrom 31 = .ok (.iinc 2 1, 3) := by decide +kernel
theorem dX1_copyFrom_34 : decode cX1_copyFrom 34 = .ok (.goto (-24), 3) := by decide +kernel
theorem dX1_copyFrom_37 : decode cX1_copyFrom 37 = .ok (.return_, 1) := by decide +kernel
theorem dX1_letterOf_0 : decode cX1_letterOf 0 = .ok (.aload_n 0, 1) := by decide +kernel
theorem dX1_letterOf_1 : decode cX1_letterOf 1 = .ok (.getfield 15, 3) := by decide +kernel
theorem dX1_letterOf_4 : decode cX1_letterOf 4 = .ok (.iload_n 1, 1) := by decide +kernel
theorem dX1_letterOf_5 : decode cX1_letterOf 5 = .ok (.bipush 6, 2) := by decide +kernel
theorem dX1_letterOf_7 : decode cX1_letterOf 7 = .ok (.imul, 1) := by decide +kernel
theorem dX1_letterOf_8 : decode cX1_letterOf 8 = .ok (.iload_n 2, 1) := by decide +kernel
theorem dX1_letterOf_9 : decode cX1_letterOf 9 = .ok (.iadd, 1) := by decide +kernel
theorem dX1_letterOf_10 : decode cX1_letterOf 10 = .ok (.iaload, 1) := by decide +kernel
theorem dX1_letterOf_11 : decode cX1_letterOf 11 = .ok (.ireturn, 1) := by decide +kernel
theorem dX1_carrierNamed_0 : decode cX1_carrierNamed 0 = .ok (.iconst 0, 1) := by decide +kernel
theorem dX1_carrierNamed_1 : decode cX1_carrierNamed 1 = .ok (.istore 4, 2) := by decide +kernel
theorem dX1_carrierNamed_3 : decode cX1_carrierNamed 3 = .ok (.iload 4, 2) := by decide +kernel
theorem dX1_carrierNamed_5 : decode cX1_carrierNamed 5 = .ok (.aload_n 0, 1) := by decide +kernel
theorem dX1_carrierNamed_6 : decode cX1_carrierNamed 6 = .ok (.getfield 9, 3) := by decide +kernel
theorem dX1_carrierNamed_9 : decode cX1_carrierNamed 9 = .ok (.if_icmp .ge 24, 3) := by decide +kernel
theorem dX1_carrierNamed_12 : decode cX1_carrierNamed 12 = .ok (.aload_n 0, 1) := by decide +kernel
theorem dX1_carrierNamed_13 : decode cX1_carrierNamed 13 = .ok (.iload 4, 2) := by decide +kernel
theorem dX1_carrierNamed_15 : decode cX1_carrierNamed 15 = .ok (.aload_n 1, 1) := by decide +kernel
theorem dX1_carrierNamed_16 : decode cX1_carrierNamed 16 = .ok (.iload_n 2, 1) := by decide +kernel
theorem dX1_carrierNamed_17 : decode cX1_carrierNamed 17 = .ok (.iload_n 3, 1) := by decide +kernel
theorem dX1_carrierNamed_18 : decode cX1_carrierNamed 18 = .ok (.invokevirtual 19, 3) := by decide +kernel
theorem dX1_carrierNamed_21 : decode cX1_carrierNamed 21 = .ok (.ifCond .eq 6, 3) := by decide +kernel
theorem dX1_carrierNamed_24 : decode cX1_carrierNamed 24 = .ok (.iload 4, 2) := by decide +kernel
theorem dX1_carrierNamed_26 : decode cX1_carrierNamed 26 = .ok (.ireturn, 1) := by decide +kernel
theorem dX1_carrierNamed_27 : decode cX1_carrierNamed 27 = .ok (.iinc 4 1, 3) := by decide +kernel
theorem dX1_carrierNamed_30 : decode cX1_carrierNamed 30 = .ok (.goto (-27), 3) := by decide +kernel
theorem dX1_carrierNamed_33 : decode cX1_carrierNamed 33 = .ok (.iconst (-1), 1) := by decide +kernel
theorem dX1_carrierNamed_34 : decode cX1_carrierNamed 34 = .ok (.ireturn, 1) := by decide +kernel
theorem dX1_isNamed_0 : decode cX1_isNamed 0 = .ok (.iconst 0, 1) := by decide +kernel
theorem dX1_isNamed_1 : decode cX1_isNamed 1 = .ok (.istore 5, 2) := by decide +kernel
theorem dX1_isNamed_3 : decode cX1_isNamed 3 = .ok (.iload 5, 2) := by decide +kernel
theorem dX1_isNamed_5 : decode cX1_isNamed 5 = .ok (.bipush 6, 2) := by decide +kernel
theorem dX1_isNamed_7 : decode cX1_isNamed 7 = .ok (.if_icmp .ge 54, 3) := by decide +kernel
theorem dX1_isNamed_10 : decode cX1_isNamed 10 = .ok (.iload_n 3, 1) := by decide +kernel
theorem dX1_isNamed_11 : decode cX1_isNamed 11 = .ok (.iload 5, 2) := by decide +kernel
theorem dX1_isNamed_13 : decode cX1_isNamed 13 = .ok (.iadd, 1) := by decide +kernel
theorem dX1_isNamed_14 : decode cX1_isNamed 14 = .ok (.iload 4, 2) := by decide +kernel
theorem dX1_isNamed_16 : decode cX1_isNamed 16 = .ok (.if_icmp .ge 17, 3) := by decide +kernel
theorem dX1_isNamed_19 : decode cX1_isNamed 19 = .ok (.aload_n 2, 1) := by decide +kernel
theorem dX1_isNamed_20 : decode cX1_isNamed 20 = .ok (.iload_n 3, 1) := by decide +kernel
theorem dX1_isNamed_21 : decode cX1_isNamed 21 = .ok (.iload 5, 2) := by decide +kernel
theorem dX1_isNamed_23 : decode cX1_isNamed 23 = .ok (.iadd, 1) := by decide +kernel
theorem dX1_isNamed_24 : decode cX1_isNamed 24 = .ok (.baload, 1) := by decide +kernel
theorem dX1_isNamed_25 : decode cX1_isNamed 25 = .ok (.bipush 97, 2) := by decide +kernel
theorem dX1_isNamed_27 : decode cX1_isNamed 27 = .ok (.isub, 1) := by decide +kernel
theorem dX1_isNamed_28 : decode cX1_isNamed 28 = .ok (.iconst 1, 1) := by decide +kernel
theorem dX1_isNamed_29 : decode cX1_isNamed 29 = .ok (.iadd, 1) := by decide +kernel
theorem dX1_isNamed_30 : decode cX1_isNamed 30 = .ok (.goto 4, 3) := by decide +kernel
theorem dX1_isNamed_33 : decode cX1_isNamed 33 = .ok (.iconst 0, 1) := by decide +kernel
theorem dX1_isNamed_34 : decode cX1_isNamed 34 = .ok (.istore 6, 2) := by decide +kernel
theorem dX1_isNamed_36 : decode cX1_isNamed 36 = .ok (.aload_n 0, 1) := by decide +kernel
theorem dX1_isNamed_37 : decode cX1_isNamed 37 = .ok (.getfield 15, 3) := by decide +kernel
theorem dX1_isNamed_40 : decode cX1_isNamed 40 = .ok (.iload_n 1, 1) := by decide +kernel
theorem dX1_isNamed_41 : decode cX1_isNamed 41 = .ok (.bipush 6, 2) := by decide +kernel
theorem dX1_isNamed_43 : decode cX1_isNamed 43 = .ok (.imul, 1) := by decide +kernel
theorem dX1_isNamed_44 : decode cX1_isNamed 44 = .ok (.iload 5, 2) := by decide +kernel
theorem dX1_isNamed_46 : decode cX1_isNamed 46 = .ok (.iadd, 1) := by decide +kernel
theorem dX1_isNamed_47 : decode cX1_isNamed 47 = .ok (.iaload, 1) := by decide +kernel
theorem dX1_isNamed_48 : decode cX1_isNamed 48 = .ok (.iload 6, 2) := by decide +kernel
theorem dX1_isNamed_50 : decode cX1_isNamed 50 = .ok (.if_icmp .eq 5, 3) := by decide +kernel
theorem dX1_isNamed_53 : decode cX1_isNamed 53 = .ok (.iconst 0, 1) := by decide +kernel
theorem dX1_isNamed_54 : decode cX1_isNamed 54 = .ok (.ireturn, 1) := by decide +kernel
theorem dX1_isNamed_55 : decode cX1_isNamed 55 = .ok (.iinc 5 1, 3) := by decide +kernel
theorem dX1_isNamed_58 : decode cX1_isNamed 58 = .ok (.goto (-55), 3) := by decide +kernel
theorem dX1_isNamed_61 : decode cX1_isNamed 61 = .ok (.iconst 1, 1) := by decide +kernel
theorem dX1_isNamed_62 : decode cX1_isNamed 62 = .ok (.ireturn, 1) := by decide +kernel
theorem dX1_add_0 : decode cX1_add 0 = .ok (.aload_n 0, 1) := by decide +kernel
theorem dX1_add_1 : decode cX1_add 1 = .ok (.getfield 9, 3) := by decide +kernel
theorem dX1_add_4 : decode cX1_add 4 = .ok (.bipush 7, 2) := by decide +kernel
theorem dX1_add_6 : decode cX1_add 6 = .ok (.invokestatic 23, 3) := by decide +kernel
theorem dX1_add_9 : decode cX1_add 9 = .ok (.istore 4, 2) := by decide +kernel
theorem dX1_add_11 : decode cX1_add 11 = .ok (.iconst 0, 1) := by decide +kernel
theorem dX1_add_12 : decode cX1_add 12 = .ok (.istore 5, 2) := by decide +kernel
theorem dX1_add_14 : decode cX1_add 14 = .ok (.iload 5, 2) := by decide +kernel
theorem dX1_add_16 : decode cX1_add 16 = .ok (.bipush 6, 2) := by decide +kernel
theorem dX1_add_18 : decode cX1_add 18 = .ok (.if_icmp .ge 49, 3) := by decide +kernel
theorem dX1_add_21 : decode cX1_add 21 = .ok (.iload_n 2, 1) := by decide +kernel
theorem dX1_add_22 : decode cX1_add 22 = .ok (.iload 5, 2) := by decide +kernel
theorem dX1_add_24 : decode cX1_add 24 = .ok (.iadd, 1) := by decide +kernel
theorem dX1_add_25 : decode cX1_add 25 = .ok (.iload_n 3, 1) := by decide +kernel
theorem dX1_add_26 : decode cX1_add 26 = .ok (.if_icmp .ge 17, 3) := by decide +kernel
theorem dX1_add_29 : decode cX1_add 29 = .ok (.aload_n 1, 1) := by decide +kernel
theorem dX1_add_30 : decode cX1_add 30 = .ok (.iload_n 2, 1) := by decide +kernel
theorem dX1_add_31 : decode cX1_add 31 = .ok (.iload 5, 2) := by decide +kernel
theorem dX1_add_33 : decode cX1_add 33 = .ok (.iadd, 1) := by decide +kernel
theorem dX1_add_34 : decode cX1_add 34 = .ok (.baload, 1) := by decide +kernel
theorem dX1_add_35 : decode cX1_add 35 = .ok (.bipush 97, 2) := by decide +kernel
theorem dX1_add_37 : decode cX1_add 37 = .ok (.isub, 1) := by decide +kernel
theorem dX1_add_38 : decode cX1_add 38 = .ok (.iconst 1, 1) := by decide +kernel
theorem dX1_add_39 : decode cX1_add 39 = .ok (.iadd, 1) := by decide +kernel
theorem dX1_add_40 : decode cX1_add 40 = .ok (.goto 4, 3) := by decide +kernel
theorem dX1_add_43 : decode cX1_add 43 = .ok (.iconst 0, 1) := by decide +kernel
theorem dX1_add_44 : decode cX1_add 44 = .ok (.istore 6, 2) := by decide +kernel
theorem dX1_add_46 : decode cX1_add 46 = .ok (.aload_n 0, 1) := by decide +kernel
theorem dX1_add_47 : decode cX1_add 47 = .ok (.getfield 15, 3) := by decide +kernel
theorem dX1_add_50 : decode cX1_add 50 = .ok (.iload 4, 2) := by decide +kernel
theorem dX1_add_52 : decode cX1_add 52 = .ok (.bipush 6, 2) := by decide +kernel
theorem dX1_add_54 : decode cX1_add 54 = .ok (.imul, 1) := by decide +kernel
theorem dX1_add_55 : decode cX1_add 55 = .ok (.iload 5, 2) := by decide +kernel
theorem dX1_add_57 : decode cX1_add 57 = .ok (.iadd, 1) := by decide +kernel
theorem dX1_add_58 : decode cX1_add 58 = .ok (.iload 6, 2) := by decide +kernel
theorem dX1_add_60 : decode cX1_add 60 = .ok (.iastore, 1) := by decide +kernel
theorem dX1_add_61 : decode cX1_add 61 = .ok (.iinc 5 1, 3) := by decide +kernel
theorem dX1_add_64 : decode cX1_add 64 = .ok (.goto (-50), 3) := by decide +kernel
theorem dX1_add_67 : decode cX1_add 67 = .ok (.aload_n 0, 1) := by decide +kernel
theorem dX1_add_68 : decode cX1_add 68 = .ok (.iload 4, 2) := by decide +kernel
theorem dX1_add_70 : decode cX1_add 70 = .ok (.iconst 1, 1) := by decide +kernel
theorem dX1_add_71 : decode cX1_add 71 = .ok (.iadd, 1) := by decide +kernel
theorem dX1_add_72 : decode cX1_add 72 = .ok (.putfield 9, 3) := by decide +kernel
theorem dX1_add_75 : decode cX1_add 75 = .ok (.return_, 1) := by decide +kernel
theorem dX2_init_0 : decode cX2_init 0 = .ok (.aload_n 0, 1) := by decide +kernel
theorem dX2_init_1 : decode cX2_init 1 = .ok (.invokespecial 3, 3) := by decide +kernel
theorem dX2_init_4 : decode cX2_init 4 = .ok (.aload_n 0, 1) := by decide +kernel
theorem dX2_init_5 : decode cX2_init 5 = .ok (.new 9, 3) := by decide +kernel
theorem dX2_init_8 : decode cX2_init 8 = .ok (.dup, 1) := by decide +kernel
theorem dX2_init_9 : decode cX2_init 9 = .ok (.invokespecial 11, 3) := by decide +kernel
theorem dX2_init_12 : decode cX2_init 12 = .ok (.putfield 12, 3) := by decide +kernel
theorem dX2_init_15 : decode cX2_init 15 = .ok (.aload_n 0, 1) := by decide +kernel
theorem dX2_init_16 : decode cX2_init 16 = .ok (.bipush 56, 2) := by decide +kernel
theorem dX2_init_18 : decode cX2_init 18 = .ok (.newarray .int, 2) := by decide +kernel
theorem dX2_init_20 : decode cX2_init 20 = .ok (.putfield 18, 3) := by decide +kernel
theorem dX2_init_23 : decode cX2_init 23 = .ok (.aload_n 0, 1) := by decide +kernel
theorem dX2_init_24 : decode cX2_init 24 = .ok (.bipush 24, 2) := by decide +kernel
theorem dX2_init_26 : decode cX2_init 26 = .ok (.newarray .int, 2) := by decide +kernel
theorem dX2_init_28 : decode cX2_init 28 = .ok (.putfield 22, 3) := by decide +kernel
theorem dX2_init_31 : decode cX2_init 31 = .ok (.aload_n 0, 1) := by decide +kernel
theorem dX2_init_32 : decode cX2_init 32 = .ok (.bipush 24, 2) := by decide +kernel
theorem dX2_init_34 : decode cX2_init 34 = .ok (.newarray .int, 2) := by decide +kernel
theorem dX2_init_36 : decode cX2_init 36 = .ok (.putfield 25, 3) := by decide +kernel
theorem dX2_init_39 : decode cX2_init 39 = .ok (.aload_n 0, 1) := by decide +kernel
theorem dX2_init_40 : decode cX2_init 40 = .ok (.iconst 0, 1) := by decide +kernel
theorem dX2_init_41 : decode cX2_init 41 = .ok (.putfield 28, 3) := by decide +kernel
theorem dX2_init_44 : decode cX2_init 44 = .ok (.return_, 1) := by decide +kernel
theorem dX2_firstOf_0 : decode cX2_firstOf 0 = .ok (.aload_n 0, 1) := by decide +kernel
theorem dX2_firstOf_1 : decode cX2_firstOf 1 = .ok (.getfield 12, 3) := by decide +kernel
theorem dX2_firstOf_4 : decode cX2_firstOf 4 = .ok (.aload_n 1, 1) := by decide +kernel
theorem dX2_firstOf_5 : decode cX2_firstOf 5 = .ok (.invokevirtual 32, 3) := by decide +kernel
theorem dX2_firstOf_8 : decode cX2_firstOf 8 = .ok (.aload_n 0, 1) := by decide +kernel
theorem dX2_firstOf_9 : decode cX2_firstOf 9 = .ok (.invokevirtual 36, 3) := by decide +kernel
theorem dX2_firstOf_12 : decode cX2_firstOf 12 = .ok (.aload_n 0, 1) := by decide +kernel
theorem dX2_firstOf_13 : decode cX2_firstOf 13 = .ok (.aload_n 0, 1) := by decide +kernel
theorem dX2_firstOf_14 : decode cX2_firstOf 14 = .ok (.invokevirtual 39, 3) := by decide +kernel
theorem dX2_firstOf_17 : decode cX2_firstOf 17 = .ok (.iconst 1, 1) := by decide +kernel
theorem dX2_firstOf_18 : decode cX2_firstOf 18 = .ok (.invokevirtual 43, 3) := by decide +kernel
theorem dX2_firstOf_21 : decode cX2_firstOf 21 = .ok (.ireturn, 1) := by decide +kernel
theorem dX2_serve_0 : decode cX2_serve 0 = .ok (.aload_n 0, 1) := by decide +kernel
theorem dX2_serve_1 : decode cX2_serve 1 = .ok (.getfield 12, 3) := by decide +kernel
theorem dX2_serve_4 : decode cX2_serve 4 = .ok (.aload_n 1, 1) := by decide +kernel
theorem dX2_serve_5 : decode cX2_serve 5 = .ok (.invokevirtual 32, 3) := by decide +kernel
theorem dX2_serve_8 : decode cX2_serve 8 = .ok (.iload_n 2, 1) := by decide +kernel
theorem dX2_serve_9 : decode cX2_serve 9 = .ok (.ifCond .lt 35, 3) := by decide +kernel
theorem dX2_serve_12 : decode cX2_serve 12 = .ok (.iload_n 2, 1) := by decide +kernel
theorem dX2_serve_13 : decode cX2_serve 13 = .ok (.bipush 24, 2) := by decide +kernel
theorem dX2_serve_15 : decode cX2_serve 15 = .ok (.if_icmp .ge 29, 3) := by decide +kernel
theorem dX2_serve_18 : decode cX2_serve 18 = .ok (.aload_n 0, 1) := by decide +kernel
theorem dX2_serve_19 : decode cX2_serve 19 = .ok (.getfield 12, 3) := by decide +kernel
theorem dX2_serve_22 : decode cX2_serve 22 = .ok (.getfield 47, 3) := by decide +kernel
theorem dX2_serve_25 : decode cX2_serve 25 = .ok (.iload_n 2, 1) := by decide +kernel
theorem dX2_serve_26 : decode cX2_serve 26 = .ok (.dup2, 1) := by decide +kernel
theorem dX2_serve_27 : decode cX2_serve 27 = .ok (.iaload, 1) := by decide +kernel
theorem dX2_serve_28 : decode cX2_serve 28 = .ok (.iconst 1, 1) := by decide +kernel
theorem dX2_serve_29 : decode cX2_serve 29 = .ok (.iadd, 1) := by decide +kernel
theorem dX2_serve_30 : decode cX2_serve 30 = .ok (.iastore, 1) := by decide +kernel
theorem dX2_serve_31 : decode cX2_serve 31 = .ok (.aload_n 0, 1) := by decide +kernel
theorem dX2_serve_32 : decode cX2_serve 32 = .ok (.getfield 12, 3) := by decide +kernel
theorem dX2_serve_35 : decode cX2_serve 35 = .ok (.getfield 50, 3) := by decide +kernel
theorem dX2_serve_38 : decode cX2_serve 38 = .ok (.iload_n 2, 1) := by decide +kernel
theorem dX2_serve_39 : decode cX2_serve 39 = .ok (.dup2, 1) := by decide +kernel
theorem dX2_serve_40 : decode cX2_serve 40 = .ok (.iaload, 1) := by decide +kernel
theorem dX2_serve_41 : decode cX2_serve 41 = .ok (.iconst 1, 1) := by decide +kernel
theorem dX2_serve_42 : decode cX2_serve 42 = .ok (.iadd, 1) := by decide +kernel
theorem dX2_serve_43 : decode cX2_serve 43 = .ok (.iastore, 1) := by decide +kernel
theorem dX2_serve_44 : decode cX2_serve 44 = .ok (.aload_n 0, 1) := by decide +kernel
theorem dX2_serve_45 : decode cX2_serve 45 = .ok (.invokevirtual 36, 3) := by decide +kernel
theorem dX2_serve_48 : decode cX2_serve 48 = .ok (.aload_n 0, 1) := by decide +kernel
theorem dX2_serve_49 : decode cX2_serve 49 = .ok (.iconst 0, 1) := by decide +kernel
theorem dX2_serve_50 : decode cX2_serve 50 = .ok (.putfield 28, 3) := by decide +kernel
theorem dX2_serve_53 : decode cX2_serve 53 = .ok (.aload_n 0, 1) := by decide +kernel
theorem dX2_serve_54 : decode cX2_serve 54 = .ok (.invokevirtual 39, 3) := by decide +kernel
theorem dX2_serve_57 : decode cX2_serve 57 = .ok (.istore_n 3, 1) := by decide +kernel
theorem dX2_serve_58 : decode cX2_serve 58 = .ok (.iconst 0, 1) := by decide +kernel
theorem dX2_serve_59 : decode cX2_serve 59 = .ok (.istore 4, 2) := by decide +kernel
theorem dX2_serve_61 : decode cX2_serve 61 = .ok (.iload 4, 2) := by decide +kernel
theorem dX2_serve_63 : decode cX2_serve 63 = .ok (.aload_n 0, 1) := by decide +kernel
theorem dX2_serve_64 : decode cX2_serve 64 = .ok (.getfield 12, 3) := by decide +kernel
theorem dX2_serve_67 : decode cX2_serve 67 = .ok (.getfield 53, 3) := by decide +kernel
theorem dX2_serve_70 : decode cX2_serve 70 = .ok (.if_icmp .ge 69, 3) := by decide +kernel
theorem dX2_serve_73 : decode cX2_serve 73 = .ok (.aload_n 0, 1) := by decide +kernel
theorem dX2_serve_74 : decode cX2_serve 74 = .ok (.iload_n 3, 1) := by decide +kernel
theorem dX2_serve_75 : decode cX2_serve 75 = .ok (.iload 4, 2) := by decide +kernel
theorem dX2_serve_77 : decode cX2_serve 77 = .ok (.iconst 2, 1) := by decide +kernel
theorem dX2_serve_78 : decode cX2_serve 78 = .ok (.irem, 1) := by decide +kernel
theorem dX2_serve_79 : decode cX2_serve 79 = .ok (.ifCond .ne 7, 3) := by decide +kernel
theorem dX2_serve_82 : decode cX2_serve 82 = .ok (.iconst 1, 1) := by decide +kernel
theorem dX2_serve_83 : decode cX2_serve 83 = .ok (.goto 4, 3) := by decide +kernel
theorem dX2_serve_86 : decode cX2_serve 86 = .ok (.iconst 0, 1) := by decide +kernel
theorem dX2_serve_87 : decode cX2_serve 87 = .ok (.invokevirtual 43, 3) := by decide +kernel
theorem dX2_serve_90 : decode cX2_serve 90 = .ok (.istore 5, 2) := by decide +kernel
theorem dX2_serve_92 : decode cX2_serve 92 = .ok (.iload 5, 2) := by decide +kernel
theorem dX2_serve_94 : decode cX2_serve 94 = .ok (.ifCond .lt 39, 3) := by decide +kernel
theorem dX2_serve_97 : decode cX2_serve 97 = .ok (.iload 5, 2) := by decide +kernel
theorem dX2_serve_99 : decode cX2_serve 99 = .ok (.aload_n 0, 1) := by decide +kernel
theorem dX2_serve_100 : decode cX2_serve 100 = .ok (.getfield 12, 3) := by decide +kernel
theorem dX2_serve_103 : decode cX2_serve 103 = .ok (.getfield 53, 3) := by decide +kernel
theorem dX2_serve_106 : decode cX2_serve 106 = .ok (.if_icmp .ge 27, 3) := by decide +kernel
theorem dX2_serve_109 : decode cX2_serve 109 = .ok (.iload_n 3, 1) := by decide +kernel
theorem dX2_serve_110 : decode cX2_serve 110 = .ok (.iconst 1, 1) := by decide +kernel
theorem dX2_serve_111 : decode cX2_serve 111 = .ok (.iload 5, 2) := by decide +kernel
theorem dX2_serve_113 : decode cX2_serve 113 = .ok (.ishl, 1) := by decide +kernel
theorem dX2_serve_114 : decode cX2_serve 114 = .ok (.iconst (-1), 1) := by decide +kernel
theorem dX2_serve_115 : decode cX2_serve 115 = .ok (.ixor, 1) := by decide +kernel
theorem dX2_serve_116 : decode cX2_serve 116 = .ok (.iand, 1) := by decide +kernel
theorem dX2_serve_117 : decode cX2_serve 117 = .ok (.istore_n 3, 1) := by decide +kernel
theorem dX2_serve_118 : decode cX2_serve 118 = .ok (.aload_n 0, 1) := by decide +kernel
theorem dX2_serve_119 : decode cX2_serve 119 = .ok (.getfield 22, 3) := by decide +kernel
theorem dX2_serve_122 : decode cX2_serve 122 = .ok (.iload 5, 2) := by decide +kernel
theorem dX2_serve_124 : decode cX2_serve 124 = .ok (.iload 4, 2) := by decide +kernel
theorem dX2_serve_126 : decode cX2_serve 126 = .ok (.iastore, 1) := by decide +kernel
theorem dX2_serve_127 : decode cX2_serve 127 = .ok (.aload_n 0, 1) := by decide +kernel
theorem dX2_serve_128 : decode cX2_serve 128 = .ok (.iload 5, 2) := by decide +kernel
theorem dX2_serve_130 : decode cX2_serve 130 = .ok (.invokevirtual 56, 3) := by decide +kernel
theorem dX2_serve_133 : decode cX2_serve 133 = .ok (.iinc 4 1, 3) := by decide +kernel
theorem dX2_serve_136 : decode cX2_serve 136 = .ok (.goto (-75), 3) := by decide +kernel
theorem dX2_serve_139 : decode cX2_serve 139 = .ok (.return_, 1) := by decide +kernel
theorem dX2_carryOver_0 : decode cX2_carryOver 0 = .ok (.aload_n 1, 1) := by decide +kernel
theorem dX2_carryOver_1 : decode cX2_carryOver 1 = .ok (.aload_n 0, 1) := by decide +kernel
theorem dX2_carryOver_2 : decode cX2_carryOver 2 = .ok (.getfield 12, 3) := by decide +kernel
theorem dX2_carryOver_5 : decode cX2_carryOver 5 = .ok (.invokevirtual 32, 3) := by decide +kernel
theorem dX2_carryOver_8 : decode cX2_carryOver 8 = .ok (.aload_n 0, 1) := by decide +kernel
theorem dX2_carryOver_9 : decode cX2_carryOver 9 = .ok (.getfield 12, 3) := by decide +kernel
theorem dX2_carryOver_12 : decode cX2_carryOver 12 = .ok (.getfield 53, 3) := by decide +kernel
theorem dX2_carryOver_15 : decode cX2_carryOver 15 = .ok (.iconst 1, 1) := by decide +kernel
theorem dX2_carryOver_16 : decode cX2_carryOver 16 = .ok (.isub, 1) := by decide +kernel
theorem dX2_carryOver_17 : decode cX2_carryOver 17 = .ok (.istore_n 2, 1) := by decide +kernel
theorem dX2_carryOver_18 : decode cX2_carryOver 18 = .ok (.iload_n 2, 1) := by decide +kernel
theorem dX2_carryOver_19 : decode cX2_carryOver 19 = .ok (.ifCond .lt 24, 3) := by decide +kernel
theorem dX2_carryOver_22 : decode cX2_carryOver 22 = .ok (.aload_n 0, 1) := by decide +kernel
theorem dX2_carryOver_23 : decode cX2_carryOver 23 = .ok (.getfield 25, 3) := by decide +kernel
theorem dX2_carryOver_26 : decode cX2_carryOver 26 = .ok (.iload_n 2, 1) := by decide +kernel
theorem dX2_carryOver_27 : decode cX2_carryOver 27 = .ok (.iaload, 1) := by decide +kernel
theorem dX2_carryOver_28 : decode cX2_carryOver 28 = .ok (.iconst (-1), 1) := by decide +kernel
theorem dX2_carryOver_29 : decode cX2_carryOver 29 = .ok (.if_icmp .eq 8, 3) := by decide +kernel
theorem dX2_carryOver_32 : decode cX2_carryOver 32 = .ok (.aload_n 1, 1) := by decide +kernel
theorem dX2_carryOver_33 : decode cX2_carryOver 33 = .ok (.iload_n 2, 1) := by decide +kernel
theorem dX2_carryOver_34 : decode cX2_carryOver 34 = .ok (.invokevirtual 60, 3) := by decide +kernel
theorem dX2_carryOver_37 : decode cX2_carryOver 37 = .ok (.iinc 2 (-1), 3) := by decide +kernel
theorem dX2_carryOver_40 : decode cX2_carryOver 40 = .ok (.goto (-22), 3) := by decide +kernel
theorem dX2_carryOver_43 : decode cX2_carryOver 43 = .ok (.return_, 1) := by decide +kernel
theorem dX2_allAsks_0 : decode cX2_allAsks 0 = .ok (.iconst 1, 1) := by decide +kernel
theorem dX2_allAsks_1 : decode cX2_allAsks 1 = .ok (.aload_n 0, 1) := by decide +kernel
theorem dX2_allAsks_2 : decode cX2_allAsks 2 = .ok (.getfield 12, 3) := by decide +kernel
theorem dX2_allAsks_5 : decode cX2_allAsks 5 = .ok (.getfield 53, 3) := by decide +kernel
theorem dX2_allAsks_8 : decode cX2_allAsks 8 = .ok (.ishl, 1) := by decide +kernel
theorem dX2_allAsks_9 : decode cX2_allAsks 9 = .ok (.iconst 1, 1) := by decide +kernel
theorem dX2_allAsks_10 : decode cX2_allAsks 10 = .ok (.isub, 1) := by decide +kernel
theorem dX2_allAsks_11 : decode cX2_allAsks 11 = .ok (.ireturn, 1) := by decide +kernel
theorem dX2_countSlots_0 : decode cX2_countSlots 0 = .ok (.iconst 0, 1) := by decide +kernel
theorem dX2_countSlots_1 : decode cX2_countSlots 1 = .ok (.istore_n 1, 1) := by decide +kernel
theorem dX2_countSlots_2 : decode cX2_countSlots 2 = .ok (.iload_n 1, 1) := by decide +kernel
theorem dX2_countSlots_3 : decode cX2_countSlots 3 = .ok (.aload_n 0, 1) := by decide +kernel
theorem dX2_countSlots_4 : decode cX2_countSlots 4 = .ok (.getfield 18, 3) := by decide +kernel
theorem dX2_countSlots_7 : decode cX2_countSlots 7 = .ok (.arraylength, 1) := by decide +kernel
theorem dX2_countSlots_8 : decode cX2_countSlots 8 = .ok (.if_icmp .ge 16, 3) := by decide +kernel
theorem dX2_countSlots_11 : decode cX2_countSlots 11 = .ok (.aload_n 0, 1) := by decide +kernel
theorem dX2_countSlots_12 : decode cX2_countSlots 12 = .ok (.getfield 18, 3) := by decide +kernel
theorem dX2_countSlots_15 : decode cX2_countSlots 15 = .ok (.iload_n 1, 1) := by decide +kernel
theorem dX2_countSlots_16 : decode cX2_countSlots 16 = .ok (.iconst 0, 1) := by decide +kernel
theorem dX2_countSlots_17 : decode cX2_countSlots 17 = .ok (.iastore, 1) := by decide +kernel
theorem dX2_countSlots_18 : decode cX2_countSlots 18 = .ok (.iinc 1 1, 3) := by decide +kernel
theorem dX2_countSlots_21 : decode cX2_countSlots 21 = .ok (.goto (-19), 3) := by decide +kernel
theorem dX2_countSlots_24 : decode cX2_countSlots 24 = .ok (.iconst 0, 1) := by decide +kernel
theorem dX2_countSlots_25 : decode cX2_countSlots 25 = .ok (.istore_n 1, 1) := by decide +kernel
theorem dX2_countSlots_26 : decode cX2_countSlots 26 = .ok (.iload_n 1, 1) := by decide +kernel
theorem dX2_countSlots_27 : decode cX2_countSlots 27 = .ok (.aload_n 0, 1) := by decide +kernel
theorem dX2_countSlots_28 : decode cX2_countSlots 28 = .ok (.getfield 12, 3) := by decide +kernel
theorem dX2_countSlots_31 : decode cX2_countSlots 31 = .ok (.getfield 63, 3) := by decide +kernel
theorem dX2_countSlots_34 : decode cX2_countSlots 34 = .ok (.if_icmp .ge 46, 3) := by decide +kernel
theorem dX2_countSlots_37 : decode cX2_countSlots 37 = .ok (.aload_n 0, 1) := by decide +kernel
theorem dX2_countSlots_38 : decode cX2_countSlots 38 = .ok (.getfield 18, 3) := by decide +kernel
theorem dX2_countSlots_41 : decode cX2_countSlots 41 = .ok (.aload_n 0, 1) := by decide +kernel
theorem dX2_countSlots_42 : decode cX2_countSlots 42 = .ok (.getfield 12, 3) := by decide +kernel
theorem dX2_countSlots_45 : decode cX2_countSlots 45 = .ok (.getfield 66, 3) := by decide +kernel
theorem dX2_countSlots_48 : decode cX2_countSlots 48 = .ok (.iload_n 1, 1) := by decide +kernel
theorem dX2_countSlots_49 : decode cX2_countSlots 49 = .ok (.aaload, 1) := by decide +kernel
theorem dX2_countSlots_50 : decode cX2_countSlots 50 = .ok (.getfield 70, 3) := by decide +kernel
theorem dX2_countSlots_53 : decode cX2_countSlots 53 = .ok (.bipush 7, 2) := by decide +kernel
theorem dX2_countSlots_55 : decode cX2_countSlots 55 = .ok (.imul, 1) := by decide +kernel
theorem dX2_countSlots_56 : decode cX2_countSlots 56 = .ok (.aload_n 0, 1) := by decide +kernel
theorem dX2_countSlots_57 : decode cX2_countSlots 57 = .ok (.getfield 12, 3) := by decide +kernel
theorem dX2_countSlots_60 : decode cX2_countSlots 60 = .ok (.getfield 66, 3) := by decide +kernel
theorem dX2_countSlots_63 : decode cX2_countSlots 63 = .ok (.iload_n 1, 1) := by decide +kernel
theorem dX2_countSlots_64 : decode cX2_countSlots 64 = .ok (.aaload, 1) := by decide +kernel
theorem dX2_countSlots_65 : decode cX2_countSlots 65 = .ok (.getfield 75, 3) := by decide +kernel
theorem dX2_countSlots_68 : decode cX2_countSlots 68 = .ok (.iadd, 1) := by decide +kernel
theorem dX2_countSlots_69 : decode cX2_countSlots 69 = .ok (.dup2, 1) := by decide +kernel
theorem dX2_countSlots_70 : decode cX2_countSlots 70 = .ok (.iaload, 1) := by decide +kernel
theorem dX2_countSlots_71 : decode cX2_countSlots 71 = .ok (.iconst 1, 1) := by decide +kernel
theorem dX2_countSlots_72 : decode cX2_countSlots 72 = .ok (.iadd, 1) := by decide +kernel
theorem dX2_countSlots_73 : decode cX2_countSlots 73 = .ok (.iastore, 1) := by decide +kernel
theorem dX2_countSlots_74 : decode cX2_countSlots 74 = .ok (.iinc 1 1, 3) := by decide +kernel
theorem dX2_countSlots_77 : decode cX2_countSlots 77 = .ok (.goto (-51), 3) := by decide +kernel
theorem dX2_countSlots_80 : decode cX2_countSlots 80 = .ok (.return_, 1) := by decide +kernel
theorem dX2_isEntrants_0 : decode cX2_isEntrants 0 = .ok (.aload_n 0, 1) := by decide +kernel
theorem dX2_isEntrants_1 : decode cX2_isEntrants 1 = .ok (.getfield 18, 3) := by decide +kernel
theorem dX2_isEntrants_4 : decode cX2_isEntrants 4 = .ok (.aload_n 1, 1) := by decide +kernel
theorem dX2_isEntrants_5 : decode cX2_isEntrants 5 = .ok (.getfield 78, 3) := by decide +kernel
theorem dX2_isEntrants_8 : decode cX2_isEntrants 8 = .ok (.bipush 7, 2) := by decide +kernel
theorem dX2_isEntrants_10 : decode cX2_isEntrants 10 = .ok (.imul, 1) := by decide +kernel
theorem dX2_isEntrants_11 : decode cX2_isEntrants 11 = .ok (.aload_n 1, 1) := by decide +kernel
theorem dX2_isEntrants_12 : decode cX2_isEntrants 12 = .ok (.getfield 81, 3) := by decide +kernel
theorem dX2_isEntrants_15 : decode cX2_isEntrants 15 = .ok (.iadd, 1) := by decide +kernel
theorem dX2_isEntrants_16 : decode cX2_isEntrants 16 = .ok (.iaload, 1) := by decide +kernel
theorem dX2_isEntrants_17 : decode cX2_isEntrants 17 = .ok (.iconst 2, 1) := by decide +kernel
theorem dX2_isEntrants_18 : decode cX2_isEntrants 18 = .ok (.if_icmp .ge 7, 3) := by decide +kernel
theorem dX2_isEntrants_21 : decode cX2_isEntrants 21 = .ok (.iconst 1, 1) := by decide +kernel
theorem dX2_isEntrants_22 : decode cX2_isEntrants 22 = .ok (.goto 4, 3) := by decide +kernel
theorem dX2_isEntrants_25 : decode cX2_isEntrants 25 = .ok (.iconst 0, 1) := by decide +kernel
theorem dX2_isEntrants_26 : decode cX2_isEntrants 26 = .ok (.ireturn, 1) := by decide +kernel
theorem dX2_chosen_0 : decode cX2_chosen 0 = .ok (.aload_n 0, 1) := by decide +kernel
theorem dX2_chosen_1 : decode cX2_chosen 1 = .ok (.iload_n 1, 1) := by decide +kernel
theorem dX2_chosen_2 : decode cX2_chosen 2 = .ok (.iload_n 2, 1) := by decide +kernel
theorem dX2_chosen_3 : decode cX2_chosen 3 = .ok (.invokevirtual 82, 3) := by decide +kernel
theorem dX2_chosen_6 : decode cX2_chosen 6 = .ok (.istore_n 3, 1) := by decide +kernel
theorem dX2_chosen_7 : decode cX2_chosen 7 = .ok (.iload_n 3, 1) := by decide +kernel
theorem dX2_chosen_8 : decode cX2_chosen 8 = .ok (.iconst (-1), 1) := by decide +kernel
theorem dX2_chosen_9 : decode cX2_chosen 9 = .ok (.if_icmp .eq 7, 3) := by decide +kernel
theorem dX2_chosen_12 : decode cX2_chosen 12 = .ok (.iload_n 3, 1) := by decide +kernel
theorem dX2_chosen_13 : decode cX2_chosen 13 = .ok (.goto 17, 3) := by decide +kernel
theorem dX2_chosen_16 : decode cX2_chosen 16 = .ok (.aload_n 0, 1) := by decide +kernel
theorem dX2_chosen_17 : decode cX2_chosen 17 = .ok (.iload_n 1, 1) := by decide +kernel
theorem dX2_chosen_18 : decode cX2_chosen 18 = .ok (.iload_n 2, 1) := by decide +kernel
theorem dX2_chosen_19 : decode cX2_chosen 19 = .ok (.ifCond .ne 7, 3) := by decide +kernel
theorem dX2_chosen_22 : decode cX2_chosen 22 = .ok (.iconst 1, 1) := by decide +kernel
theorem dX2_chosen_23 : decode cX2_chosen 23 = .ok (.goto 4, 3) := by decide +kernel
theorem dX2_chosen_26 : decode cX2_chosen 26 = .ok (.iconst 0, 1) := by decide +kernel
theorem dX2_chosen_27 : decode cX2_chosen 27 = .ok (.invokevirtual 82, 3) := by decide +kernel
theorem dX2_chosen_30 : decode cX2_chosen 30 = .ok (.ireturn, 1) := by decide +kernel
theorem dX2_longestOf_0 : decode cX2_longestOf 0 = .ok (.iconst (-1), 1) := by decide +kernel
theorem dX2_longestOf_1 : decode cX2_longestOf 1 = .ok (.istore_n 3, 1) := by decide +kernel
theorem dX2_longestOf_2 : decode cX2_longestOf 2 = .ok (.iconst 0, 1) := by decide +kernel
theorem dX2_longestOf_3 : decode cX2_longestOf 3 = .ok (.istore 4, 2) := by decide +kernel
theorem dX2_longestOf_5 : decode cX2_longestOf 5 = .ok (.iconst 0, 1) := by decide +kernel
theorem dX2_longestOf_6 : decode cX2_longestOf 6 = .ok (.istore 5, 2) := by decide +kernel
theorem dX2_longestOf_8 : decode cX2_longestOf 8 = .ok (.iload 5, 2) := by decide +kernel
theorem dX2_longestOf_10 : decode cX2_longestOf 10 = .ok (.aload_n 0, 1) := by decide +kernel
theorem dX2_longestOf_11 : decode cX2_longestOf 11 = .ok (.getfield 12, 3) := by decide +kernel
theorem dX2_longestOf_14 : decode cX2_longestOf 14 = .ok (.getfield 53, 3) := by decide +kernel
theorem dX2_longestOf_17 : decode cX2_longestOf 17 = .ok (.if_icmp .ge 69, 3) := by decide +kernel
theorem dX2_longestOf_20 : decode cX2_longestOf 20 = .ok (.aload_n 0, 1) := by decide +kernel
theorem dX2_longestOf_21 : decode cX2_longestOf 21 = .ok (.getfield 12, 3) := by decide +kernel
theorem dX2_longestOf_24 : decode cX2_longestOf 24 = .ok (.getfield 85, 3) := by decide +kernel
theorem dX2_longestOf_27 : decode cX2_longestOf 27 = .ok (.iload 5, 2) := by decide +kernel
theorem dX2_longestOf_29 : decode cX2_longestOf 29 = .ok (.aaload, 1) := by decide +kernel
theorem dX2_longestOf_30 : decode cX2_longestOf 30 = .ok (.astore 6, 2) := by decide +kernel
theorem dX2_longestOf_32 : decode cX2_longestOf 32 = .ok (.aload 6, 2) := by decide +kernel
theorem dX2_longestOf_34 : decode cX2_longestOf 34 = .ok (.getfield 89, 3) := by decide +kernel
theorem dX2_longestOf_37 : decode cX2_longestOf 37 = .ok (.aload 6, 2) := by decide +kernel
theorem dX2_longestOf_39 : decode cX2_longestOf 39 = .ok (.getfield 92, 3) := by decide +kernel
theorem dX2_longestOf_42 : decode cX2_longestOf 42 = .ok (.isub, 1) := by decide +kernel
theorem dX2_longestOf_43 : decode cX2_longestOf 43 = .ok (.iconst 1, 1) := by decide +kernel
theorem dX2_longestOf_44 : decode cX2_longestOf 44 = .ok (.iadd, 1) := by decide +kernel
theorem dX2_longestOf_45 : decode cX2_longestOf 45 = .ok (.istore 7, 2) := by decide +kernel
theorem dX2_longestOf_47 : decode cX2_longestOf 47 = .ok (.iload_n 1, 1) := by decide +kernel
theorem dX2_longestOf_48 : decode cX2_longestOf 48 = .ok (.iload 5, 2) := by decide +kernel
theorem dX2_longestOf_50 : decode cX2_longestOf 50 = .ok (.invokestatic 95, 3) := by decide +kernel
theorem dX2_longestOf_53 : decode cX2_longestOf 53 = .ok (.ifCond .eq 27, 3) := by decide +kernel
theorem dX2_longestOf_56 : decode cX2_longestOf 56 = .ok (.iload 7, 2) := by decide +kernel
theorem dX2_longestOf_58 : decode cX2_longestOf 58 = .ok (.iload 4, 2) := by decide +kernel
theorem dX2_longestOf_60 : decode cX2_longestOf 60 = .ok (.if_icmp .le 20, 3) := by decide +kernel
theorem dX2_longestOf_63 : decode cX2_longestOf 63 = .ok (.aload_n 0, 1) := by decide +kernel
theorem dX2_longestOf_64 : decode cX2_longestOf 64 = .ok (.aload 6, 2) := by decide +kernel
theorem dX2_longestOf_66 : decode cX2_longestOf 66 = .ok (.invokevirtual 99, 3) := by decide +kernel
theorem dX2_longestOf_69 : decode cX2_longestOf 69 = .ok (.iload_n 2, 1) := by decide +kernel
theorem dX2_longestOf_70 : decode cX2_longestOf 70 = .ok (.if_icmp .ne 10, 3) := by decide +kernel
theorem dX2_longestOf_73 : decode cX2_longestOf 73 = .ok (.iload 5, 2) := by decide +kernel
theorem dX2_longestOf_75 : decode cX2_longestOf 75 = .ok (.istore_n 3, 1) := by decide +kernel
theorem dX2_longestOf_76 : decode cX2_longestOf 76 = .ok (.iload 7, 2) := by decide +kernel
theorem dX2_longestOf_78 : decode cX2_longestOf 78 = .ok (.istore 4, 2) := by decide +kernel
theorem dX2_longestOf_80 : decode cX2_longestOf 80 = .ok (.iinc 5 1, 3) := by decide +kernel
theorem dX2_longestOf_83 : decode cX2_longestOf 83 = .ok (.goto (-75), 3) := by decide +kernel
theorem dX2_longestOf_86 : decode cX2_longestOf 86 = .ok (.iload_n 3, 1) := by decide +kernel
theorem dX2_longestOf_87 : decode cX2_longestOf 87 = .ok (.ireturn, 1) := by decide +kernel
theorem dX2_lookAt_0 : decode cX2_lookAt 0 = .ok (.aload_n 0, 1) := by decide +kernel
theorem dX2_lookAt_1 : decode cX2_lookAt 1 = .ok (.getfield 12, 3) := by decide +kernel
theorem dX2_lookAt_4 : decode cX2_lookAt 4 = .ok (.getfield 85, 3) := by decide +kernel
theorem dX2_lookAt_7 : decode cX2_lookAt 7 = .ok (.iload_n 1, 1) := by decide +kernel
theorem dX2_lookAt_8 : decode cX2_lookAt 8 = .ok (.aaload, 1) := by decide +kernel
theorem dX2_lookAt_9 : decode cX2_lookAt 9 = .ok (.astore_n 2, 1) := by decide +kernel
theorem dX2_lookAt_10 : decode cX2_lookAt 10 = .ok (.aload_n 0, 1) := by decide +kernel
theorem dX2_lookAt_11 : decode cX2_lookAt 11 = .ok (.getfield 25, 3) := by decide +kernel
theorem dX2_lookAt_14 : decode cX2_lookAt 14 = .ok (.iload_n 1, 1) := by decide +kernel
theorem dX2_lookAt_15 : decode cX2_lookAt 15 = .ok (.aload_n 0, 1) := by decide +kernel
theorem dX2_lookAt_16 : decode cX2_lookAt 16 = .ok (.getfield 12, 3) := by decide +kernel
theorem dX2_lookAt_19 : decode cX2_lookAt 19 = .ok (.aload_n 2, 1) := by decide +kernel
theorem dX2_lookAt_20 : decode cX2_lookAt 20 = .ok (.invokevirtual 103, 3) := by decide +kernel
theorem dX2_lookAt_23 : decode cX2_lookAt 23 = .ok (.iastore, 1) := by decide +kernel
theorem dX2_lookAt_24 : decode cX2_lookAt 24 = .ok (.aload_n 0, 1) := by decide +kernel
theorem dX2_lookAt_25 : decode cX2_lookAt 25 = .ok (.getfield 25, 3) := by decide +kernel
theorem dX2_lookAt_28 : decode cX2_lookAt 28 = .ok (.iload_n 1, 1) := by decide +kernel
theorem dX2_lookAt_29 : decode cX2_lookAt 29 = .ok (.iaload, 1) := by decide +kernel
theorem dX2_lookAt_30 : decode cX2_lookAt 30 = .ok (.iconst (-1), 1) := by decide +kernel
theorem dX2_lookAt_31 : decode cX2_lookAt 31 = .ok (.if_icmp .eq 48, 3) := by decide +kernel
theorem dX2_lookAt_34 : decode cX2_lookAt 34 = .ok (.aload_n 0, 1) := by decide +kernel
theorem dX2_lookAt_35 : decode cX2_lookAt 35 = .ok (.getfield 12, 3) := by decide +kernel
theorem dX2_lookAt_38 : decode cX2_lookAt 38 = .ok (.aload_n 2, 1) := by decide +kernel
theorem dX2_lookAt_39 : decode cX2_lookAt 39 = .ok (.aload_n 0, 1) := by decide +kernel
theorem dX2_lookAt_40 : decode cX2_lookAt 40 = .ok (.getfield 25, 3) := by decide +kernel
theorem dX2_lookAt_43 : decode cX2_lookAt 43 = .ok (.iload_n 1, 1) := by decide +kernel
theorem dX2_lookAt_44 : decode cX2_lookAt 44 = .ok (.iaload, 1) := by decide +kernel
theorem dX2_lookAt_45 : decode cX2_lookAt 45 = .ok (.invokevirtual 107, 3) := by decide +kernel
theorem dX2_lookAt_48 : decode cX2_lookAt 48 = .ok (.aload_n 0, 1) := by decide +kernel
theorem dX2_lookAt_49 : decode cX2_lookAt 49 = .ok (.getfield 18, 3) := by decide +kernel
theorem dX2_lookAt_52 : decode cX2_lookAt 52 = .ok (.aload_n 2, 1) := by decide +kernel
theorem dX2_lookAt_53 : decode cX2_lookAt 53 = .ok (.getfield 78, 3) := by decide +kernel
theorem dX2_lookAt_56 : decode cX2_lookAt 56 = .ok (.bipush 7, 2) := by decide +kernel
theorem dX2_lookAt_58 : decode cX2_lookAt 58 = .ok (.imul, 1) := by decide +kernel
theorem dX2_lookAt_59 : decode cX2_lookAt 59 = .ok (.aload_n 2, 1) := by decide +kernel
theorem dX2_lookAt_60 : decode cX2_lookAt 60 = .ok (.getfield 81, 3) := by decide +kernel
theorem dX2_lookAt_63 : decode cX2_lookAt 63 = .ok (.iadd, 1) := by decide +kernel
theorem dX2_lookAt_64 : decode cX2_lookAt 64 = .ok (.dup2, 1) := by decide +kernel
theorem dX2_lookAt_65 : decode cX2_lookAt 65 = .ok (.iaload, 1) := by decide +kernel
theorem dX2_lookAt_66 : decode cX2_lookAt 66 = .ok (.iconst 1, 1) := by decide +kernel
theorem dX2_lookAt_67 : decode cX2_lookAt 67 = .ok (.iadd, 1) := by decide +kernel
theorem dX2_lookAt_68 : decode cX2_lookAt 68 = .ok (.iastore, 1) := by decide +kernel
theorem dX2_lookAt_69 : decode cX2_lookAt 69 = .ok (.aload_n 0, 1) := by decide +kernel
theorem dX2_lookAt_70 : decode cX2_lookAt 70 = .ok (.dup, 1) := by decide +kernel
theorem dX2_lookAt_71 : decode cX2_lookAt 71 = .ok (.getfield 28, 3) := by decide +kernel
theorem dX2_lookAt_74 : decode cX2_lookAt 74 = .ok (.iconst 1, 1) := by decide +kernel
theorem dX2_lookAt_75 : decode cX2_lookAt 75 = .ok (.iadd, 1) := by decide +kernel
theorem dX2_lookAt_76 : decode cX2_lookAt 76 = .ok (.putfield 28, 3) := by decide +kernel
theorem dX2_lookAt_79 : decode cX2_lookAt 79 = .ok (.return_, 1) := by decide +kernel
theorem dX3_init_0 : decode cX3_init 0 = .ok (.aload_n 0, 1) := by decide +kernel
theorem dX3_init_1 : decode cX3_init 1 = .ok (.invokespecial 3, 3) := by decide +kernel
theorem dX3_init_4 : decode cX3_init 4 = .ok (.aload_n 0, 1) := by decide +kernel
theorem dX3_init_5 : decode cX3_init 5 = .ok (.new 9, 3) := by decide +kernel
theorem dX3_init_8 : decode cX3_init 8 = .ok (.dup, 1) := by decide +kernel
theorem dX3_init_9 : decode cX3_init 9 = .ok (.invokespecial 11, 3) := by decide +kernel
theorem dX3_init_12 : decode cX3_init 12 = .ok (.putfield 12, 3) := by decide +kernel
theorem dX3_init_15 : decode cX3_init 15 = .ok (.aload_n 0, 1) := by decide +kernel
theorem dX3_init_16 : decode cX3_init 16 = .ok (.new 18, 3) := by decide +kernel
theorem dX3_init_19 : decode cX3_init 19 = .ok (.dup, 1) := by decide +kernel
theorem dX3_init_20 : decode cX3_init 20 = .ok (.invokespecial 20, 3) := by decide +kernel
theorem dX3_init_23 : decode cX3_init 23 = .ok (.putfield 21, 3) := by decide +kernel
theorem dX3_init_26 : decode cX3_init 26 = .ok (.aload_n 0, 1) := by decide +kernel
theorem dX3_init_27 : decode cX3_init 27 = .ok (.iconst 0, 1) := by decide +kernel
theorem dX3_init_28 : decode cX3_init 28 = .ok (.putfield 25, 3) := by decide +kernel
theorem dX3_init_31 : decode cX3_init 31 = .ok (.aload_n 0, 1) := by decide +kernel
theorem dX3_init_32 : decode cX3_init 32 = .ok (.iconst 0, 1) := by decide +kernel
theorem dX3_init_33 : decode cX3_init 33 = .ok (.putfield 29, 3) := by decide +kernel
theorem dX3_init_36 : decode cX3_init 36 = .ok (.aload_n 0, 1) := by decide +kernel
theorem dX3_init_37 : decode cX3_init 37 = .ok (.iconst (-1), 1) := by decide +kernel
theorem dX3_init_38 : decode cX3_init 38 = .ok (.putfield 32, 3) := by decide +kernel
theorem dX3_init_41 : decode cX3_init 41 = .ok (.aload_n 0, 1) := by decide +kernel
theorem dX3_init_42 : decode cX3_init 42 = .ok (.iconst 0, 1) := by decide +kernel
theorem dX3_init_43 : decode cX3_init 43 = .ok (.newarray .byte, 2) := by decide +kernel
theorem dX3_init_45 : decode cX3_init 45 = .ok (.putfield 35, 3) := by decide +kernel
theorem dX3_init_48 : decode cX3_init 48 = .ok (.aload_n 0, 1) := by decide +kernel
theorem dX3_init_49 : decode cX3_init 49 = .ok (.iconst 0, 1) := by decide +kernel
theorem dX3_init_50 : decode cX3_init 50 = .ok (.putfield 39, 3) := by decide +kernel
theorem dX3_init_53 : decode cX3_init 53 = .ok (.aload_n 0, 1) := by decide +kernel
theorem dX3_init_54 : decode cX3_init 54 = .ok (.iconst 0, 1) := by decide +kernel
theorem dX3_init_55 : decode cX3_init 55 = .ok (.putfield 42, 3) := by decide +kernel
theorem dX3_init_58 : decode cX3_init 58 = .ok (.aload_n 0, 1) := by decide +kernel
theorem dX3_init_59 : decode cX3_init 59 = .ok (.iconst 0, 1) := by decide +kernel
theorem dX3_init_60 : decode cX3_init 60 = .ok (.putfield 45, 3) := by decide +kernel
theorem dX3_init_63 : decode cX3_init 63 = .ok (.aload_n 0, 1) := by decide +kernel
theorem dX3_init_64 : decode cX3_init 64 = .ok (.iconst 0, 1) := by decide +kernel
theorem dX3_init_65 : decode cX3_init 65 = .ok (.putfield 48, 3) := by decide +kernel
theorem dX3_init_68 : decode cX3_init 68 = .ok (.aload_n 0, 1) := by decide +kernel
theorem dX3_init_69 : decode cX3_init 69 = .ok (.iconst 0, 1) := by decide +kernel
theorem dX3_init_70 : decode cX3_init 70 = .ok (.putfield 51, 3) := by decide +kernel
theorem dX3_init_73 : decode cX3_init 73 = .ok (.aload_n 0, 1) := by decide +kernel
theorem dX3_init_74 : decode cX3_init 74 = .ok (.iconst 0, 1) := by decide +kernel
theorem dX3_init_75 : decode cX3_init 75 = .ok (.putfield 54, 3) := by decide +kernel
theorem dX3_init_78 : decode cX3_init 78 = .ok (.aload_n 0, 1) := by decide +kernel
theorem dX3_init_79 : decode cX3_init 79 = .ok (.iconst 0, 1) := by decide +kernel
theorem dX3_init_80 : decode cX3_init 80 = .ok (.putfield 57, 3) := by decide +kernel
theorem dX3_init_83 : decode cX3_init 83 = .ok (.aload_n 0, 1) := by decide +kernel
theorem dX3_init_84 : decode cX3_init 84 = .ok (.iconst 0, 1) := by decide +kernel
theorem dX3_init_85 : decode cX3_init 85 = .ok (.putfield 60, 3) := by decide +kernel
theorem dX3_init_88 : decode cX3_init 88 = .ok (.aload_n 0, 1) := by decide +kernel
theorem dX3_init_89 : decode cX3_init 89 = .ok (.iconst 0, 1) := by decide +kernel
theorem dX3_init_90 : decode cX3_init 90 = .ok (.putfield 63, 3) := by decide +kernel
theorem dX3_init_93 : decode cX3_init 93 = .ok (.aload_n 0, 1) := by decide +kernel
theorem dX3_init_94 : decode cX3_init 94 = .ok (.iconst 0, 1) := by decide +kernel
theorem dX3_init_95 : decode cX3_init 95 = .ok (.putfield 66, 3) := by decide +kernel
theorem dX3_init_98 : decode cX3_init 98 = .ok (.aload_n 0, 1) := by decide +kernel
theorem dX3_init_99 : decode cX3_init 99 = .ok (.iconst 0, 1) := by decide +kernel
theorem dX3_init_100 : decode cX3_init 100 = .ok (.putfield 69, 3) := by decide +kernel
theorem dX3_init_103 : decode cX3_init 103 = .ok (.aload_n 0, 1) := by decide +kernel
theorem dX3_init_104 : decode cX3_init 104 = .ok (.iconst 0, 1) := by decide +kernel
theorem dX3_init_105 : decode cX3_init 105 = .ok (.putfield 72, 3) := by decide +kernel
theorem dX3_init_108 : decode cX3_init 108 = .ok (.return_, 1) := by decide +kernel
theorem dX3_readText_0 : decode cX3_readText 0 = .ok (.aload_n 0, 1) := by decide +kernel
theorem dX3_readText_1 : decode cX3_readText 1 = .ok (.aload_n 1, 1) := by decide +kernel
theorem dX3_readText_2 : decode cX3_readText 2 = .ok (.putfield 35, 3) := by decide +kernel
theorem dX3_readText_5 : decode cX3_readText 5 = .ok (.aload_n 0, 1) := by decide +kernel
theorem dX3_readText_6 : decode cX3_readText 6 = .ok (.iload_n 2, 1) := by decide +kernel
theorem dX3_readText_7 : decode cX3_readText 7 = .ok (.aload_n 1, 1) := by decide +kernel
theorem dX3_readText_8 : decode cX3_readText 8 = .ok (.arraylength, 1) := by decide +kernel
theorem dX3_readText_9 : decode cX3_readText 9 = .ok (.invokestatic 75, 3) := by decide +kernel
theorem dX3_readText_12 : decode cX3_readText 12 = .ok (.putfield 39, 3) := by decide +kernel
theorem dX3_readText_15 : decode cX3_readText 15 = .ok (.aload_n 0, 1) := by decide +kernel
theorem dX3_readText_16 : decode cX3_readText 16 = .ok (.iconst 0, 1) := by decide +kernel
theorem dX3_readText_17 : decode cX3_readText 17 = .ok (.putfield 45, 3) := by decide +kernel
theorem dX3_readText_20 : decode cX3_readText 20 = .ok (.aload_n 0, 1) := by decide +kernel
theorem dX3_readText_21 : decode cX3_readText 21 = .ok (.iconst 0, 1) := by decide +kernel
theorem dX3_readText_22 : decode cX3_readText 22 = .ok (.putfield 25, 3) := by decide +kernel
theorem dX3_readText_25 : decode cX3_readText 25 = .ok (.aload_n 0, 1) := by decide +kernel
theorem dX3_readText_26 : decode cX3_readText 26 = .ok (.iconst 0, 1) := by decide +kernel
theorem dX3_readText_27 : decode cX3_readText 27 = .ok (.putfield 29, 3) := by decide +kernel
theorem dX3_readText_30 : decode cX3_readText 30 = .ok (.aload_n 0, 1) := by decide +kernel
theorem dX3_readText_31 : decode cX3_readText 31 = .ok (.iconst (-1), 1) := by decide +kernel
theorem dX3_readText_32 : decode cX3_readText 32 = .ok (.putfield 32, 3) := by decide +kernel
theorem dX3_readText_35 : decode cX3_readText 35 = .ok (.aload_n 0, 1) := by decide +kernel
theorem dX3_readText_36 : decode cX3_readText 36 = .ok (.iconst 0, 1) := by decide +kernel
theorem dX3_readText_37 : decode cX3_readText 37 = .ok (.putfield 54, 3) := by decide +kernel
theorem dX3_readText_40 : decode cX3_readText 40 = .ok (.aload_n 0, 1) := by decide +kernel
theorem dX3_readText_41 : decode cX3_readText 41 = .ok (.getfield 12, 3) := by decide +kernel
theorem dX3_readText_44 : decode cX3_readText 44 = .ok (.invokevirtual 81, 3) := by decide +kernel
theorem dX3_readText_47 : decode cX3_readText 47 = .ok (.aload_n 0, 1) := by decide +kernel
theorem dX3_readText_48 : decode cX3_readText 48 = .ok (.getfield 21, 3) := by decide +kernel
theorem dX3_readText_51 : decode cX3_readText 51 = .ok (.iconst 0, 1) := by decide +kernel
theorem dX3_readText_52 : decode cX3_readText 52 = .ok (.putfield 84, 3) := by decide +kernel
theorem dX3_readText_55 : decode cX3_readText 55 = .ok (.aload_n 0, 1) := by decide +kernel
theorem dX3_readText_56 : decode cX3_readText 56 = .ok (.invokevirtual 87, 3) := by decide +kernel
theorem dX3_readText_59 : decode cX3_readText 59 = .ok (.aload_n 0, 1) := by decide +kernel
theorem dX3_readText_60 : decode cX3_readText 60 = .ok (.invokevirtual 90, 3) := by decide +kernel
theorem dX3_readText_63 : decode cX3_readText 63 = .ok (.ifCond .ne 5, 3) := by decide +kernel
theorem dX3_readText_66 : decode cX3_readText 66 = .ok (.iconst 0, 1) := by decide +kernel
theorem dX3_readText_67 : decode cX3_readText 67 = .ok (.ireturn, 1) := by decide +kernel
theorem dX3_readText_68 : decode cX3_readText 68 = .ok (.aload_n 0, 1) := by decide +kernel
theorem dX3_readText_69 : decode cX3_readText 69 = .ok (.iconst 1, 1) := by decide +kernel
theorem dX3_readText_70 : decode cX3_readText 70 = .ok (.putfield 25, 3) := by decide +kernel
theorem dX3_readText_73 : decode cX3_readText 73 = .ok (.iconst 0, 1) := by decide +kernel
theorem dX3_readText_74 : decode cX3_readText 74 = .ok (.istore_n 3, 1) := by decide +kernel
theorem dX3_readText_75 : decode cX3_readText 75 = .ok (.iload_n 3, 1) := by decide +kernel
theorem dX3_readText_76 : decode cX3_readText 76 = .ok (.aload_n 0, 1) := by decide +kernel
theorem dX3_readText_77 : decode cX3_readText 77 = .ok (.getfield 39, 3) := by decide +kernel
theorem dX3_readText_80 : decode cX3_readText 80 = .ok (.if_icmp .ge 35, 3) := by decide +kernel
theorem dX3_readText_83 : decode cX3_readText 83 = .ok (.aload_n 0, 1) := by decide +kernel
theorem dX3_readText_84 : decode cX3_readText 84 = .ok (.getfield 48, 3) := by decide +kernel
theorem dX3_readText_87 : decode cX3_readText 87 = .ok (.ifCond .eq 28, 3) := by decide +kernel
theorem dX3_readText_90 : decode cX3_readText 90 = .ok (.aload_n 0, 1) := by decide +kernel
theorem dX3_readText_91 : decode cX3_readText 91 = .ok (.invokevirtual 94, 3) := by decide +kernel
theorem dX3_readText_94 : decode cX3_readText 94 = .ok (.ifCond .ne 5, 3) := by decide +kernel
theorem dX3_readText_97 : decode cX3_readText 97 = .ok (.iconst 0, 1) := by decide +kernel
theorem dX3_readText_98 : decode cX3_readText 98 = .ok (.ireturn, 1) := by decide +kernel
theorem dX3_readText_99 : decode cX3_readText 99 = .ok (.aload_n 0, 1) := by decide +kernel
theorem dX3_readText_100 : decode cX3_readText 100 = .ok (.dup, 1) := by decide +kernel
theorem dX3_readText_101 : decode cX3_readText 101 = .ok (.getfield 25, 3) := by decide +kernel
theorem dX3_readText_104 : decode cX3_readText 104 = .ok (.iconst 1, 1) := by decide +kernel
theorem dX3_readText_105 : decode cX3_readText 105 = .ok (.iadd, 1) := by decide +kernel
theorem dX3_readText_106 : decode cX3_readText 106 = .ok (.putfield 25, 3) := by decide +kernel
theorem dX3_readText_109 : decode cX3_readText 109 = .ok (.iinc 3 1, 3) := by decide +kernel
theorem dX3_readText_112 : decode cX3_readText 112 = .ok (.goto (-37), 3) := by decide +kernel
theorem dX3_readText_115 : decode cX3_readText 115 = .ok (.iconst 1, 1) := by decide +kernel
theorem dX3_readText_116 : decode cX3_readText 116 = .ok (.ireturn, 1) := by decide +kernel
theorem dX3_readWeeks_0 : decode cX3_readWeeks 0 = .ok (.aload_n 0, 1) := by decide +kernel
theorem dX3_readWeeks_1 : decode cX3_readWeeks 1 = .ok (.bipush 7, 2) := by decide +kernel
theorem dX3_readWeeks_3 : decode cX3_readWeeks 3 = .ok (.invokevirtual 97, 3) := by decide +kernel
theorem dX3_readWeeks_6 : decode cX3_readWeeks 6 = .ok (.ifCond .eq 13, 3) := by decide +kernel
theorem dX3_readWeeks_9 : decode cX3_readWeeks 9 = .ok (.aload_n 0, 1) := by decide +kernel
theorem dX3_readWeeks_10 : decode cX3_readWeeks 10 = .ok (.iconst 5, 1) := by decide +kernel
theorem dX3_readWeeks_11 : decode cX3_readWeeks 11 = .ok (.bipush 30, 2) := by decide +kernel
theorem dX3_readWeeks_13 : decode cX3_readWeeks 13 = .ok (.invokevirtual 101, 3) := by decide +kernel
theorem dX3_readWeeks_16 : decode cX3_readWeeks 16 = .ok (.ifCond .ne 5, 3) := by decide +kernel
theorem dX3_readWeeks_19 : decode cX3_readWeeks 19 = .ok (.iconst 0, 1) := by decide +kernel
theorem dX3_readWeeks_20 : decode cX3_readWeeks 20 = .ok (.ireturn, 1) := by decide +kernel
theorem dX3_readWeeks_21 : decode cX3_readWeeks 21 = .ok (.aload_n 0, 1) := by decide +kernel
theorem dX3_readWeeks_22 : decode cX3_readWeeks 22 = .ok (.getfield 12, 3) := by decide +kernel
theorem dX3_readWeeks_25 : decode cX3_readWeeks 25 = .ok (.aload_n 0, 1) := by decide +kernel
theorem dX3_readWeeks_26 : decode cX3_readWeeks 26 = .ok (.getfield 51, 3) := by decide +kernel
theorem dX3_readWeeks_29 : decode cX3_readWeeks 29 = .ok (.putfield 105, 3) := by decide +kernel
theorem dX3_readWeeks_32 : decode cX3_readWeeks 32 = .ok (.aload_n 0, 1) := by decide +kernel
theorem dX3_readWeeks_33 : decode cX3_readWeeks 33 = .ok (.invokevirtual 87, 3) := by decide +kernel
theorem dX3_readWeeks_36 : decode cX3_readWeeks 36 = .ok (.aload_n 0, 1) := by decide +kernel
theorem dX3_readWeeks_37 : decode cX3_readWeeks 37 = .ok (.bipush 59, 2) := by decide +kernel
theorem dX3_readWeeks_39 : decode cX3_readWeeks 39 = .ok (.invokevirtual 106, 3) := by decide +kernel
theorem dX3_readWeeks_42 : decode cX3_readWeeks 42 = .ok (.ireturn, 1) := by decide +kernel
theorem dX3_readLine_0 : decode cX3_readLine 0 = .ok (.aload_n 0, 1) := by decide +kernel
theorem dX3_readLine_1 : decode cX3_readLine 1 = .ok (.bipush 8, 2) := by decide +kernel
theorem dX3_readLine_3 : decode cX3_readLine 3 = .ok (.invokevirtual 110, 3) := by decide +kernel
theorem dX3_readLine_6 : decode cX3_readLine 6 = .ok (.ifCond .eq 8, 3) := by decide +kernel
theorem dX3_readLine_9 : decode cX3_readLine 9 = .ok (.aload_n 0, 1) := by decide +kernel
theorem dX3_readLine_10 : decode cX3_readLine 10 = .ok (.invokevirtual 113, 3) := by decide +kernel
theorem dX3_readLine_13 : decode cX3_readLine 13 = .ok (.ireturn, 1) := by decide +kernel
theorem dX3_readLine_14 : decode cX3_readLine 14 = .ok (.aload_n 0, 1) := by decide +kernel
theorem dX3_readLine_15 : decode cX3_readLine 15 = .ok (.bipush 9, 2) := by decide +kernel
theorem dX3_readLine_17 : decode cX3_readLine 17 = .ok (.invokevirtual 110, 3) := by decide +kernel
theorem dX3_readLine_20 : decode cX3_readLine 20 = .ok (.ifCond .eq 8, 3) := by decide +kernel
theorem dX3_readLine_23 : decode cX3_readLine 23 = .ok (.aload_n 0, 1) := by decide +kernel
theorem dX3_readLine_24 : decode cX3_readLine 24 = .ok (.invokevirtual 116, 3) := by decide +kernel
theorem dX3_readLine_27 : decode cX3_readLine 27 = .ok (.ireturn, 1) := by decide +kernel
theorem dX3_readLine_28 : decode cX3_readLine 28 = .ok (.aload_n 0, 1) := by decide +kernel
theorem dX3_readLine_29 : decode cX3_readLine 29 = .ok (.bipush 10, 2) := by decide +kernel
theorem dX3_readLine_31 : decode cX3_readLine 31 = .ok (.invokevirtual 110, 3) := by decide +kernel
theorem dX3_readLine_34 : decode cX3_readLine 34 = .ok (.ifCond .eq 8, 3) := by decide +kernel
theorem dX3_readLine_37 : decode cX3_readLine 37 = .ok (.aload_n 0, 1) := by decide +kernel
theorem dX3_readLine_38 : decode cX3_readLine 38 = .ok (.invokevirtual 119, 3) := by decide +kernel
theorem dX3_readLine_41 : decode cX3_readLine 41 = .ok (.ireturn, 1) := by decide +kernel
theorem dX3_readLine_42 : decode cX3_readLine 42 = .ok (.aload_n 0, 1) := by decide +kernel
theorem dX3_readLine_43 : decode cX3_readLine 43 = .ok (.bipush 11, 2) := by decide +kernel
theorem dX3_readLine_45 : decode cX3_readLine 45 = .ok (.invokevirtual 110, 3) := by decide +kernel
theorem dX3_readLine_48 : decode cX3_readLine 48 = .ok (.ifCond .eq 8, 3) := by decide +kernel
theorem dX3_readLine_51 : decode cX3_readLine 51 = .ok (.aload_n 0, 1) := by decide +kernel
theorem dX3_readLine_52 : decode cX3_readLine 52 = .ok (.invokevirtual 122, 3) := by decide +kernel
theorem dX3_readLine_55 : decode cX3_readLine 55 = .ok (.ireturn, 1) := by decide +kernel
theorem dX3_readLine_56 : decode cX3_readLine 56 = .ok (.aload_n 0, 1) := by decide +kernel
theorem dX3_readLine_57 : decode cX3_readLine 57 = .ok (.iconst 1, 1) := by decide +kernel
theorem dX3_readLine_58 : decode cX3_readLine 58 = .ok (.invokevirtual 125, 3) := by decide +kernel
theorem dX3_readLine_61 : decode cX3_readLine 61 = .ok (.ireturn, 1) := by decide +kernel
theorem dX3_readLimit_0 : decode cX3_readLimit 0 = .ok (.aload_n 0, 1) := by decide +kernel
theorem dX3_readLimit_1 : decode cX3_readLimit 1 = .ok (.getfield 12, 3) := by decide +kernel
theorem dX3_readLimit_4 : decode cX3_readLimit 4 = .ok (.getfield 128, 3) := by decide +kernel
theorem dX3_readLimit_7 : decode cX3_readLimit 7 = .ok (.ifCond .le 9, 3) := by decide +kernel
theorem dX3_readLimit_10 : decode cX3_readLimit 10 = .ok (.aload_n 0, 1) := by decide +kernel
theorem dX3_readLimit_11 : decode cX3_readLimit 11 = .ok (.iconst 5, 1) := by decide +kernel
theorem dX3_readLimit_12 : decode cX3_readLimit 12 = .ok (.invokevirtual 125, 3) := by decide +kernel
theorem dX3_readLimit_15 : decode cX3_readLimit 15 = .ok (.ireturn, 1) := by decide +kernel
theorem dX3_readLimit_16 : decode cX3_readLimit 16 = .ok (.aload_n 0, 1) := by decide +kernel
theorem dX3_readLimit_17 : decode cX3_readLimit 17 = .ok (.invokevirtual 87, 3) := by decide +kernel
theorem dX3_readLimit_20 : decode cX3_readLimit 20 = .ok (.aload_n 0, 1) := by decide +kernel
theorem dX3_readLimit_21 : decode cX3_readLimit 21 = .ok (.iconst 0, 1) := by decide +kernel
theorem dX3_readLimit_22 : decode cX3_readLimit 22 = .ok (.bipush 23, 2) := by decide +kernel
theorem dX3_readLimit_24 : decode cX3_readLimit 24 = .ok (.invokevirtual 101, 3) := by decide +kernel
theorem dX3_readLimit_27 : decode cX3_readLimit 27 = .ok (.ifCond .ne 5, 3) := by decide +kernel
theorem dX3_readLimit_30 : decode cX3_readLimit 30 = .ok (.iconst 0, 1) := by decide +kernel
theorem dX3_readLimit_31 : decode cX3_readLimit 31 = .ok (.ireturn, 1) := by decide +kernel
theorem dX3_readLimit_32 : decode cX3_readLimit 32 = .ok (.aload_n 0, 1) := by decide +kernel
theorem dX3_readLimit_33 : decode cX3_readLimit 33 = .ok (.getfield 51, 3) := by decide +kernel
theorem dX3_readLimit_36 : decode cX3_readLimit 36 = .ok (.istore_n 1, 1) := by decide +kernel
theorem dX3_readLimit_37 : decode cX3_readLimit 37 = .ok (.aload_n 0, 1) := by decide +kernel
theorem dX3_readLimit_38 : decode cX3_readLimit 38 = .ok (.getfield 54, 3) := by decide +kernel
theorem dX3_readLimit_41 : decode cX3_readLimit 41 = .ok (.iload_n 1, 1) := by decide +kernel
theorem dX3_readLimit_42 : decode cX3_readLimit 42 = .ok (.invokestatic 131, 3) := by decide +kernel
theorem dX3_readLimit_45 : decode cX3_readLimit 45 = .ok (.ifCond .eq 9, 3) := by decide +kernel
theorem dX3_readLimit_48 : decode cX3_readLimit 48 = .ok (.aload_n 0, 1) := by decide +kernel
theorem dX3_readLimit_49 : decode cX3_readLimit 49 = .ok (.iconst 3, 1) := by decide +kernel
theorem dX3_readLimit_50 : decode cX3_readLimit 50 = .ok (.invokevirtual 125, 3) := by decide +kernel
theorem dX3_readLimit_53 : decode cX3_readLimit 53 = .ok (.ireturn, 1) := by decide +kernel
theorem dX3_readLimit_54 : decode cX3_readLimit 54 = .ok (.aload_n 0, 1) := by decide +kernel
theorem dX3_readLimit_55 : decode cX3_readLimit 55 = .ok (.dup, 1) := by decide +kernel
theorem dX3_readLimit_56 : decode cX3_readLimit 56 = .ok (.getfield 54, 3) := by decide +kernel
theorem dX3_readLimit_59 : decode cX3_readLimit 59 = .ok (.iconst 1, 1) := by decide +kernel
theorem dX3_readLimit_60 : decode cX3_readLimit 60 = .ok (.iload_n 1, 1) := by decide +kernel
theorem dX3_readLimit_61 : decode cX3_readLimit 61 = .ok (.ishl, 1) := by decide +kernel
theorem dX3_readLimit_62 : decode cX3_readLimit 62 = .ok (.ior, 1) := by decide +kernel
theorem dX3_readLimit_63 : decode cX3_readLimit 63 = .ok (.putfield 54, 3) := by decide +kernel
theorem dX3_readLimit_66 : decode cX3_readLimit 66 = .ok (.aload_n 0, 1) := by decide +kernel
theorem dX3_readLimit_67 : decode cX3_readLimit 67 = .ok (.invokevirtual 87, 3) := by decide +kernel
theorem dX3_readLimit_70 : decode cX3_readLimit 70 = .ok (.aload_n 0, 1) := by decide +kernel
theorem dX3_readLimit_71 : decode cX3_readLimit 71 = .ok (.iconst 0, 1) := by decide +kernel
theorem dX3_readLimit_72 : decode cX3_readLimit 72 = .ok (.bipush 9, 2) := by decide +kernel
theorem dX3_readLimit_74 : decode cX3_readLimit 74 = .ok (.invokevirtual 101, 3) := by decide +kernel
theorem dX3_readLimit_77 : decode cX3_readLimit 77 = .ok (.ifCond .ne 5, 3) := by decide +kernel
theorem dX3_readLimit_80 : decode cX3_readLimit 80 = .ok (.iconst 0, 1) := by decide +kernel
theorem dX3_readLimit_81 : decode cX3_readLimit 81 = .ok (.ireturn, 1) := by decide +kernel
theorem dX3_readLimit_82 : decode cX3_readLimit 82 = .ok (.aload_n 0, 1) := by decide +kernel
theorem dX3_readLimit_83 : decode cX3_readLimit 83 = .ok (.getfield 51, 3) := by decide +kernel
theorem dX3_readLimit_86 : decode cX3_readLimit 86 = .ok (.istore_n 2, 1) := by decide +kernel
theorem dX3_readLimit_87 : decode cX3_readLimit 87 = .ok (.aload_n 0, 1) := by decide +kernel
theorem dX3_readLimit_88 : decode cX3_readLimit 88 = .ok (.invokevirtual 87, 3) := by decide +kernel
theorem dX3_readLimit_91 : decode cX3_readLimit 91 = .ok (.aload_n 0, 1) := by decide +kernel
theorem dX3_readLimit_92 : decode cX3_readLimit 92 = .ok (.bipush 12, 2) := by decide +kernel
theorem dX3_readLimit_94 : decode cX3_readLimit 94 = .ok (.invokevirtual 97, 3) := by decide +kernel
theorem dX3_readLimit_97 : decode cX3_readLimit 97 = .ok (.ifCond .eq 12, 3) := by decide +kernel
theorem dX3_readLimit_100 : decode cX3_readLimit 100 = .ok (.aload_n 0, 1) := by decide +kernel
theorem dX3_readLimit_101 : decode cX3_readLimit 101 = .ok (.iconst 0, 1) := by decide +kernel
theorem dX3_readLimit_102 : decode cX3_readLimit 102 = .ok (.iload_n 2, 1) := by decide +kernel
theorem dX3_readLimit_103 : decode cX3_readLimit 103 = .ok (.invokevirtual 101, 3) := by decide +kernel
theorem dX3_readLimit_106 : decode cX3_readLimit 106 = .ok (.ifCond .ne 5, 3) := by decide +kernel
theorem dX3_readLimit_109 : decode cX3_readLimit 109 = .ok (.iconst 0, 1) := by decide +kernel
theorem dX3_readLimit_110 : decode cX3_readLimit 110 = .ok (.ireturn, 1) := by decide +kernel
theorem dX3_readLimit_111 : decode cX3_readLimit 111 = .ok (.aload_n 0, 1) := by decide +kernel
theorem dX3_readLimit_112 : decode cX3_readLimit 112 = .ok (.getfield 12, 3) := by decide +kernel
theorem dX3_readLimit_115 : decode cX3_readLimit 115 = .ok (.getfield 134, 3) := by decide +kernel
theorem dX3_readLimit_118 : decode cX3_readLimit 118 = .ok (.iload_n 1, 1) := by decide +kernel
theorem dX3_readLimit_119 : decode cX3_readLimit 119 = .ok (.iload_n 2, 1) := by decide +kernel
theorem dX3_readLimit_120 : decode cX3_readLimit 120 = .ok (.iastore, 1) := by decide +kernel
theorem dX3_readLimit_121 : decode cX3_readLimit 121 = .ok (.aload_n 0, 1) := by decide +kernel
theorem dX3_readLimit_122 : decode cX3_readLimit 122 = .ok (.getfield 12, 3) := by decide +kernel
theorem dX3_readLimit_125 : decode cX3_readLimit 125 = .ok (.getfield 138, 3) := by decide +kernel
theorem dX3_readLimit_128 : decode cX3_readLimit 128 = .ok (.iload_n 1, 1) := by decide +kernel
theorem dX3_readLimit_129 : decode cX3_readLimit 129 = .ok (.aload_n 0, 1) := by decide +kernel
theorem dX3_readLimit_130 : decode cX3_readLimit 130 = .ok (.getfield 51, 3) := by decide +kernel
theorem dX3_readLimit_133 : decode cX3_readLimit 133 = .ok (.iastore, 1) := by decide +kernel
theorem dX3_readLimit_134 : decode cX3_readLimit 134 = .ok (.aload_n 0, 1) := by decide +kernel
theorem dX3_readLimit_135 : decode cX3_readLimit 135 = .ok (.invokevirtual 87, 3) := by decide +kernel
theorem dX3_readLimit_138 : decode cX3_readLimit 138 = .ok (.aload_n 0, 1) := by decide +kernel
theorem dX3_readLimit_139 : decode cX3_readLimit 139 = .ok (.bipush 59, 2) := by decide +kernel
theorem dX3_readLimit_141 : decode cX3_readLimit 141 = .ok (.invokevirtual 106, 3) := by decide +kernel
theorem dX3_readLimit_144 : decode cX3_readLimit 144 = .ok (.ireturn, 1) := by decide +kernel
theorem dX3_readCarrier_0 : decode cX3_readCarrier 0 = .ok (.aload_n 0, 1) := by decide +kernel
theorem dX3_readCarrier_1 : decode cX3_readCarrier 1 = .ok (.getfield 21, 3) := by decide +kernel
theorem dX3_readCarrier_4 : decode cX3_readCarrier 4 = .ok (.getfield 84, 3) := by decide +kernel
theorem dX3_readCarrier_7 : decode cX3_readCarrier 7 = .ok (.bipush 8, 2) := by decide +kernel
theorem dX3_readCarrier_9 : decode cX3_readCarrier 9 = .ok (.if_icmp .lt 9, 3) := by decide +kernel
theorem dX3_readCarrier_12 : decode cX3_readCarrier 12 = .ok (.aload_n 0, 1) := by decide +kernel
theorem dX3_readCarrier_13 : decode cX3_readCarrier 13 = .ok (.iconst 5, 1) := by decide +kernel
theorem dX3_readCarrier_14 : decode cX3_readCarrier 14 = .ok (.invokevirtual 125, 3) := by decide +kernel
theorem dX3_readCarrier_17 : decode cX3_readCarrier 17 = .ok (.ireturn, 1) := by decide +kernel
theorem dX3_readCarrier_18 : decode cX3_readCarrier 18 = .ok (.aload_n 0, 1) := by decide +kernel
theorem dX3_readCarrier_19 : decode cX3_readCarrier 19 = .ok (.invokevirtual 87, 3) := by decide +kernel
theorem dX3_readCarrier_22 : decode cX3_readCarrier 22 = .ok (.aload_n 0, 1) := by decide +kernel
theorem dX3_readCarrier_23 : decode cX3_readCarrier 23 = .ok (.invokevirtual 141, 3) := by decide +kernel
theorem dX3_readCarrier_26 : decode cX3_readCarrier 26 = .ok (.ifCond .ne 9, 3) := by decide +kernel
theorem dX3_readCarrier_29 : decode cX3_readCarrier 29 = .ok (.aload_n 0, 1) := by decide +kernel
theorem dX3_readCarrier_30 : decode cX3_readCarrier 30 = .ok (.iconst 1, 1) := by decide +kernel
theorem dX3_readCarrier_31 : decode cX3_readCarrier 31 = .ok (.invokevirtual 125, 3) := by decide +kernel
theorem dX3_readCarrier_34 : decode cX3_readCarrier 34 = .ok (.ireturn, 1) := by decide +kernel
theorem dX3_readCarrier_35 : decode cX3_readCarrier 35 = .ok (.aload_n 0, 1) := by decide +kernel
theorem dX3_readCarrier_36 : decode cX3_readCarrier 36 = .ok (.getfield 21, 3) := by decide +kernel
theorem dX3_readCarrier_39 : decode cX3_readCarrier 39 = .ok (.aload_n 0, 1) := by decide +kernel
theorem dX3_readCarrier_40 : decode cX3_readCarrier 40 = .ok (.getfield 35, 3) := by decide +kernel
theorem dX3_readCarrier_43 : decode cX3_readCarrier 43 = .ok (.aload_n 0, 1) := by decide +kernel
theorem dX3_readCarrier_44 : decode cX3_readCarrier 44 = .ok (.getfield 42, 3) := by decide +kernel
theorem dX3_readCarrier_47 : decode cX3_readCarrier 47 = .ok (.aload_n 0, 1) := by decide +kernel
theorem dX3_readCarrier_48 : decode cX3_readCarrier 48 = .ok (.getfield 45, 3) := by decide +kernel
theorem dX3_readCarrier_51 : decode cX3_readCarrier 51 = .ok (.invokevirtual 144, 3) := by decide +kernel
theorem dX3_readCarrier_54 : decode cX3_readCarrier 54 = .ok (.iconst (-1), 1) := by decide +kernel
theorem dX3_readCarrier_55 : decode cX3_readCarrier 55 = .ok (.if_icmp .eq 9, 3) := by decide +kernel
theorem dX3_readCarrier_58 : decode cX3_readCarrier 58 = .ok (.aload_n 0, 1) := by decide +kernel
theorem dX3_readCarrier_59 : decode cX3_readCarrier 59 = .ok (.iconst 3, 1) := by decide +kernel
theorem dX3_readCarrier_60 : decode cX3_readCarrier 60 = .ok (.invokevirtual 125, 3) := by decide +kernel
theorem dX3_readCarrier_63 : decode cX3_readCarrier 63 = .ok (.ireturn, 1) := by decide +kernel
theorem dX3_readCarrier_64 : decode cX3_readCarrier 64 = .ok (.aload_n 0, 1) := by decide +kernel
theorem dX3_readCarrier_65 : decode cX3_readCarrier 65 = .ok (.getfield 21, 3) := by decide +kernel
theorem dX3_readCarrier_68 : decode cX3_readCarrier 68 = .ok (.aload_n 0, 1) := by decide +kernel
theorem dX3_readCarrier_69 : decode cX3_readCarrier 69 = .ok (.getfield 35, 3) := by decide +kernel
theorem dX3_readCarrier_72 : decode cX3_readCarrier 72 = .ok (.aload_n 0, 1) := by decide +kernel
theorem dX3_readCarrier_73 : decode cX3_readCarrier 73 = .ok (.getfield 42, 3) := by decide +kernel
theorem dX3_readCarrier_76 : decode cX3_readCarrier 76 = .ok (.aload_n 0, 1) := by decide +kernel
theorem dX3_readCarrier_77 : decode cX3_readCarrier 77 = .ok (.getfield 45, 3) := by decide +kernel
theorem dX3_readCarrier_80 : decode cX3_readCarrier 80 = .ok (.invokevirtual 148, 3) := by decide +kernel
theorem dX3_readCarrier_83 : decode cX3_readCarrier 83 = .ok (.aload_n 0, 1) := by decide +kernel
theorem dX3_readCarrier_84 : decode cX3_readCarrier 84 = .ok (.invokevirtual 87, 3) := by decide +kernel
theorem dX3_readCarrier_87 : decode cX3_readCarrier 87 = .ok (.aload_n 0, 1) := by decide +kernel
theorem dX3_readCarrier_88 : decode cX3_readCarrier 88 = .ok (.bipush 59, 2) := by decide +kernel
theorem dX3_readCarrier_90 : decode cX3_readCarrier 90 = .ok (.invokevirtual 106, 3) := by decide +kernel
theorem dX3_readCarrier_93 : decode cX3_readCarrier 93 = .ok (.ireturn, 1) := by decide +kernel
theorem dX3_readSeries_0 : decode cX3_readSeries 0 = .ok (.aload_n 0, 1) := by decide +kernel
theorem dX3_readSeries_1 : decode cX3_readSeries 1 = .ok (.getfield 12, 3) := by decide +kernel
theorem dX3_readSeries_4 : decode cX3_readSeries 4 = .ok (.getfield 128, 3) := by decide +kernel
theorem dX3_readSeries_7 : decode cX3_readSeries 7 = .ok (.bipush 24, 2) := by decide +kernel
theorem dX3_readSeries_9 : decode cX3_readSeries 9 = .ok (.if_icmp .lt 9, 3) := by decide +kernel
theorem dX3_readSeries_12 : decode cX3_readSeries 12 = .ok (.aload_n 0, 1) := by decide +kernel
theorem dX3_readSeries_13 : decode cX3_readSeries 13 = .ok (.iconst 5, 1) := by decide +kernel
theorem dX3_readSeries_14 : decode cX3_readSeries 14 = .ok (.invokevirtual 125, 3) := by decide +kernel
theorem dX3_readSeries_17 : decode cX3_readSeries 17 = .ok (.ireturn, 1) := by decide +kernel
theorem dX3_readSeries_18 : decode cX3_readSeries 18 = .ok (.aload_n 0, 1) := by decide +kernel
theorem dX3_readSeries_19 : decode cX3_readSeries 19 = .ok (.invokevirtual 87, 3) := by decide +kernel
theorem dX3_readSeries_22 : decode cX3_readSeries 22 = .ok (.aload_n 0, 1) := by decide +kernel
theorem dX3_readSeries_23 : decode cX3_readSeries 23 = .ok (.invokevirtual 152, 3) := by decide +kernel
theorem dX3_readSeries_26 : decode cX3_readSeries 26 = .ok (.ifCond .eq 10, 3) := by decide +kernel
theorem dX3_readSeries_29 : decode cX3_readSeries 29 = .ok (.aload_n 0, 1) := by decide +kernel
theorem dX3_readSeries_30 : decode cX3_readSeries 30 = .ok (.invokevirtual 155, 3) := by decide +kernel
theorem dX3_readSeries_33 : decode cX3_readSeries 33 = .ok (.ifCond .ne 5, 3) := by decide +kernel
theorem dX3_readSeries_36 : decode cX3_readSeries 36 = .ok (.iconst 0, 1) := by decide +kernel
theorem dX3_readSeries_37 : decode cX3_readSeries 37 = .ok (.ireturn, 1) := by decide +kernel
theorem dX3_readSeries_38 : decode cX3_readSeries 38 = .ok (.aload_n 0, 1) := by decide +kernel
theorem dX3_readSeries_39 : decode cX3_readSeries 39 = .ok (.bipush 14, 2) := by decide +kernel
theorem dX3_readSeries_41 : decode cX3_readSeries 41 = .ok (.invokevirtual 110, 3) := by decide +kernel
theorem dX3_readSeries_44 : decode cX3_readSeries 44 = .ok (.istore_n 1, 1) := by decide +kernel
theorem dX3_readSeries_45 : decode cX3_readSeries 45 = .ok (.iload_n 1, 1) := by decide +kernel
theorem dX3_readSeries_46 : decode cX3_readSeries 46 = .ok (.ifCond .eq 7, 3) := by decide +kernel
theorem dX3_readSeries_49 : decode cX3_readSeries 49 = .ok (.aload_n 0, 1) := by decide +kernel
theorem dX3_readSeries_50 : decode cX3_readSeries 50 = .ok (.invokevirtual 87, 3) := by decide +kernel
theorem dX3_readSeries_53 : decode cX3_readSeries 53 = .ok (.aload_n 0, 1) := by decide +kernel
theorem dX3_readSeries_54 : decode cX3_readSeries 54 = .ok (.bipush 59, 2) := by decide +kernel
theorem dX3_readSeries_56 : decode cX3_readSeries 56 = .ok (.invokevirtual 158, 3) := by decide +kernel
theorem dX3_readSeries_59 : decode cX3_readSeries 59 = .ok (.ifCond .ne 9, 3) := by decide +kernel
theorem dX3_readSeries_62 : decode cX3_readSeries 62 = .ok (.aload_n 0, 1) := by decide +kernel
theorem dX3_readSeries_63 : decode cX3_readSeries 63 = .ok (.iconst 1, 1) := by decide +kernel
theorem dX3_readSeries_64 : decode cX3_readSeries 64 = .ok (.invokevirtual 125, 3) := by decide +kernel
theorem dX3_readSeries_67 : decode cX3_readSeries 67 = .ok (.ireturn, 1) := by decide +kernel
theorem dX3_readSeries_68 : decode cX3_readSeries 68 = .ok (.aload_n 0, 1) := by decide +kernel
theorem dX3_readSeries_69 : decode cX3_readSeries 69 = .ok (.getfield 12, 3) := by decide +kernel
theorem dX3_readSeries_72 : decode cX3_readSeries 72 = .ok (.aload_n 0, 1) := by decide +kernel
theorem dX3_readSeries_73 : decode cX3_readSeries 73 = .ok (.getfield 60, 3) := by decide +kernel
theorem dX3_readSeries_76 : decode cX3_readSeries 76 = .ok (.aload_n 0, 1) := by decide +kernel
theorem dX3_readSeries_77 : decode cX3_readSeries 77 = .ok (.getfield 63, 3) := by decide +kernel
theorem dX3_readSeries_80 : decode cX3_readSeries 80 = .ok (.aload_n 0, 1) := by decide +kernel
theorem dX3_readSeries_81 : decode cX3_readSeries 81 = .ok (.getfield 66, 3) := by decide +kernel
theorem dX3_readSeries_84 : decode cX3_readSeries 84 = .ok (.aload_n 0, 1) := by decide +kernel
theorem dX3_readSeries_85 : decode cX3_readSeries 85 = .ok (.getfield 69, 3) := by decide +kernel
theorem dX3_readSeries_88 : decode cX3_readSeries 88 = .ok (.aload_n 0, 1) := by decide +kernel
theorem dX3_readSeries_89 : decode cX3_readSeries 89 = .ok (.getfield 72, 3) := by decide +kernel
theorem dX3_readSeries_92 : decode cX3_readSeries 92 = .ok (.invokestatic 161, 3) := by decide +kernel
theorem dX3_readSeries_95 : decode cX3_readSeries 95 = .ok (.iconst 0, 1) := by decide +kernel
theorem dX3_readSeries_96 : decode cX3_readSeries 96 = .ok (.invokevirtual 164, 3) := by decide +kernel
theorem dX3_readSeries_99 : decode cX3_readSeries 99 = .ok (.ifCond .ne 10, 3) := by decide +kernel
theorem dX3_readSeries_102 : decode cX3_readSeries 102 = .ok (.aload_n 0, 1) := by decide +kernel
theorem dX3_readSeries_103 : decode cX3_readSeries 103 = .ok (.bipush 6, 2) := by decide +kernel
theorem dX3_readSeries_105 : decode cX3_readSeries 105 = .ok (.invokevirtual 125, 3) := by decide +kernel
theorem dX3_readSeries_108 : decode cX3_readSeries 108 = .ok (.ireturn, 1) := by decide +kernel
theorem dX3_readSeries_109 : decode cX3_readSeries 109 = .ok (.aload_n 0, 1) := by decide +kernel
theorem dX3_readSeries_110 : decode cX3_readSeries 110 = .ok (.getfield 12, 3) := by decide +kernel
theorem dX3_readSeries_113 : decode cX3_readSeries 113 = .ok (.invokevirtual 168, 3) := by decide +kernel
theorem dX3_readSeries_116 : decode cX3_readSeries 116 = .ok (.astore_n 2, 1) := by decide +kernel
theorem dX3_readSeries_117 : decode cX3_readSeries 117 = .ok (.aload_n 2, 1) := by decide +kernel
theorem dX3_readSeries_118 : decode cX3_readSeries 118 = .ok (.aload_n 0, 1) := by decide +kernel
theorem dX3_readSeries_119 : decode cX3_readSeries 119 = .ok (.getfield 57, 3) := by decide +kernel
theorem dX3_readSeries_122 : decode cX3_readSeries 122 = .ok (.aload_n 0, 1) := by decide +kernel
theorem dX3_readSeries_123 : decode cX3_readSeries 123 = .ok (.getfield 60, 3) := by decide +kernel
theorem dX3_readSeries_126 : decode cX3_readSeries 126 = .ok (.aload_n 0, 1) := by decide +kernel
theorem dX3_readSeries_127 : decode cX3_readSeries 127 = .ok (.getfield 63, 3) := by decide +kernel
theorem dX3_readSeries_130 : decode cX3_readSeries 130 = .ok (.aload_n 0, 1) := by decide +kernel
theorem dX3_readSeries_131 : decode cX3_readSeries 131 = .ok (.getfield 66, 3) := by decide +kernel
theorem dX3_readSeries_134 : decode cX3_readSeries 134 = .ok (.invokevirtual 172, 3) := by decide +kernel
theorem dX3_readSeries_137 : decode cX3_readSeries 137 = .ok (.aload_n 2, 1) := by decide +kernel
theorem dX3_readSeries_138 : decode cX3_readSeries 138 = .ok (.aload_n 0, 1) := by decide +kernel
theorem dX3_readSeries_139 : decode cX3_readSeries 139 = .ok (.getfield 69, 3) := by decide +kernel
theorem dX3_readSeries_142 : decode cX3_readSeries 142 = .ok (.aload_n 0, 1) := by decide +kernel
theorem dX3_readSeries_143 : decode cX3_readSeries 143 = .ok (.getfield 72, 3) := by decide +kernel
theorem dX3_readSeries_146 : decode cX3_readSeries 146 = .ok (.invokevirtual 178, 3) := by decide +kernel
theorem dX3_readSeries_149 : decode cX3_readSeries 149 = .ok (.aload_n 2, 1) := by decide +kernel
theorem dX3_readSeries_150 : decode cX3_readSeries 150 = .ok (.iload_n 1, 1) := by decide +kernel
theorem dX3_readSeries_151 : decode cX3_readSeries 151 = .ok (.putfield 182, 3) := by decide +kernel
theorem dX3_readSeries_154 : decode cX3_readSeries 154 = .ok (.aload_n 0, 1) := by decide +kernel
theorem dX3_readSeries_155 : decode cX3_readSeries 155 = .ok (.invokevirtual 87, 3) := by decide +kernel
theorem dX3_readSeries_158 : decode cX3_readSeries 158 = .ok (.iconst 1, 1) := by decide +kernel
theorem dX3_readSeries_159 : decode cX3_readSeries 159 = .ok (.ireturn, 1) := by decide +kernel
theorem dX3_readAsk_0 : decode cX3_readAsk 0 = .ok (.aload_n 0, 1) := by decide +kernel
theorem dX3_readAsk_1 : decode cX3_readAsk 1 = .ok (.getfield 12, 3) := by decide +kernel
theorem dX3_readAsk_4 : decode cX3_readAsk 4 = .ok (.getfield 186, 3) := by decide +kernel
theorem dX3_readAsk_7 : decode cX3_readAsk 7 = .ok (.bipush 24, 2) := by decide +kernel
theorem dX3_readAsk_9 : decode cX3_readAsk 9 = .ok (.if_icmp .lt 9, 3) := by decide +kernel
theorem dX3_readAsk_12 : decode cX3_readAsk 12 = .ok (.aload_n 0, 1) := by decide +kernel
theorem dX3_readAsk_13 : decode cX3_readAsk 13 = .ok (.iconst 5, 1) := by decide +kernel
theorem dX3_readAsk_14 : decode cX3_readAsk 14 = .ok (.invokevirtual 125, 3) := by decide +kernel
theorem dX3_readAsk_17 : decode cX3_readAsk 17 = .ok (.ireturn, 1) := by decide +kernel
theorem dX3_readAsk_18 : decode cX3_readAsk 18 = .ok (.aload_n 0, 1) := by decide +kernel
theorem dX3_readAsk_19 : decode cX3_readAsk 19 = .ok (.invokevirtual 87, 3) := by decide +kernel
theorem dX3_readAsk_22 : decode cX3_readAsk 22 = .ok (.aload_n 0, 1) := by decide +kernel
theorem dX3_readAsk_23 : decode cX3_readAsk 23 = .ok (.invokevirtual 152, 3) := by decide +kernel
theorem dX3_readAsk_26 : decode cX3_readAsk 26 = .ok (.ifCond .eq 10, 3) := by decide +kernel
theorem dX3_readAsk_29 : decode cX3_readAsk 29 = .ok (.aload_n 0, 1) := by decide +kernel
theorem dX3_readAsk_30 : decode cX3_readAsk 30 = .ok (.invokevirtual 155, 3) := by decide +kernel
theorem dX3_readAsk_33 : decode cX3_readAsk 33 = .ok (.ifCond .ne 5, 3) := by decide +kernel
theorem dX3_readAsk_36 : decode cX3_readAsk 36 = .ok (.iconst 0, 1) := by decide +kernel
theorem dX3_readAsk_37 : decode cX3_readAsk 37 = .ok (.ireturn, 1) := by decide +kernel
theorem dX3_readAsk_38 : decode cX3_readAsk 38 = .ok (.iconst 0, 1) := by decide +kernel
theorem dX3_readAsk_39 : decode cX3_readAsk 39 = .ok (.istore_n 1, 1) := by decide +kernel
theorem dX3_readAsk_40 : decode cX3_readAsk 40 = .ok (.aload_n 0, 1) := by decide +kernel
theorem dX3_readAsk_41 : decode cX3_readAsk 41 = .ok (.bipush 15, 2) := by decide +kernel
theorem dX3_readAsk_43 : decode cX3_readAsk 43 = .ok (.invokevirtual 110, 3) := by decide +kernel
theorem dX3_readAsk_46 : decode cX3_readAsk 46 = .ok (.ifCond .eq 28, 3) := by decide +kernel
theorem dX3_readAsk_49 : decode cX3_readAsk 49 = .ok (.aload_n 0, 1) := by decide +kernel
theorem dX3_readAsk_50 : decode cX3_readAsk 50 = .ok (.invokevirtual 87, 3) := by decide +kernel
theorem dX3_readAsk_53 : decode cX3_readAsk 53 = .ok (.aload_n 0, 1) := by decide +kernel
theorem dX3_readAsk_54 : decode cX3_readAsk 54 = .ok (.iconst 0, 1) := by decide +kernel
theorem dX3_readAsk_55 : decode cX3_readAsk 55 = .ok (.bipush 9, 2) := by decide +kernel
theorem dX3_readAsk_57 : decode cX3_readAsk 57 = .ok (.invokevirtual 101, 3) := by decide +kernel
theorem dX3_readAsk_60 : decode cX3_readAsk 60 = .ok (.ifCond .ne 5, 3) := by decide +kernel
theorem dX3_readAsk_63 : decode cX3_readAsk 63 = .ok (.iconst 0, 1) := by decide +kernel
theorem dX3_readAsk_64 : decode cX3_readAsk 64 = .ok (.ireturn, 1) := by decide +kernel
theorem dX3_readAsk_65 : decode cX3_readAsk 65 = .ok (.aload_n 0, 1) := by decide +kernel
theorem dX3_readAsk_66 : decode cX3_readAsk 66 = .ok (.getfield 51, 3) := by decide +kernel
theorem dX3_readAsk_69 : decode cX3_readAsk 69 = .ok (.istore_n 1, 1) := by decide +kernel
theorem dX3_readAsk_70 : decode cX3_readAsk 70 = .ok (.aload_n 0, 1) := by decide +kernel
theorem dX3_readAsk_71 : decode cX3_readAsk 71 = .ok (.invokevirtual 87, 3) := by decide +kernel
theorem dX3_readAsk_74 : decode cX3_readAsk 74 = .ok (.aload_n 0, 1) := by decide +kernel
theorem dX3_readAsk_75 : decode cX3_readAsk 75 = .ok (.getfield 12, 3) := by decide +kernel
theorem dX3_readAsk_78 : decode cX3_readAsk 78 = .ok (.invokevirtual 189, 3) := by decide +kernel
theorem dX3_readAsk_81 : decode cX3_readAsk 81 = .ok (.astore_n 2, 1) := by decide +kernel
theorem dX3_readAsk_82 : decode cX3_readAsk 82 = .ok (.aload_n 2, 1) := by decide +kernel
theorem dX3_readAsk_83 : decode cX3_readAsk 83 = .ok (.aload_n 0, 1) := by decide +kernel
theorem dX3_readAsk_84 : decode cX3_readAsk 84 = .ok (.getfield 57, 3) := by decide +kernel
theorem dX3_readAsk_87 : decode cX3_readAsk 87 = .ok (.aload_n 0, 1) := by decide +kernel
theorem dX3_readAsk_88 : decode cX3_readAsk 88 = .ok (.getfield 60, 3) := by decide +kernel
theorem dX3_readAsk_91 : decode cX3_readAsk 91 = .ok (.aload_n 0, 1) := by decide +kernel
theorem dX3_readAsk_92 : decode cX3_readAsk 92 = .ok (.getfield 63, 3) := by decide +kernel
theorem dX3_readAsk_95 : decode cX3_readAsk 95 = .ok (.aload_n 0, 1) := by decide +kernel
theorem dX3_readAsk_96 : decode cX3_readAsk 96 = .ok (.getfield 66, 3) := by decide +kernel
theorem dX3_readAsk_99 : decode cX3_readAsk 99 = .ok (.invokevirtual 193, 3) := by decide +kernel
theorem dX3_readAsk_102 : decode cX3_readAsk 102 = .ok (.aload_n 2, 1) := by decide +kernel
theorem dX3_readAsk_103 : decode cX3_readAsk 103 = .ok (.aload_n 0, 1) := by decide +kernel
theorem dX3_readAsk_104 : decode cX3_readAsk 104 = .ok (.getfield 69, 3) := by decide +kernel
theorem dX3_readAsk_107 : decode cX3_readAsk 107 = .ok (.aload_n 0, 1) := by decide +kernel
theorem dX3_readAsk_108 : decode cX3_readAsk 108 = .ok (.getfield 72, 3) := by decide +kernel
theorem dX3_readAsk_111 : decode cX3_readAsk 111 = .ok (.iload_n 1, 1) := by decide +kernel
theorem dX3_readAsk_112 : decode cX3_readAsk 112 = .ok (.invokevirtual 196, 3) := by decide +kernel
theorem dX3_readAsk_115 : decode cX3_readAsk 115 = .ok (.aload_n 0, 1) := by decide +kernel
theorem dX3_readAsk_116 : decode cX3_readAsk 116 = .ok (.bipush 59, 2) := by decide +kernel
theorem dX3_readAsk_118 : decode cX3_readAsk 118 = .ok (.invokevirtual 106, 3) := by decide +kernel
theorem dX3_readAsk_121 : decode cX3_readAsk 121 = .ok (.ireturn, 1) := by decide +kernel
theorem dX3_readPlace_0 : decode cX3_readPlace 0 = .ok (.aload_n 0, 1) := by decide +kernel
theorem dX3_readPlace_1 : decode cX3_readPlace 1 = .ok (.invokevirtual 141, 3) := by decide +kernel
theorem dX3_readPlace_4 : decode cX3_readPlace 4 = .ok (.ifCond .ne 9, 3) := by decide +kernel
theorem dX3_readPlace_7 : decode cX3_readPlace 7 = .ok (.aload_n 0, 1) := by decide +kernel
theorem dX3_readPlace_8 : decode cX3_readPlace 8 = .ok (.iconst 1, 1) := by decide +kernel
theorem dX3_readPlace_9 : decode cX3_readPlace 9 = .ok (.invokevirtual 125, 3) := by decide +kernel
theorem dX3_readPlace_12 : decode cX3_readPlace 12 = .ok (.ireturn, 1) := by decide +kernel
theorem dX3_readPlace_13 : decode cX3_readPlace 13 = .ok (.aload_n 0, 1) := by decide +kernel
theorem dX3_readPlace_14 : decode cX3_readPlace 14 = .ok (.aload_n 0, 1) := by decide +kernel
theorem dX3_readPlace_15 : decode cX3_readPlace 15 = .ok (.getfield 21, 3) := by decide +kernel
theorem dX3_readPlace_18 : decode cX3_readPlace 18 = .ok (.aload_n 0, 1) := by decide +kernel
theorem dX3_readPlace_19 : decode cX3_readPlace 19 = .ok (.getfield 35, 3) := by decide +kernel
theorem dX3_readPlace_22 : decode cX3_readPlace 22 = .ok (.aload_n 0, 1) := by decide +kernel
theorem dX3_readPlace_23 : decode cX3_readPlace 23 = .ok (.getfield 42, 3) := by decide +kernel
theorem dX3_readPlace_26 : decode cX3_readPlace 26 = .ok (.aload_n 0, 1) := by decide +kernel
theorem dX3_readPlace_27 : decode cX3_readPlace 27 = .ok (.getfield 45, 3) := by decide +kernel
theorem dX3_readPlace_30 : decode cX3_readPlace 30 = .ok (.invokevirtual 144, 3) := by decide +kernel
theorem dX3_readPlace_33 : decode cX3_readPlace 33 = .ok (.putfield 57, 3) := by decide +kernel
theorem dX3_readPlace_36 : decode cX3_readPlace 36 = .ok (.aload_n 0, 1) := by decide +kernel
theorem dX3_readPlace_37 : decode cX3_readPlace 37 = .ok (.getfield 57, 3) := by decide +kernel
theorem dX3_readPlace_40 : decode cX3_readPlace 40 = .ok (.iconst (-1), 1) := by decide +kernel
theorem dX3_readPlace_41 : decode cX3_readPlace 41 = .ok (.if_icmp .ne 9, 3) := by decide +kernel
theorem dX3_readPlace_44 : decode cX3_readPlace 44 = .ok (.aload_n 0, 1) := by decide +kernel
theorem dX3_readPlace_45 : decode cX3_readPlace 45 = .ok (.iconst 4, 1) := by decide +kernel
theorem dX3_readPlace_46 : decode cX3_readPlace 46 = .ok (.invokevirtual 125, 3) := by decide +kernel
theorem dX3_readPlace_49 : decode cX3_readPlace 49 = .ok (.ireturn, 1) := by decide +kernel
theorem dX3_readPlace_50 : decode cX3_readPlace 50 = .ok (.aload_n 0, 1) := by decide +kernel
theorem dX3_readPlace_51 : decode cX3_readPlace 51 = .ok (.invokevirtual 87, 3) := by decide +kernel
theorem dX3_readPlace_54 : decode cX3_readPlace 54 = .ok (.aload_n 0, 1) := by decide +kernel
theorem dX3_readPlace_55 : decode cX3_readPlace 55 = .ok (.getfield 48, 3) := by decide +kernel
theorem dX3_readPlace_58 : decode cX3_readPlace 58 = .ok (.iconst 1, 1) := by decide +kernel
theorem dX3_readPlace_59 : decode cX3_readPlace 59 = .ok (.if_icmp .ne 16, 3) := by decide +kernel
theorem dX3_readPlace_62 : decode cX3_readPlace 62 = .ok (.aload_n 0, 1) := by decide +kernel
theorem dX3_readPlace_63 : decode cX3_readPlace 63 = .ok (.getfield 51, 3) := by decide +kernel
theorem dX3_readPlace_66 : decode cX3_readPlace 66 = .ok (.iconst 0, 1) := by decide +kernel
theorem dX3_readPlace_67 : decode cX3_readPlace 67 = .ok (.bipush 6, 2) := by decide +kernel
theorem dX3_readPlace_69 : decode cX3_readPlace 69 = .ok (.invokestatic 200, 3) := by decide +kernel
theorem dX3_readPlace_72 : decode cX3_readPlace 72 = .ok (.ifCond .ne 9, 3) := by decide +kernel
theorem dX3_readPlace_75 : decode cX3_readPlace 75 = .ok (.aload_n 0, 1) := by decide +kernel
theorem dX3_readPlace_76 : decode cX3_readPlace 76 = .ok (.iconst 1, 1) := by decide +kernel
theorem dX3_readPlace_77 : decode cX3_readPlace 77 = .ok (.invokevirtual 125, 3) := by decide +kernel
theorem dX3_readPlace_80 : decode cX3_readPlace 80 = .ok (.ireturn, 1) := by decide +kernel
theorem dX3_readPlace_81 : decode cX3_readPlace 81 = .ok (.aload_n 0, 1) := by decide +kernel
theorem dX3_readPlace_82 : decode cX3_readPlace 82 = .ok (.aload_n 0, 1) := by decide +kernel
theorem dX3_readPlace_83 : decode cX3_readPlace 83 = .ok (.getfield 51, 3) := by decide +kernel
theorem dX3_readPlace_86 : decode cX3_readPlace 86 = .ok (.putfield 60, 3) := by decide +kernel
theorem dX3_readPlace_89 : decode cX3_readPlace 89 = .ok (.aload_n 0, 1) := by decide +kernel
theorem dX3_readPlace_90 : decode cX3_readPlace 90 = .ok (.invokevirtual 87, 3) := by decide +kernel
theorem dX3_readPlace_93 : decode cX3_readPlace 93 = .ok (.aload_n 0, 1) := by decide +kernel
theorem dX3_readPlace_94 : decode cX3_readPlace 94 = .ok (.iconst 0, 1) := by decide +kernel
theorem dX3_readPlace_95 : decode cX3_readPlace 95 = .ok (.bipush 23, 2) := by decide +kernel
theorem dX3_readPlace_97 : decode cX3_readPlace 97 = .ok (.invokevirtual 101, 3) := by decide +kernel
theorem dX3_readPlace_100 : decode cX3_readPlace 100 = .ok (.ifCond .ne 5, 3) := by decide +kernel
theorem dX3_readPlace_103 : decode cX3_readPlace 103 = .ok (.iconst 0, 1) := by decide +kernel
theorem dX3_readPlace_104 : decode cX3_readPlace 104 = .ok (.ireturn, 1) := by decide +kernel
theorem dX3_readPlace_105 : decode cX3_readPlace 105 = .ok (.aload_n 0, 1) := by decide +kernel
theorem dX3_readPlace_106 : decode cX3_readPlace 106 = .ok (.aload_n 0, 1) := by decide +kernel
theorem dX3_readPlace_107 : decode cX3_readPlace 107 = .ok (.getfield 51, 3) := by decide +kernel
theorem dX3_readPlace_110 : decode cX3_readPlace 110 = .ok (.putfield 63, 3) := by decide +kernel
theorem dX3_readPlace_113 : decode cX3_readPlace 113 = .ok (.aload_n 0, 1) := by decide +kernel
theorem dX3_readPlace_114 : decode cX3_readPlace 114 = .ok (.invokevirtual 87, 3) := by decide +kernel
theorem dX3_readPlace_117 : decode cX3_readPlace 117 = .ok (.aload_n 0, 1) := by decide +kernel
theorem dX3_readPlace_118 : decode cX3_readPlace 118 = .ok (.bipush 12, 2) := by decide +kernel
theorem dX3_readPlace_120 : decode cX3_readPlace 120 = .ok (.invokevirtual 110, 3) := by decide +kernel
theorem dX3_readPlace_123 : decode cX3_readPlace 123 = .ok (.ifCond .ne 18, 3) := by decide +kernel
theorem dX3_readPlace_126 : decode cX3_readPlace 126 = .ok (.aload_n 0, 1) := by decide +kernel
theorem dX3_readPlace_127 : decode cX3_readPlace 127 = .ok (.bipush 13, 2) := by decide +kernel
theorem dX3_readPlace_129 : decode cX3_readPlace 129 = .ok (.invokevirtual 110, 3) := by decide +kernel
theorem dX3_readPlace_132 : decode cX3_readPlace 132 = .ok (.ifCond .ne 9, 3) := by decide +kernel
theorem dX3_readPlace_135 : decode cX3_readPlace 135 = .ok (.aload_n 0, 1) := by decide +kernel
theorem dX3_readPlace_136 : decode cX3_readPlace 136 = .ok (.iconst 1, 1) := by decide +kernel
theorem dX3_readPlace_137 : decode cX3_readPlace 137 = .ok (.invokevirtual 125, 3) := by decide +kernel
theorem dX3_readPlace_140 : decode cX3_readPlace 140 = .ok (.ireturn, 1) := by decide +kernel
theorem dX3_readPlace_141 : decode cX3_readPlace 141 = .ok (.aload_n 0, 1) := by decide +kernel
theorem dX3_readPlace_142 : decode cX3_readPlace 142 = .ok (.aload_n 0, 1) := by decide +kernel
theorem dX3_readPlace_143 : decode cX3_readPlace 143 = .ok (.bipush 12, 2) := by decide +kernel
theorem dX3_readPlace_145 : decode cX3_readPlace 145 = .ok (.invokevirtual 110, 3) := by decide +kernel
theorem dX3_readPlace_148 : decode cX3_readPlace 148 = .ok (.ifCond .eq 7, 3) := by decide +kernel
theorem dX3_readPlace_151 : decode cX3_readPlace 151 = .ok (.iconst 0, 1) := by decide +kernel
theorem dX3_readPlace_152 : decode cX3_readPlace 152 = .ok (.goto 4, 3) := by decide +kernel
theorem dX3_readPlace_155 : decode cX3_readPlace 155 = .ok (.iconst 1, 1) := by decide +kernel
theorem dX3_readPlace_156 : decode cX3_readPlace 156 = .ok (.putfield 66, 3) := by decide +kernel
theorem dX3_readPlace_159 : decode cX3_readPlace 159 = .ok (.aload_n 0, 1) := by decide +kernel
theorem dX3_readPlace_160 : decode cX3_readPlace 160 = .ok (.invokevirtual 87, 3) := by decide +kernel
theorem dX3_readPlace_163 : decode cX3_readPlace 163 = .ok (.iconst 1, 1) := by decide +kernel
theorem dX3_readPlace_164 : decode cX3_readPlace 164 = .ok (.ireturn, 1) := by decide +kernel
theorem dX3_readSpan_0 : decode cX3_readSpan 0 = .ok (.aload_n 0, 1) := by decide +kernel
theorem dX3_readSpan_1 : decode cX3_readSpan 1 = .ok (.getfield 48, 3) := by decide +kernel
theorem dX3_readSpan_4 : decode cX3_readSpan 4 = .ok (.iconst 2, 1) := by decide +kernel
theorem dX3_readSpan_5 : decode cX3_readSpan 5 = .ok (.if_icmp .eq 9, 3) := by decide +kernel
theorem dX3_readSpan_8 : decode cX3_readSpan 8 = .ok (.aload_n 0, 1) := by decide +kernel
theorem dX3_readSpan_9 : decode cX3_readSpan 9 = .ok (.iconst 1, 1) := by decide +kernel
theorem dX3_readSpan_10 : decode cX3_readSpan 10 = .ok (.invokevirtual 125, 3) := by decide +kernel
theorem dX3_readSpan_13 : decode cX3_readSpan 13 = .ok (.ireturn, 1) := by decide +kernel
theorem dX3_readSpan_14 : decode cX3_readSpan 14 = .ok (.aload_n 0, 1) := by decide +kernel
theorem dX3_readSpan_15 : decode cX3_readSpan 15 = .ok (.aload_n 0, 1) := by decide +kernel
theorem dX3_readSpan_16 : decode cX3_readSpan 16 = .ok (.getfield 51, 3) := by decide +kernel
theorem dX3_readSpan_19 : decode cX3_readSpan 19 = .ok (.putfield 69, 3) := by decide +kernel
theorem dX3_readSpan_22 : decode cX3_readSpan 22 = .ok (.aload_n 0, 1) := by decide +kernel
theorem dX3_readSpan_23 : decode cX3_readSpan 23 = .ok (.invokevirtual 87, 3) := by decide +kernel
theorem dX3_readSpan_26 : decode cX3_readSpan 26 = .ok (.aload_n 0, 1) := by decide +kernel
theorem dX3_readSpan_27 : decode cX3_readSpan 27 = .ok (.bipush 45, 2) := by decide +kernel
theorem dX3_readSpan_29 : decode cX3_readSpan 29 = .ok (.invokevirtual 158, 3) := by decide +kernel
theorem dX3_readSpan_32 : decode cX3_readSpan 32 = .ok (.ifCond .ne 9, 3) := by decide +kernel
theorem dX3_readSpan_35 : decode cX3_readSpan 35 = .ok (.aload_n 0, 1) := by decide +kernel
theorem dX3_readSpan_36 : decode cX3_readSpan 36 = .ok (.iconst 1, 1) := by decide +kernel
theorem dX3_readSpan_37 : decode cX3_readSpan 37 = .ok (.invokevirtual 125, 3) := by decide +kernel
theorem dX3_readSpan_40 : decode cX3_readSpan 40 = .ok (.ireturn, 1) := by decide +kernel
theorem dX3_readSpan_41 : decode cX3_readSpan 41 = .ok (.aload_n 0, 1) := by decide +kernel
theorem dX3_readSpan_42 : decode cX3_readSpan 42 = .ok (.invokevirtual 87, 3) := by decide +kernel
theorem dX3_readSpan_45 : decode cX3_readSpan 45 = .ok (.aload_n 0, 1) := by decide +kernel
theorem dX3_readSpan_46 : decode cX3_readSpan 46 = .ok (.aload_n 0, 1) := by decide +kernel
theorem dX3_readSpan_47 : decode cX3_readSpan 47 = .ok (.getfield 69, 3) := by decide +kernel
theorem dX3_readSpan_50 : decode cX3_readSpan 50 = .ok (.iconst 5, 1) := by decide +kernel
theorem dX3_readSpan_51 : decode cX3_readSpan 51 = .ok (.iadd, 1) := by decide +kernel
theorem dX3_readSpan_52 : decode cX3_readSpan 52 = .ok (.iconst 1, 1) := by decide +kernel
theorem dX3_readSpan_53 : decode cX3_readSpan 53 = .ok (.isub, 1) := by decide +kernel
theorem dX3_readSpan_54 : decode cX3_readSpan 54 = .ok (.aload_n 0, 1) := by decide +kernel
theorem dX3_readSpan_55 : decode cX3_readSpan 55 = .ok (.getfield 12, 3) := by decide +kernel
theorem dX3_readSpan_58 : decode cX3_readSpan 58 = .ok (.getfield 105, 3) := by decide +kernel
theorem dX3_readSpan_61 : decode cX3_readSpan 61 = .ok (.iconst 1, 1) := by decide +kernel
theorem dX3_readSpan_62 : decode cX3_readSpan 62 = .ok (.isub, 1) := by decide +kernel
theorem dX3_readSpan_63 : decode cX3_readSpan 63 = .ok (.invokevirtual 101, 3) := by decide +kernel
theorem dX3_readSpan_66 : decode cX3_readSpan 66 = .ok (.ifCond .ne 5, 3) := by decide +kernel
theorem dX3_readSpan_69 : decode cX3_readSpan 69 = .ok (.iconst 0, 1) := by decide +kernel
theorem dX3_readSpan_70 : decode cX3_readSpan 70 = .ok (.ireturn, 1) := by decide +kernel
theorem dX3_readSpan_71 : decode cX3_readSpan 71 = .ok (.aload_n 0, 1) := by decide +kernel
theorem dX3_readSpan_72 : decode cX3_readSpan 72 = .ok (.aload_n 0, 1) := by decide +kernel
theorem dX3_readSpan_73 : decode cX3_readSpan 73 = .ok (.getfield 51, 3) := by decide +kernel
theorem dX3_readSpan_76 : decode cX3_readSpan 76 = .ok (.putfield 72, 3) := by decide +kernel
theorem dX3_readSpan_79 : decode cX3_readSpan 79 = .ok (.aload_n 0, 1) := by decide +kernel
theorem dX3_readSpan_80 : decode cX3_readSpan 80 = .ok (.invokevirtual 87, 3) := by decide +kernel
theorem dX3_readSpan_83 : decode cX3_readSpan 83 = .ok (.iconst 1, 1) := by decide +kernel
theorem dX3_readSpan_84 : decode cX3_readSpan 84 = .ok (.ireturn, 1) := by decide +kernel
theorem dX3_takeWord_0 : decode cX3_takeWord 0 = .ok (.aload_n 0, 1) := by decide +kernel
theorem dX3_takeWord_1 : decode cX3_takeWord 1 = .ok (.iload_n 1, 1) := by decide +kernel
theorem dX3_takeWord_2 : decode cX3_takeWord 2 = .ok (.invokevirtual 110, 3) := by decide +kernel
theorem dX3_takeWord_5 : decode cX3_takeWord 5 = .ok (.ifCond .ne 9, 3) := by decide +kernel
theorem dX3_takeWord_8 : decode cX3_takeWord 8 = .ok (.aload_n 0, 1) := by decide +kernel
theorem dX3_takeWord_9 : decode cX3_takeWord 9 = .ok (.iconst 1, 1) := by decide +kernel
theorem dX3_takeWord_10 : decode cX3_takeWord 10 = .ok (.invokevirtual 125, 3) := by decide +kernel
theorem dX3_takeWord_13 : decode cX3_takeWord 13 = .ok (.ireturn, 1) := by decide +kernel
theorem dX3_takeWord_14 : decode cX3_takeWord 14 = .ok (.aload_n 0, 1) := by decide +kernel
theorem dX3_takeWord_15 : decode cX3_takeWord 15 = .ok (.invokevirtual 87, 3) := by decide +kernel
theorem dX3_takeWord_18 : decode cX3_takeWord 18 = .ok (.iconst 1, 1) := by decide +kernel
theorem dX3_takeWord_19 : decode cX3_takeWord 19 = .ok (.ireturn, 1) := by decide +kernel
theorem dX3_takeSign_0 : decode cX3_takeSign 0 = .ok (.aload_n 0, 1) := by decide +kernel
theorem dX3_takeSign_1 : decode cX3_takeSign 1 = .ok (.iload_n 1, 1) := by decide +kernel
theorem dX3_takeSign_2 : decode cX3_takeSign 2 = .ok (.invokevirtual 158, 3) := by decide +kernel
theorem dX3_takeSign_5 : decode cX3_takeSign 5 = .ok (.ifCond .ne 9, 3) := by decide +kernel
theorem dX3_takeSign_8 : decode cX3_takeSign 8 = .ok (.aload_n 0, 1) := by decide +kernel
theorem dX3_takeSign_9 : decode cX3_takeSign 9 = .ok (.iconst 1, 1) := by decide +kernel
theorem dX3_takeSign_10 : decode cX3_takeSign 10 = .ok (.invokevirtual 125, 3) := by decide +kernel
theorem dX3_takeSign_13 : decode cX3_takeSign 13 = .ok (.ireturn, 1) := by decide +kernel
theorem dX3_takeSign_14 : decode cX3_takeSign 14 = .ok (.aload_n 0, 1) := by decide +kernel
theorem dX3_takeSign_15 : decode cX3_takeSign 15 = .ok (.invokevirtual 87, 3) := by decide +kernel
theorem dX3_takeSign_18 : decode cX3_takeSign 18 = .ok (.iconst 1, 1) := by decide +kernel
theorem dX3_takeSign_19 : decode cX3_takeSign 19 = .ok (.ireturn, 1) := by decide +kernel
theorem dX3_isNumber_0 : decode cX3_isNumber 0 = .ok (.aload_n 0, 1) := by decide +kernel
theorem dX3_isNumber_1 : decode cX3_isNumber 1 = .ok (.getfield 48, 3) := by decide +kernel
theorem dX3_isNumber_4 : decode cX3_isNumber 4 = .ok (.iconst 2, 1) := by decide +kernel
theorem dX3_isNumber_5 : decode cX3_isNumber 5 = .ok (.if_icmp .eq 9, 3) := by decide +kernel
theorem dX3_isNumber_8 : decode cX3_isNumber 8 = .ok (.aload_n 0, 1) := by decide +kernel
theorem dX3_isNumber_9 : decode cX3_isNumber 9 = .ok (.iconst 1, 1) := by decide +kernel
theorem dX3_isNumber_10 : decode cX3_isNumber 10 = .ok (.invokevirtual 125, 3) := by decide +kernel
theorem dX3_isNumber_13 : decode cX3_isNumber 13 = .ok (.ireturn, 1) := by decide +kernel
theorem dX3_isNumber_14 : decode cX3_isNumber 14 = .ok (.aload_n 0, 1) := by decide +kernel
theorem dX3_isNumber_15 : decode cX3_isNumber 15 = .ok (.getfield 51, 3) := by decide +kernel
theorem dX3_isNumber_18 : decode cX3_isNumber 18 = .ok (.iload_n 1, 1) := by decide +kernel
theorem dX3_isNumber_19 : decode cX3_isNumber 19 = .ok (.iload_n 2, 1) := by decide +kernel
theorem dX3_isNumber_20 : decode cX3_isNumber 20 = .ok (.invokestatic 200, 3) := by decide +kernel
theorem dX3_isNumber_23 : decode cX3_isNumber 23 = .ok (.ifCond .ne 11, 3) := by decide +kernel
theorem dX3_isNumber_26 : decode cX3_isNumber 26 = .ok (.aload_n 0, 1) := by decide +kernel
theorem dX3_isNumber_27 : decode cX3_isNumber 27 = .ok (.iconst 2, 1) := by decide +kernel
theorem dX3_isNumber_28 : decode cX3_isNumber 28 = .ok (.invokevirtual 125, 3) := by decide +kernel
theorem dX3_isNumber_31 : decode cX3_isNumber 31 = .ok (.ifCond .eq 7, 3) := by decide +kernel
theorem dX3_isNumber_34 : decode cX3_isNumber 34 = .ok (.iconst 1, 1) := by decide +kernel
theorem dX3_isNumber_35 : decode cX3_isNumber 35 = .ok (.goto 4, 3) := by decide +kernel
theorem dX3_isNumber_38 : decode cX3_isNumber 38 = .ok (.iconst 0, 1) := by decide +kernel
theorem dX3_isNumber_39 : decode cX3_isNumber 39 = .ok (.ireturn, 1) := by decide +kernel
theorem dX3_isSign_0 : decode cX3_isSign 0 = .ok (.aload_n 0, 1) := by decide +kernel
theorem dX3_isSign_1 : decode cX3_isSign 1 = .ok (.getfield 48, 3) := by decide +kernel
theorem dX3_isSign_4 : decode cX3_isSign 4 = .ok (.iconst 3, 1) := by decide +kernel
theorem dX3_isSign_5 : decode cX3_isSign 5 = .ok (.if_icmp .ne 15, 3) := by decide +kernel
theorem dX3_isSign_8 : decode cX3_isSign 8 = .ok (.aload_n 0, 1) := by decide +kernel
theorem dX3_isSign_9 : decode cX3_isSign 9 = .ok (.getfield 51, 3) := by decide +kernel
theorem dX3_isSign_12 : decode cX3_isSign 12 = .ok (.iload_n 1, 1) := by decide +kernel
theorem dX3_isSign_13 : decode cX3_isSign 13 = .ok (.if_icmp .ne 7, 3) := by decide +kernel
theorem dX3_isSign_16 : decode cX3_isSign 16 = .ok (.iconst 1, 1) := by decide +kernel
theorem dX3_isSign_17 : decode cX3_isSign 17 = .ok (.goto 4, 3) := by decide +kernel
theorem dX3_isSign_20 : decode cX3_isSign 20 = .ok (.iconst 0, 1) := by decide +kernel
theorem dX3_isSign_21 : decode cX3_isSign 21 = .ok (.ireturn, 1) := by decide +kernel
theorem dX3_isWord_0 : decode cX3_isWord 0 = .ok (.aload_n 0, 1) := by decide +kernel
theorem dX3_isWord_1 : decode cX3_isWord 1 = .ok (.getfield 48, 3) := by decide +kernel
theorem dX3_isWord_4 : decode cX3_isWord 4 = .ok (.iconst 1, 1) := by decide +kernel
theorem dX3_isWord_5 : decode cX3_isWord 5 = .ok (.if_icmp .ne 15, 3) := by decide +kernel
theorem dX3_isWord_8 : decode cX3_isWord 8 = .ok (.aload_n 0, 1) := by decide +kernel
theorem dX3_isWord_9 : decode cX3_isWord 9 = .ok (.getfield 51, 3) := by decide +kernel
theorem dX3_isWord_12 : decode cX3_isWord 12 = .ok (.iload_n 1, 1) := by decide +kernel
theorem dX3_isWord_13 : decode cX3_isWord 13 = .ok (.if_icmp .ne 7, 3) := by decide +kernel
theorem dX3_isWord_16 : decode cX3_isWord 16 = .ok (.iconst 1, 1) := by decide +kernel
theorem dX3_isWord_17 : decode cX3_isWord 17 = .ok (.goto 4, 3) := by decide +kernel
theorem dX3_isWord_20 : decode cX3_isWord 20 = .ok (.iconst 0, 1) := by decide +kernel
theorem dX3_isWord_21 : decode cX3_isWord 21 = .ok (.ireturn, 1) := by decide +kernel
theorem dX3_isName_0 : decode cX3_isName 0 = .ok (.aload_n 0, 1) := by decide +kernel
theorem dX3_isName_1 : decode cX3_isName 1 = .ok (.getfield 48, 3) := by decide +kernel
theorem dX3_isName_4 : decode cX3_isName 4 = .ok (.iconst 1, 1) := by decide +kernel
theorem dX3_isName_5 : decode cX3_isName 5 = .ok (.if_icmp .ne 29, 3) := by decide +kernel
theorem dX3_isName_8 : decode cX3_isName 8 = .ok (.aload_n 0, 1) := by decide +kernel
theorem dX3_isName_9 : decode cX3_isName 9 = .ok (.getfield 51, 3) := by decide +kernel
theorem dX3_isName_12 : decode cX3_isName 12 = .ok (.iconst (-1), 1) := by decide +kernel
theorem dX3_isName_13 : decode cX3_isName 13 = .ok (.if_icmp .ne 21, 3) := by decide +kernel
theorem dX3_isName_16 : decode cX3_isName 16 = .ok (.aload_n 0, 1) := by decide +kernel
theorem dX3_isName_17 : decode cX3_isName 17 = .ok (.getfield 45, 3) := by decide +kernel
theorem dX3_isName_20 : decode cX3_isName 20 = .ok (.aload_n 0, 1) := by decide +kernel
theorem dX3_isName_21 : decode cX3_isName 21 = .ok (.getfield 42, 3) := by decide +kernel
theorem dX3_isName_24 : decode cX3_isName 24 = .ok (.isub, 1) := by decide +kernel
theorem dX3_isName_25 : decode cX3_isName 25 = .ok (.bipush 6, 2) := by decide +kernel
theorem dX3_isName_27 : decode cX3_isName 27 = .ok (.if_icmp .gt 7, 3) := by decide +kernel
theorem dX3_isName_30 : decode cX3_isName 30 = .ok (.iconst 1, 1) := by decide +kernel
theorem dX3_isName_31 : decode cX3_isName 31 = .ok (.goto 4, 3) := by decide +kernel
theorem dX3_isName_34 : decode cX3_isName 34 = .ok (.iconst 0, 1) := by decide +kernel
theorem dX3_isName_35 : decode cX3_isName 35 = .ok (.ireturn, 1) := by decide +kernel
theorem dX3_fail_0 : decode cX3_fail 0 = .ok (.aload_n 0, 1) := by decide +kernel
theorem dX3_fail_1 : decode cX3_fail 1 = .ok (.iload_n 1, 1) := by decide +kernel
theorem dX3_fail_2 : decode cX3_fail 2 = .ok (.putfield 29, 3) := by decide +kernel
theorem dX3_fail_5 : decode cX3_fail 5 = .ok (.aload_n 0, 1) := by decide +kernel
theorem dX3_fail_6 : decode cX3_fail 6 = .ok (.aload_n 0, 1) := by decide +kernel
theorem dX3_fail_7 : decode cX3_fail 7 = .ok (.getfield 42, 3) := by decide +kernel
theorem dX3_fail_10 : decode cX3_fail 10 = .ok (.putfield 32, 3) := by decide +kernel
theorem dX3_fail_13 : decode cX3_fail 13 = .ok (.iconst 0, 1) := by decide +kernel
theorem dX3_fail_14 : decode cX3_fail 14 = .ok (.ireturn, 1) := by decide +kernel
theorem dX3_advance_0 : decode cX3_advance 0 = .ok (.aload_n 0, 1) := by decide +kernel
theorem dX3_advance_1 : decode cX3_advance 1 = .ok (.aload_n 0, 1) := by decide +kernel
theorem dX3_advance_2 : decode cX3_advance 2 = .ok (.getfield 45, 3) := by decide +kernel
theorem dX3_advance_5 : decode cX3_advance 5 = .ok (.putfield 42, 3) := by decide +kernel
theorem dX3_advance_8 : decode cX3_advance 8 = .ok (.aload_n 0, 1) := by decide +kernel
theorem dX3_advance_9 : decode cX3_advance 9 = .ok (.getfield 42, 3) := by decide +kernel
theorem dX3_advance_12 : decode cX3_advance 12 = .ok (.aload_n 0, 1) := by decide +kernel
theorem dX3_advance_13 : decode cX3_advance 13 = .ok (.getfield 39, 3) := by decide +kernel
theorem dX3_advance_16 : decode cX3_advance 16 = .ok (.if_icmp .ge 44, 3) := by decide +kernel
theorem dX3_advance_19 : decode cX3_advance 19 = .ok (.aload_n 0, 1) := by decide +kernel
theorem dX3_advance_20 : decode cX3_advance 20 = .ok (.getfield 35, 3) := by decide +kernel
theorem dX3_advance_23 : decode cX3_advance 23 = .ok (.aload_n 0, 1) := by decide +kernel
theorem dX3_advance_24 : decode cX3_advance 24 = .ok (.getfield 42, 3) := by decide +kernel
theorem dX3_advance_27 : decode cX3_advance 27 = .ok (.baload, 1) := by decide +kernel
theorem dX3_advance_28 : decode cX3_advance 28 = .ok (.bipush 32, 2) := by decide +kernel
theorem dX3_advance_30 : decode cX3_advance 30 = .ok (.if_icmp .eq 17, 3) := by decide +kernel
theorem dX3_advance_33 : decode cX3_advance 33 = .ok (.aload_n 0, 1) := by decide +kernel
theorem dX3_advance_34 : decode cX3_advance 34 = .ok (.getfield 35, 3) := by decide +kernel
theorem dX3_advance_37 : decode cX3_advance 37 = .ok (.aload_n 0, 1) := by decide +kernel
theorem dX3_advance_38 : decode cX3_advance 38 = .ok (.getfield 42, 3) := by decide +kernel
theorem dX3_advance_41 : decode cX3_advance 41 = .ok (.baload, 1) := by decide +kernel
theorem dX3_advance_42 : decode cX3_advance 42 = .ok (.bipush 10, 2) := by decide +kernel
theorem dX3_advance_44 : decode cX3_advance 44 = .ok (.if_icmp .ne 16, 3) := by decide +kernel
theorem dX3_advance_47 : decode cX3_advance 47 = .ok (.aload_n 0, 1) := by decide +kernel
theorem dX3_advance_48 : decode cX3_advance 48 = .ok (.dup, 1) := by decide +kernel
theorem dX3_advance_49 : decode cX3_advance 49 = .ok (.getfield 42, 3) := by decide +kernel
theorem dX3_advance_52 : decode cX3_advance 52 = .ok (.iconst 1, 1) := by decide +kernel
theorem dX3_advance_53 : decode cX3_advance 53 = .ok (.iadd, 1) := by decide +kernel
theorem dX3_advance_54 : decode cX3_advance 54 = .ok (.putfield 42, 3) := by decide +kernel
theorem dX3_advance_57 : decode cX3_advance 57 = .ok (.goto (-49), 3) := by decide +kernel
theorem dX3_advance_60 : decode cX3_advance 60 = .ok (.aload_n 0, 1) := by decide +kernel
theorem dX3_advance_61 : decode cX3_advance 61 = .ok (.aload_n 0, 1) := by decide +kernel
theorem dX3_advance_62 : decode cX3_advance 62 = .ok (.getfield 42, 3) := by decide +kernel
theorem dX3_advance_65 : decode cX3_advance 65 = .ok (.putfield 45, 3) := by decide +kernel
theorem dX3_advance_68 : decode cX3_advance 68 = .ok (.aload_n 0, 1) := by decide +kernel
theorem dX3_advance_69 : decode cX3_advance 69 = .ok (.iconst 0, 1) := by decide +kernel
theorem dX3_advance_70 : decode cX3_advance 70 = .ok (.putfield 51, 3) := by decide +kernel
theorem dX3_advance_73 : decode cX3_advance 73 = .ok (.aload_n 0, 1) := by decide +kernel
theorem dX3_advance_74 : decode cX3_advance 74 = .ok (.getfield 42, 3) := by decide +kernel
theorem dX3_advance_77 : decode cX3_advance 77 = .ok (.aload_n 0, 1) := by decide +kernel
theorem dX3_advance_78 : decode cX3_advance 78 = .ok (.getfield 39, 3) := by decide +kernel
theorem dX3_advance_81 : decode cX3_advance 81 = .ok (.if_icmp .lt 11, 3) := by decide +kernel
theorem dX3_advance_84 : decode cX3_advance 84 = .ok (.aload_n 0, 1) := by decide +kernel
theorem dX3_advance_85 : decode cX3_advance 85 = .ok (.iconst 0, 1) := by decide +kernel
theorem dX3_advance_86 : decode cX3_advance 86 = .ok (.putfield 48, 3) := by decide +kernel
theorem dX3_advance_89 : decode cX3_advance 89 = .ok (.goto 189, 3) := by decide +kernel
theorem dX3_advance_92 : decode cX3_advance 92 = .ok (.aload_n 0, 1) := by decide +kernel
theorem dX3_advance_93 : decode cX3_advance 93 = .ok (.getfield 35, 3) := by decide +kernel
theorem dX3_advance_96 : decode cX3_advance 96 = .ok (.aload_n 0, 1) := by decide +kernel
theorem dX3_advance_97 : decode cX3_advance 97 = .ok (.getfield 42, 3) := by decide +kernel
theorem dX3_advance_100 : decode cX3_advance 100 = .ok (.baload, 1) := by decide +kernel
theorem dX3_advance_101 : decode cX3_advance 101 = .ok (.invokestatic 204, 3) := by decide +kernel
theorem dX3_advance_104 : decode cX3_advance 104 = .ok (.ifCond .eq 58, 3) := by decide +kernel
theorem dX3_advance_107 : decode cX3_advance 107 = .ok (.aload_n 0, 1) := by decide +kernel
theorem dX3_advance_108 : decode cX3_advance 108 = .ok (.iconst 1, 1) := by decide +kernel
theorem dX3_advance_109 : decode cX3_advance 109 = .ok (.putfield 48, 3) := by decide +kernel
theorem dX3_advance_112 : decode cX3_advance 112 = .ok (.aload_n 0, 1) := by decide +kernel
theorem dX3_advance_113 : decode cX3_advance 113 = .ok (.getfield 45, 3) := by decide +kernel
theorem dX3_advance_116 : decode cX3_advance 116 = .ok (.aload_n 0, 1) := by decide +kernel
theorem dX3_advance_117 : decode cX3_advance 117 = .ok (.getfield 39, 3) := by decide +kernel
theorem dX3_advance_120 : decode cX3_advance 120 = .ok (.if_icmp .ge 31, 3) := by decide +kernel
theorem dX3_advance_123 : decode cX3_advance 123 = .ok (.aload_n 0, 1) := by decide +kernel
theorem dX3_advance_124 : decode cX3_advance 124 = .ok (.getfield 35, 3) := by decide +kernel
theorem dX3_advance_127 : decode cX3_advance 127 = .ok (.aload_n 0, 1) := by decide +kernel
theorem dX3_advance_128 : decode cX3_advance 128 = .ok (.getfield 45, 3) := by decide +kernel
theorem dX3_advance_131 : decode cX3_advance 131 = .ok (.baload, 1) := by decide +kernel
theorem dX3_advance_132 : decode cX3_advance 132 = .ok (.invokestatic 204, 3) := by decide +kernel
theorem dX3_advance_135 : decode cX3_advance 135 = .ok (.ifCond .eq 16, 3) := by decide +kernel
theorem dX3_advance_138 : decode cX3_advance 138 = .ok (.aload_n 0, 1) := by decide +kernel
theorem dX3_advance_139 : decode cX3_advance 139 = .ok (.dup, 1) := by decide +kernel
theorem dX3_advance_140 : decode cX3_advance 140 = .ok (.getfield 45, 3) := by decide +kernel
theorem dX3_advance_143 : decode cX3_advance 143 = .ok (.iconst 1, 1) := by decide +kernel
theorem dX3_advance_144 : decode cX3_advance 144 = .ok (.iadd, 1) := by decide +kernel
theorem dX3_advance_145 : decode cX3_advance 145 = .ok (.putfield 45, 3) := by decide +kernel
theorem dX3_advance_148 : decode cX3_advance 148 = .ok (.goto (-36), 3) := by decide +kernel
theorem dX3_advance_151 : decode cX3_advance 151 = .ok (.aload_n 0, 1) := by decide +kernel
theorem dX3_advance_152 : decode cX3_advance 152 = .ok (.aload_n 0, 1) := by decide +kernel
theorem dX3_advance_153 : decode cX3_advance 153 = .ok (.invokevirtual 207, 3) := by decide +kernel
theorem dX3_advance_156 : decode cX3_advance 156 = .ok (.putfield 51, 3) := by decide +kernel
theorem dX3_advance_159 : decode cX3_advance 159 = .ok (.goto 119, 3) := by decide +kernel
theorem dX3_advance_162 : decode cX3_advance 162 = .ok (.aload_n 0, 1) := by decide +kernel
theorem dX3_advance_163 : decode cX3_advance 163 = .ok (.getfield 35, 3) := by decide +kernel
theorem dX3_advance_166 : decode cX3_advance 166 = .ok (.aload_n 0, 1) := by decide +kernel
theorem dX3_advance_167 : decode cX3_advance 167 = .ok (.getfield 42, 3) := by decide +kernel
theorem dX3_advance_170 : decode cX3_advance 170 = .ok (.baload, 1) := by decide +kernel
theorem dX3_advance_171 : decode cX3_advance 171 = .ok (.invokestatic 211, 3) := by decide +kernel
theorem dX3_advance_174 : decode cX3_advance 174 = .ok (.ifCond .eq 76, 3) := by decide +kernel
theorem dX3_advance_177 : decode cX3_advance 177 = .ok (.aload_n 0, 1) := by decide +kernel
theorem dX3_advance_178 : decode cX3_advance 178 = .ok (.iconst 2, 1) := by decide +kernel
theorem dX3_advance_179 : decode cX3_advance 179 = .ok (.putfield 48, 3) := by decide +kernel
theorem dX3_advance_182 : decode cX3_advance 182 = .ok (.aload_n 0, 1) := by decide +kernel
theorem dX3_advance_183 : decode cX3_advance 183 = .ok (.getfield 45, 3) := by decide +kernel
theorem dX3_advance_186 : decode cX3_advance 186 = .ok (.aload_n 0, 1) := by decide +kernel
theorem dX3_advance_187 : decode cX3_advance 187 = .ok (.getfield 39, 3) := by decide +kernel
theorem dX3_advance_190 : decode cX3_advance 190 = .ok (.if_icmp .ge 88, 3) := by decide +kernel
theorem dX3_advance_193 : decode cX3_advance 193 = .ok (.aload_n 0, 1) := by decide +kernel
theorem dX3_advance_194 : decode cX3_advance 194 = .ok (.getfield 35, 3) := by decide +kernel
theorem dX3_advance_197 : decode cX3_advance 197 = .ok (.aload_n 0, 1) := by decide +kernel
theorem dX3_advance_198 : decode cX3_advance 198 = .ok (.getfield 45, 3) := by decide +kernel
theorem dX3_advance_201 : decode cX3_advance 201 = .ok (.baload, 1) := by decide +kernel
theorem dX3_advance_202 : decode cX3_advance 202 = .ok (.invokestatic 211, 3) := by decide +kernel
theorem dX3_advance_205 : decode cX3_advance 205 = .ok (.ifCond .eq 73, 3) := by decide +kernel
theorem dX3_advance_208 : decode cX3_advance 208 = .ok (.aload_n 0, 1) := by decide +kernel
theorem dX3_advance_209 : decode cX3_advance 209 = .ok (.aload_n 0, 1) := by decide +kernel
theorem dX3_advance_210 : decode cX3_advance 210 = .ok (.getfield 51, 3) := by decide +kernel
theorem dX3_advance_213 : decode cX3_advance 213 = .ok (.bipush 10, 2) := by decide +kernel
theorem dX3_advance_215 : decode cX3_advance 215 = .ok (.imul, 1) := by decide +kernel
theorem dX3_advance_216 : decode cX3_advance 216 = .ok (.aload_n 0, 1) := by decide +kernel
theorem dX3_advance_217 : decode cX3_advance 217 = .ok (.getfield 35, 3) := by decide +kernel
theorem dX3_advance_220 : decode cX3_advance 220 = .ok (.aload_n 0, 1) := by decide +kernel
theorem dX3_advance_221 : decode cX3_advance 221 = .ok (.getfield 45, 3) := by decide +kernel
theorem dX3_advance_224 : decode cX3_advance 224 = .ok (.baload, 1) := by decide +kernel
theorem dX3_advance_225 : decode cX3_advance 225 = .ok (.iadd, 1) := by decide +kernel
theorem dX3_advance_226 : decode cX3_advance 226 = .ok (.bipush 48, 2) := by decide +kernel
theorem dX3_advance_228 : decode cX3_advance 228 = .ok (.isub, 1) := by decide +kernel
theorem dX3_advance_229 : decode cX3_advance 229 = .ok (.ldc 214, 2) := by decide +kernel
theorem dX3_advance_231 : decode cX3_advance 231 = .ok (.invokestatic 75, 3) := by decide +kernel
theorem dX3_advance_234 : decode cX3_advance 234 = .ok (.putfield 51, 3) := by decide +kernel
theorem dX3_advance_237 : decode cX3_advance 237 = .ok (.aload_n 0, 1) := by decide +kernel
theorem dX3_advance_238 : decode cX3_advance 238 = .ok (.dup, 1) := by decide +kernel
theorem dX3_advance_239 : decode cX3_advance 239 = .ok (.getfield 45, 3) := by decide +kernel
theorem dX3_advance_242 : decode cX3_advance 242 = .ok (.iconst 1, 1) := by decide +kernel
theorem dX3_advance_243 : decode cX3_advance 243 = .ok (.iadd, 1) := by decide +kernel
theorem dX3_advance_244 : decode cX3_advance 244 = .ok (.putfield 45, 3) := by decide +kernel
theorem dX3_advance_247 : decode cX3_advance 247 = .ok (.goto (-65), 3) := by decide +kernel
theorem dX3_advance_250 : decode cX3_advance 250 = .ok (.aload_n 0, 1) := by decide +kernel
theorem dX3_advance_251 : decode cX3_advance 251 = .ok (.iconst 3, 1) := by decide +kernel
theorem dX3_advance_252 : decode cX3_advance 252 = .ok (.putfield 48, 3) := by decide +kernel
theorem dX3_advance_255 : decode cX3_advance 255 = .ok (.aload_n 0, 1) := by decide +kernel
theorem dX3_advance_256 : decode cX3_advance 256 = .ok (.aload_n 0, 1) := by decide +kernel
theorem dX3_advance_257 : decode cX3_advance 257 = .ok (.getfield 35, 3) := by decide +kernel
theorem dX3_advance_260 : decode cX3_advance 260 = .ok (.aload_n 0, 1) := by decide +kernel
theorem dX3_advance_261 : decode cX3_advance 261 = .ok (.getfield 42, 3) := by decide +kernel
theorem dX3_advance_264 : decode cX3_advance 264 = .ok (.baload, 1) := by decide +kernel
theorem dX3_advance_265 : decode cX3_advance 265 = .ok (.putfield 51, 3) := by decide +kernel
theorem dX3_advance_268 : decode cX3_advance 268 = .ok (.aload_n 0, 1) := by decide +kernel
theorem dX3_advance_269 : decode cX3_advance 269 = .ok (.dup, 1) := by decide +kernel
theorem dX3_advance_270 : decode cX3_advance 270 = .ok (.getfield 45, 3) := by decide +kernel
theorem dX3_advance_273 : decode cX3_advance 273 = .ok (.iconst 1, 1) := by decide +kernel
theorem dX3_advance_274 : decode cX3_advance 274 = .ok (.iadd, 1) := by decide +kernel
theorem dX3_advance_275 : decode cX3_advance 275 = .ok (.putfield 45, 3) := by decide +kernel
theorem dX3_advance_278 : decode cX3_advance 278 = .ok (.return_, 1) := by decide +kernel
theorem dX3_wordTold_0 : decode cX3_wordTold 0 = .ok (.iconst 0, 1) := by decide +kernel
theorem dX3_wordTold_1 : decode cX3_wordTold 1 = .ok (.istore_n 1, 1) := by decide +kernel
theorem dX3_wordTold_2 : decode cX3_wordTold 2 = .ok (.aload_n 0, 1) := by decide +kernel
theorem dX3_wordTold_3 : decode cX3_wordTold 3 = .ok (.getfield 42, 3) := by decide +kernel
theorem dX3_wordTold_6 : decode cX3_wordTold 6 = .ok (.istore_n 2, 1) := by decide +kernel
theorem dX3_wordTold_7 : decode cX3_wordTold 7 = .ok (.iconst 1, 1) := by decide +kernel
theorem dX3_wordTold_8 : decode cX3_wordTold 8 = .ok (.istore_n 3, 1) := by decide +kernel
theorem dX3_wordTold_9 : decode cX3_wordTold 9 = .ok (.iconst 0, 1) := by decide +kernel
theorem dX3_wordTold_10 : decode cX3_wordTold 10 = .ok (.istore 4, 2) := by decide +kernel
theorem dX3_wordTold_12 : decode cX3_wordTold 12 = .ok (.iload 4, 2) := by decide +kernel
theorem dX3_wordTold_14 : decode cX3_wordTold 14 = .ok (.ldc 215, 2) := by decide +kernel
theorem dX3_wordTold_16 : decode cX3_wordTold 16 = .ok (.invokevirtual 217, 3) := by decide +kernel
theorem dX3_wordTold_19 : decode cX3_wordTold 19 = .ok (.if_icmp .ge 84, 3) := by decide +kernel
theorem dX3_wordTold_22 : decode cX3_wordTold 22 = .ok (.ldc 215, 2) := by decide +kernel
theorem dX3_wordTold_24 : decode cX3_wordTold 24 = .ok (.iload 4, 2) := by decide +kernel
theorem dX3_wordTold_26 : decode cX3_wordTold 26 = .ok (.invokevirtual 221, 3) := by decide +kernel
theorem dX3_wordTold_29 : decode cX3_wordTold 29 = .ok (.istore 5, 2) := by decide +kernel
theorem dX3_wordTold_31 : decode cX3_wordTold 31 = .ok (.iload 5, 2) := by decide +kernel
theorem dX3_wordTold_33 : decode cX3_wordTold 33 = .ok (.bipush 32, 2) := by decide +kernel
theorem dX3_wordTold_35 : decode cX3_wordTold 35 = .ok (.if_icmp .ne 30, 3) := by decide +kernel
theorem dX3_wordTold_38 : decode cX3_wordTold 38 = .ok (.iload_n 3, 1) := by decide +kernel
theorem dX3_wordTold_39 : decode cX3_wordTold 39 = .ok (.ifCond .eq 13, 3) := by decide +kernel
theorem dX3_wordTold_42 : decode cX3_wordTold 42 = .ok (.iload_n 2, 1) := by decide +kernel
theorem dX3_wordTold_43 : decode cX3_wordTold 43 = .ok (.aload_n 0, 1) := by decide +kernel
theorem dX3_wordTold_44 : decode cX3_wordTold 44 = .ok (.getfield 45, 3) := by decide +kernel
theorem dX3_wordTold_47 : decode cX3_wordTold 47 = .ok (.if_icmp .ne 5, 3) := by decide +kernel
theorem dX3_wordTold_50 : decode cX3_wordTold 50 = .ok (.iload_n 1, 1) := by decide +kernel
theorem dX3_wordTold_51 : decode cX3_wordTold 51 = .ok (.ireturn, 1) := by decide +kernel
theorem dX3_wordTold_52 : decode cX3_wordTold 52 = .ok (.iinc 1 1, 3) := by decide +kernel
theorem dX3_wordTold_55 : decode cX3_wordTold 55 = .ok (.aload_n 0, 1) := by decide +kernel
theorem dX3_wordTold_56 : decode cX3_wordTold 56 = .ok (.getfield 42, 3) := by decide +kernel
theorem dX3_wordTold_59 : decode cX3_wordTold 59 = .ok (.istore_n 2, 1) := by decide +kernel
theorem dX3_wordTold_60 : decode cX3_wordTold 60 = .ok (.iconst 1, 1) := by decide +kernel
theorem dX3_wordTold_61 : decode cX3_wordTold 61 = .ok (.istore_n 3, 1) := by decide +kernel
theorem dX3_wordTold_62 : decode cX3_wordTold 62 = .ok (.goto 35, 3) := by decide +kernel
theorem dX3_wordTold_65 : decode cX3_wordTold 65 = .ok (.iload_n 3, 1) := by decide +kernel
theorem dX3_wordTold_66 : decode cX3_wordTold 66 = .ok (.ifCond .eq 26, 3) := by decide +kernel
theorem dX3_wordTold_69 : decode cX3_wordTold 69 = .ok (.iload_n 2, 1) := by decide +kernel
theorem dX3_wordTold_70 : decode cX3_wordTold 70 = .ok (.aload_n 0, 1) := by decide +kernel
theorem dX3_wordTold_71 : decode cX3_wordTold 71 = .ok (.getfield 45, 3) := by decide +kernel
theorem dX3_wordTold_74 : decode cX3_wordTold 74 = .ok (.if_icmp .ge 18, 3) := by decide +kernel
theorem dX3_wordTold_77 : decode cX3_wordTold 77 = .ok (.aload_n 0, 1) := by decide +kernel
theorem dX3_wordTold_78 : decode cX3_wordTold 78 = .ok (.getfield 35, 3) := by decide +kernel
theorem dX3_wordTold_81 : decode cX3_wordTold 81 = .ok (.iload_n 2, 1) := by decide +kernel
theorem dX3_wordTold_82 : decode cX3_wordTold 82 = .ok (.baload, 1) := by decide +kernel
theorem dX3_wordTold_83 : decode cX3_wordTold 83 = .ok (.iload 5, 2) := by decide +kernel
theorem dX3_wordTold_85 : decode cX3_wordTold 85 = .ok (.if_icmp .ne 7, 3) := by decide +kernel
theorem dX3_wordTold_88 : decode cX3_wordTold 88 = .ok (.iconst 1, 1) := by decide +kernel
theorem dX3_wordTold_89 : decode cX3_wordTold 89 = .ok (.goto 4, 3) := by decide +kernel
theorem dX3_wordTold_92 : decode cX3_wordTold 92 = .ok (.iconst 0, 1) := by decide +kernel
theorem dX3_wordTold_93 : decode cX3_wordTold 93 = .ok (.istore_n 3, 1) := by decide +kernel
theorem dX3_wordTold_94 : decode cX3_wordTold 94 = .ok (.iinc 2 1, 3) := by decide +kernel
theorem dX3_wordTold_97 : decode cX3_wordTold 97 = .ok (.iinc 4 1, 3) := by decide +kernel
theorem dX3_wordTold_100 : decode cX3_wordTold 100 = .ok (.goto (-88), 3) := by decide +kernel
theorem dX3_wordTold_103 : decode cX3_wordTold 103 = .ok (.iconst (-1), 1) := by decide +kernel
theorem dX3_wordTold_104 : decode cX3_wordTold 104 = .ok (.ireturn, 1) := by decide +kernel
theorem dX4_init_0 : decode cX4_init 0 = .ok (.aload_n 0, 1) := by decide +kernel
theorem dX4_init_1 : decode cX4_init 1 = .ok (.invokespecial 3, 3) := by decide +kernel
theorem dX4_init_4 : decode cX4_init 4 = .ok (.aload_n 0, 1) := by decide +kernel
theorem dX4_init_5 : decode cX4_init 5 = .ok (.iconst 0, 1) := by decide +kernel
theorem dX4_init_6 : decode cX4_init 6 = .ok (.putfield 9, 3) := by decide +kernel
theorem dX4_init_9 : decode cX4_init 9 = .ok (.aload_n 0, 1) := by decide +kernel
theorem dX4_init_10 : decode cX4_init 10 = .ok (.iconst 0, 1) := by decide +kernel
theorem dX4_init_11 : decode cX4_init 11 = .ok (.putfield 15, 3) := by decide +kernel
theorem dX4_init_14 : decode cX4_init 14 = .ok (.aload_n 0, 1) := by decide +kernel
theorem dX4_init_15 : decode cX4_init 15 = .ok (.iconst 0, 1) := by decide +kernel
theorem dX4_init_16 : decode cX4_init 16 = .ok (.putfield 18, 3) := by decide +kernel
theorem dX4_init_19 : decode cX4_init 19 = .ok (.aload_n 0, 1) := by decide +kernel
theorem dX4_init_20 : decode cX4_init 20 = .ok (.iconst 0, 1) := by decide +kernel
theorem dX4_init_21 : decode cX4_init 21 = .ok (.putfield 21, 3) := by decide +kernel
theorem dX4_init_24 : decode cX4_init 24 = .ok (.aload_n 0, 1) := by decide +kernel
theorem dX4_init_25 : decode cX4_init 25 = .ok (.iconst 0, 1) := by decide +kernel
theorem dX4_init_26 : decode cX4_init 26 = .ok (.putfield 24, 3) := by decide +kernel
theorem dX4_init_29 : decode cX4_init 29 = .ok (.aload_n 0, 1) := by decide +kernel
theorem dX4_init_30 : decode cX4_init 30 = .ok (.bipush 24, 2) := by decide +kernel
theorem dX4_init_32 : decode cX4_init 32 = .ok (.newarray .int, 2) := by decide +kernel
theorem dX4_init_34 : decode cX4_init 34 = .ok (.putfield 27, 3) := by decide +kernel
theorem dX4_init_37 : decode cX4_init 37 = .ok (.aload_n 0, 1) := by decide +kernel
theorem dX4_init_38 : decode cX4_init 38 = .ok (.bipush 24, 2) := by decide +kernel
theorem dX4_init_40 : decode cX4_init 40 = .ok (.newarray .int, 2) := by decide +kernel
theorem dX4_init_42 : decode cX4_init 42 = .ok (.putfield 31, 3) := by decide +kernel
theorem dX4_init_45 : decode cX4_init 45 = .ok (.aload_n 0, 1) := by decide +kernel
theorem dX4_init_46 : decode cX4_init 46 = .ok (.bipush 24, 2) := by decide +kernel
theorem dX4_init_48 : decode cX4_init 48 = .ok (.anewarray 34, 3) := by decide +kernel
theorem dX4_init_51 : decode cX4_init 51 = .ok (.putfield 36, 3) := by decide +kernel
theorem dX4_init_54 : decode cX4_init 54 = .ok (.aload_n 0, 1) := by decide +kernel
theorem dX4_init_55 : decode cX4_init 55 = .ok (.bipush 24, 2) := by decide +kernel
theorem dX4_init_57 : decode cX4_init 57 = .ok (.anewarray 40, 3) := by decide +kernel
theorem dX4_init_60 : decode cX4_init 60 = .ok (.putfield 42, 3) := by decide +kernel
theorem dX4_init_63 : decode cX4_init 63 = .ok (.aload_n 0, 1) := by decide +kernel
theorem dX4_init_64 : decode cX4_init 64 = .ok (.bipush 25, 2) := by decide +kernel
theorem dX4_init_66 : decode cX4_init 66 = .ok (.newarray .int, 2) := by decide +kernel
theorem dX4_init_68 : decode cX4_init 68 = .ok (.putfield 46, 3) := by decide +kernel
theorem dX4_init_71 : decode cX4_init 71 = .ok (.iconst 0, 1) := by decide +kernel
theorem dX4_init_72 : decode cX4_init 72 = .ok (.istore_n 1, 1) := by decide +kernel
theorem dX4_init_73 : decode cX4_init 73 = .ok (.iload_n 1, 1) := by decide +kernel
theorem dX4_init_74 : decode cX4_init 74 = .ok (.bipush 24, 2) := by decide +kernel
theorem dX4_init_76 : decode cX4_init 76 = .ok (.if_icmp .ge 22, 3) := by decide +kernel
theorem dX4_init_79 : decode cX4_init 79 = .ok (.aload_n 0, 1) := by decide +kernel
theorem dX4_init_80 : decode cX4_init 80 = .ok (.getfield 36, 3) := by decide +kernel
theorem dX4_init_83 : decode cX4_init 83 = .ok (.iload_n 1, 1) := by decide +kernel
theorem dX4_init_84 : decode cX4_init 84 = .ok (.new 34, 3) := by decide +kernel
theorem dX4_init_87 : decode cX4_init 87 = .ok (.dup, 1) := by decide +kernel
theorem dX4_init_88 : decode cX4_init 88 = .ok (.invokespecial 49, 3) := by decide +kernel
theorem dX4_init_91 : decode cX4_init 91 = .ok (.aastore, 1) := by decide +kernel
theorem dX4_init_92 : decode cX4_init 92 = .ok (.iinc 1 1, 3) := by decide +kernel
theorem dX4_init_95 : decode cX4_init 95 = .ok (.goto (-22), 3) := by decide +kernel
theorem dX4_init_98 : decode cX4_init 98 = .ok (.iconst 0, 1) := by decide +kernel
theorem dX4_init_99 : decode cX4_init 99 = .ok (.istore_n 1, 1) := by decide +kernel
theorem dX4_init_100 : decode cX4_init 100 = .ok (.iload_n 1, 1) := by decide +kernel
theorem dX4_init_101 : decode cX4_init 101 = .ok (.bipush 24, 2) := by decide +kernel
theorem dX4_init_103 : decode cX4_init 103 = .ok (.if_icmp .ge 22, 3) := by decide +kernel
theorem dX4_init_106 : decode cX4_init 106 = .ok (.aload_n 0, 1) := by decide +kernel
theorem dX4_init_107 : decode cX4_init 107 = .ok (.getfield 42, 3) := by decide +kernel
theorem dX4_init_110 : decode cX4_init 110 = .ok (.iload_n 1, 1) := by decide +kernel
theorem dX4_init_111 : decode cX4_init 111 = .ok (.new 40, 3) := by decide +kernel
theorem dX4_init_114 : decode cX4_init 114 = .ok (.dup, 1) := by decide +kernel
theorem dX4_init_115 : decode cX4_init 115 = .ok (.invokespecial 50, 3) := by decide +kernel
theorem dX4_init_118 : decode cX4_init 118 = .ok (.aastore, 1) := by decide +kernel
theorem dX4_init_119 : decode cX4_init 119 = .ok (.iinc 1 1, 3) := by decide +kernel
theorem dX4_init_122 : decode cX4_init 122 = .ok (.goto (-22), 3) := by decide +kernel
theorem dX4_init_125 : decode cX4_init 125 = .ok (.return_, 1) := by decide +kernel
theorem dX4_copyFrom_0 : decode cX4_copyFrom 0 = .ok (.aload_n 0, 1) := by decide +kernel
theorem dX4_copyFrom_1 : decode cX4_copyFrom 1 = .ok (.aload_n 1, 1) := by decide +kernel
theorem dX4_copyFrom_2 : decode cX4_copyFrom 2 = .ok (.getfield 9, 3) := by decide +kernel
theorem dX4_copyFrom_5 : decode cX4_copyFrom 5 = .ok (.putfield 9, 3) := by decide +kernel
theorem dX4_copyFrom_8 : decode cX4_copyFrom 8 = .ok (.aload_n 0, 1) := by decide +kernel
theorem dX4_copyFrom_9 : decode cX4_copyFrom 9 = .ok (.aload_n 1, 1) := by decide +kernel
theorem dX4_copyFrom_10 : decode cX4_copyFrom 10 = .ok (.getfield 15, 3) := by decide +kernel
theorem dX4_copyFrom_13 : decode cX4_copyFrom 13 = .ok (.putfield 15, 3) := by decide +kernel
theorem dX4_copyFrom_16 : decode cX4_copyFrom 16 = .ok (.aload_n 0, 1) := by decide +kernel
theorem dX4_copyFrom_17 : decode cX4_copyFrom 17 = .ok (.aload_n 1, 1) := by decide +kernel
theorem dX4_copyFrom_18 : decode cX4_copyFrom 18 = .ok (.getfield 18, 3) := by decide +kernel
theorem dX4_copyFrom_21 : decode cX4_copyFrom 21 = .ok (.putfield 18, 3) := by decide +kernel
theorem dX4_copyFrom_24 : decode cX4_copyFrom 24 = .ok (.aload_n 0, 1) := by decide +kernel
theorem dX4_copyFrom_25 : decode cX4_copyFrom 25 = .ok (.aload_n 1, 1) := by decide +kernel
theorem dX4_copyFrom_26 : decode cX4_copyFrom 26 = .ok (.getfield 21, 3) := by decide +kernel
theorem dX4_copyFrom_29 : decode cX4_copyFrom 29 = .ok (.putfield 21, 3) := by decide +kernel
theorem dX4_copyFrom_32 : decode cX4_copyFrom 32 = .ok (.aload_n 0, 1) := by decide +kernel
theorem dX4_copyFrom_33 : decode cX4_copyFrom 33 = .ok (.aload_n 1, 1) := by decide +kernel
theorem dX4_copyFrom_34 : decode cX4_copyFrom 34 = .ok (.getfield 24, 3) := by decide +kernel
theorem dX4_copyFrom_37 : decode cX4_copyFrom 37 = .ok (.putfield 24, 3) := by decide +kernel
theorem dX4_copyFrom_40 : decode cX4_copyFrom 40 = .ok (.iconst 0, 1) := by decide +kernel
theorem dX4_copyFrom_41 : decode cX4_copyFrom 41 = .ok (.istore_n 2, 1) := by decide +kernel
theorem dX4_copyFrom_42 : decode cX4_copyFrom 42 = .ok (.iload_n 2, 1) := by decide +kernel
theorem dX4_copyFrom_43 : decode cX4_copyFrom 43 = .ok (.bipush 24, 2) := by decide +kernel
theorem dX4_copyFrom_45 : decode cX4_copyFrom 45 = .ok (.if_icmp .ge 33, 3) := by decide +kernel
theorem dX4_copyFrom_48 : decode cX4_copyFrom 48 = .ok (.aload_n 0, 1) := by decide +kernel
theorem dX4_copyFrom_49 : decode cX4_copyFrom 49 = .ok (.getfield 27, 3) := by decide +kernel
theorem dX4_copyFrom_52 : decode cX4_copyFrom 52 = .ok (.iload_n 2, 1) := by decide +kernel
theorem dX4_copyFrom_53 : decode cX4_copyFrom 53 = .ok (.aload_n 1, 1) := by decide +kernel
theorem dX4_copyFrom_54 : decode cX4_copyFrom 54 = .ok (.getfield 27, 3) := by decide +kernel
theorem dX4_copyFrom_57 : decode cX4_copyFrom 57 = .ok (.iload_n 2, 1) := by decide +kernel
theorem dX4_copyFrom_58 : decode cX4_copyFrom 58 = .ok (.iaload, 1) := by decide +kernel
theorem dX4_copyFrom_59 : decode cX4_copyFrom 59 = .ok (.iastore, 1) := by decide +kernel
theorem dX4_copyFrom_60 : decode cX4_copyFrom 60 = .ok (.aload_n 0, 1) := by decide +kernel
theorem dX4_copyFrom_61 : decode cX4_copyFrom 61 = .ok (.getfield 31, 3) := by decide +kernel
theorem dX4_copyFrom_64 : decode cX4_copyFrom 64 = .ok (.iload_n 2, 1) := by decide +kernel
theorem dX4_copyFrom_65 : decode cX4_copyFrom 65 = .ok (.aload_n 1, 1) := by decide +kernel
theorem dX4_copyFrom_66 : decode cX4_copyFrom 66 = .ok (.getfield 31, 3) := by decide +kernel
theorem dX4_copyFrom_69 : decode cX4_copyFrom 69 = .ok (.iload_n 2, 1) := by decide +kernel
theorem dX4_copyFrom_70 : decode cX4_copyFrom 70 = .ok (.iaload, 1) := by decide +kernel
theorem dX4_copyFrom_71 : decode cX4_copyFrom 71 = .ok (.iastore, 1) := by decide +kernel
theorem dX4_copyFrom_72 : decode cX4_copyFrom 72 = .ok (.iinc 2 1, 3) := by decide +kernel
theorem dX4_copyFrom_75 : decode cX4_copyFrom 75 = .ok (.goto (-33), 3) := by decide +kernel
theorem dX4_copyFrom_78 : decode cX4_copyFrom 78 = .ok (.iconst 0, 1) := by decide +kernel
theorem dX4_copyFrom_79 : decode cX4_copyFrom 79 = .ok (.istore_n 2, 1) := by decide +kernel
theorem dX4_copyFrom_80 : decode cX4_copyFrom 80 = .ok (.iload_n 2, 1) := by decide +kernel
theorem dX4_copyFrom_81 : decode cX4_copyFrom 81 = .ok (.aload_n 0, 1) := by decide +kernel
theorem dX4_copyFrom_82 : decode cX4_copyFrom 82 = .ok (.getfield 21, 3) := by decide +kernel
theorem dX4_copyFrom_85 : decode cX4_copyFrom 85 = .ok (.if_icmp .ge 24, 3) := by decide +kernel
theorem dX4_copyFrom_88 : decode cX4_copyFrom 88 = .ok (.aload_n 0, 1) := by decide +kernel
theorem dX4_copyFrom_89 : decode cX4_copyFrom 89 = .ok (.getfield 36, 3) := by decide +kernel
theorem dX4_copyFrom_92 : decode cX4_copyFrom 92 = .ok (.iload_n 2, 1) := by decide +kernel
theorem dX4_copyFrom_93 : decode cX4_copyFrom 93 = .ok (.aaload, 1) := by decide +kernel
theorem dX4_copyFrom_94 : decode cX4_copyFrom 94 = .ok (.aload_n 1, 1) := by decide +kernel
theorem dX4_copyFrom_95 : decode cX4_copyFrom 95 = .ok (.getfield 36, 3) := by decide +kernel
theorem dX4_copyFrom_98 : decode cX4_copyFrom 98 = .ok (.iload_n 2, 1) := by decide +kernel
theorem dX4_copyFrom_99 : decode cX4_copyFrom 99 = .ok (.aaload, 1) := by decide +kernel
theorem dX4_copyFrom_100 : decode cX4_copyFrom 100 = .ok (.invokevirtual 51, 3) := by decide +kernel
theorem dX4_copyFrom_103 : decode cX4_copyFrom 103 = .ok (.iinc 2 1, 3) := by decide +kernel
theorem dX4_copyFrom_106 : decode cX4_copyFrom 106 = .ok (.goto (-26), 3) := by decide +kernel
theorem dX4_copyFrom_109 : decode cX4_copyFrom 109 = .ok (.iconst 0, 1) := by decide +kernel
theorem dX4_copyFrom_110 : decode cX4_copyFrom 110 = .ok (.istore_n 2, 1) := by decide +kernel
theorem dX4_copyFrom_111 : decode cX4_copyFrom 111 = .ok (.iload_n 2, 1) := by decide +kernel
theorem dX4_copyFrom_112 : decode cX4_copyFrom 112 = .ok (.aload_n 0, 1) := by decide +kernel
theorem dX4_copyFrom_113 : decode cX4_copyFrom 113 = .ok (.getfield 24, 3) := by decide +kernel
theorem dX4_copyFrom_116 : decode cX4_copyFrom 116 = .ok (.if_icmp .ge 24, 3) := by decide +kernel
theorem dX4_copyFrom_119 : decode cX4_copyFrom 119 = .ok (.aload_n 0, 1) := by decide +kernel
theorem dX4_copyFrom_120 : decode cX4_copyFrom 120 = .ok (.getfield 42, 3) := by decide +kernel
theorem dX4_copyFrom_123 : decode cX4_copyFrom 123 = .ok (.iload_n 2, 1) := by decide +kernel
theorem dX4_copyFrom_124 : decode cX4_copyFrom 124 = .ok (.aaload, 1) := by decide +kernel
theorem dX4_copyFrom_125 : decode cX4_copyFrom 125 = .ok (.aload_n 1, 1) := by decide +kernel
theorem dX4_copyFrom_126 : decode cX4_copyFrom 126 = .ok (.getfield 42, 3) := by decide +kernel
theorem dX4_copyFrom_129 : decode cX4_copyFrom 129 = .ok (.iload_n 2, 1) := by decide +kernel
theorem dX4_copyFrom_130 : decode cX4_copyFrom 130 = .ok (.aaload, 1) := by decide +kernel
theorem dX4_copyFrom_131 : decode cX4_copyFrom 131 = .ok (.invokevirtual 55, 3) := by decide +kernel
theorem dX4_copyFrom_134 : decode cX4_copyFrom 134 = .ok (.iinc 2 1, 3) := by decide +kernel
theorem dX4_copyFrom_137 : decode cX4_copyFrom 137 = .ok (.goto (-26), 3) := by decide +kernel
theorem dX4_copyFrom_140 : decode cX4_copyFrom 140 = .ok (.return_, 1) := by decide +kernel
theorem dX4_clear_0 : decode cX4_clear 0 = .ok (.aload_n 0, 1) := by decide +kernel
theorem dX4_clear_1 : decode cX4_clear 1 = .ok (.iconst 0, 1) := by decide +kernel
theorem dX4_clear_2 : decode cX4_clear 2 = .ok (.putfield 9, 3) := by decide +kernel
theorem dX4_clear_5 : decode cX4_clear 5 = .ok (.aload_n 0, 1) := by decide +kernel
theorem dX4_clear_6 : decode cX4_clear 6 = .ok (.iconst 0, 1) := by decide +kernel
theorem dX4_clear_7 : decode cX4_clear 7 = .ok (.putfield 15, 3) := by decide +kernel
theorem dX4_clear_10 : decode cX4_clear 10 = .ok (.aload_n 0, 1) := by decide +kernel
theorem dX4_clear_11 : decode cX4_clear 11 = .ok (.iconst 0, 1) := by decide +kernel
theorem dX4_clear_12 : decode cX4_clear 12 = .ok (.putfield 18, 3) := by decide +kernel
theorem dX4_clear_15 : decode cX4_clear 15 = .ok (.aload_n 0, 1) := by decide +kernel
theorem dX4_clear_16 : decode cX4_clear 16 = .ok (.iconst 0, 1) := by decide +kernel
theorem dX4_clear_17 : decode cX4_clear 17 = .ok (.putfield 21, 3) := by decide +kernel
theorem dX4_clear_20 : decode cX4_clear 20 = .ok (.aload_n 0, 1) := by decide +kernel
theorem dX4_clear_21 : decode cX4_clear 21 = .ok (.iconst 0, 1) := by decide +kernel
theorem dX4_clear_22 : decode cX4_clear 22 = .ok (.putfield 24, 3) := by decide +kernel
theorem dX4_clear_25 : decode cX4_clear 25 = .ok (.iconst 0, 1) := by decide +kernel
theorem dX4_clear_26 : decode cX4_clear 26 = .ok (.istore_n 1, 1) := by decide +kernel
theorem dX4_clear_27 : decode cX4_clear 27 = .ok (.iload_n 1, 1) := by decide +kernel
theorem dX4_clear_28 : decode cX4_clear 28 = .ok (.bipush 24, 2) := by decide +kernel
theorem dX4_clear_30 : decode cX4_clear 30 = .ok (.if_icmp .ge 23, 3) := by decide +kernel
theorem dX4_clear_33 : decode cX4_clear 33 = .ok (.aload_n 0, 1) := by decide +kernel
theorem dX4_clear_34 : decode cX4_clear 34 = .ok (.getfield 27, 3) := by decide +kernel
theorem dX4_clear_37 : decode cX4_clear 37 = .ok (.iload_n 1, 1) := by decide +kernel
theorem dX4_clear_38 : decode cX4_clear 38 = .ok (.iconst 4, 1) := by decide +kernel
theorem dX4_clear_39 : decode cX4_clear 39 = .ok (.iastore, 1) := by decide +kernel
theorem dX4_clear_40 : decode cX4_clear 40 = .ok (.aload_n 0, 1) := by decide +kernel
theorem dX4_clear_41 : decode cX4_clear 41 = .ok (.getfield 31, 3) := by decide +kernel
theorem dX4_clear_44 : decode cX4_clear 44 = .ok (.iload_n 1, 1) := by decide +kernel
theorem dX4_clear_45 : decode cX4_clear 45 = .ok (.iconst 4, 1) := by decide +kernel
theorem dX4_clear_46 : decode cX4_clear 46 = .ok (.iastore, 1) := by decide +kernel
theorem dX4_clear_47 : decode cX4_clear 47 = .ok (.iinc 1 1, 3) := by decide +kernel
theorem dX4_clear_50 : decode cX4_clear 50 = .ok (.goto (-23), 3) := by decide +kernel
theorem dX4_clear_53 : decode cX4_clear 53 = .ok (.return_, 1) := by decide +kernel
theorem dX4_addSeries_0 : decode cX4_addSeries 0 = .ok (.aload_n 0, 1) := by decide +kernel
theorem dX4_addSeries_1 : decode cX4_addSeries 1 = .ok (.getfield 21, 3) := by decide +kernel
theorem dX4_addSeries_4 : decode cX4_addSeries 4 = .ok (.bipush 23, 2) := by decide +kernel
theorem dX4_addSeries_6 : decode cX4_addSeries 6 = .ok (.invokestatic 58, 3) := by decide +kernel
theorem dX4_addSeries_9 : decode cX4_addSeries 9 = .ok (.istore_n 1, 1) := by decide +kernel
theorem dX4_addSeries_10 : decode cX4_addSeries 10 = .ok (.aload_n 0, 1) := by decide +kernel
theorem dX4_addSeries_11 : decode cX4_addSeries 11 = .ok (.iload_n 1, 1) := by decide +kernel
theorem dX4_addSeries_12 : decode cX4_addSeries 12 = .ok (.iconst 1, 1) := by decide +kernel
theorem dX4_addSeries_13 : decode cX4_addSeries 13 = .ok (.iadd, 1) := by decide +kernel
theorem dX4_addSeries_14 : decode cX4_addSeries 14 = .ok (.putfield 21, 3) := by decide +kernel
theorem dX4_addSeries_17 : decode cX4_addSeries 17 = .ok (.aload_n 0, 1) := by decide +kernel
theorem dX4_addSeries_18 : decode cX4_addSeries 18 = .ok (.getfield 36, 3) := by decide +kernel
theorem dX4_addSeries_21 : decode cX4_addSeries 21 = .ok (.iload_n 1, 1) := by decide +kernel
theorem dX4_addSeries_22 : decode cX4_addSeries 22 = .ok (.aaload, 1) := by decide +kernel
theorem dX4_addSeries_23 : decode cX4_addSeries 23 = .ok (.areturn, 1) := by decide +kernel
theorem dX4_addAsk_0 : decode cX4_addAsk 0 = .ok (.aload_n 0, 1) := by decide +kernel
theorem dX4_addAsk_1 : decode cX4_addAsk 1 = .ok (.getfield 24, 3) := by decide +kernel
theorem dX4_addAsk_4 : decode cX4_addAsk 4 = .ok (.bipush 23, 2) := by decide +kernel
theorem dX4_addAsk_6 : decode cX4_addAsk 6 = .ok (.invokestatic 58, 3) := by decide +kernel
theorem dX4_addAsk_9 : decode cX4_addAsk 9 = .ok (.istore_n 1, 1) := by decide +kernel
theorem dX4_addAsk_10 : decode cX4_addAsk 10 = .ok (.aload_n 0, 1) := by decide +kernel
theorem dX4_addAsk_11 : decode cX4_addAsk 11 = .ok (.iload_n 1, 1) := by decide +kernel
theorem dX4_addAsk_12 : decode cX4_addAsk 12 = .ok (.iconst 1, 1) := by decide +kernel
theorem dX4_addAsk_13 : decode cX4_addAsk 13 = .ok (.iadd, 1) := by decide +kernel
theorem dX4_addAsk_14 : decode cX4_addAsk 14 = .ok (.putfield 24, 3) := by decide +kernel
theorem dX4_addAsk_17 : decode cX4_addAsk 17 = .ok (.aload_n 0, 1) := by decide +kernel
theorem dX4_addAsk_18 : decode cX4_addAsk 18 = .ok (.getfield 42, 3) := by decide +kernel
theorem dX4_addAsk_21 : decode cX4_addAsk 21 = .ok (.iload_n 1, 1) := by decide +kernel
theorem dX4_addAsk_22 : decode cX4_addAsk 22 = .ok (.aaload, 1) := by decide +kernel
theorem dX4_addAsk_23 : decode cX4_addAsk 23 = .ok (.areturn, 1) := by decide +kernel
theorem dX4_removeAsk_0 : decode cX4_removeAsk 0 = .ok (.aload_n 0, 1) := by decide +kernel
theorem dX4_removeAsk_1 : decode cX4_removeAsk 1 = .ok (.getfield 42, 3) := by decide +kernel
theorem dX4_removeAsk_4 : decode cX4_removeAsk 4 = .ok (.iload_n 1, 1) := by decide +kernel
theorem dX4_removeAsk_5 : decode cX4_removeAsk 5 = .ok (.aaload, 1) := by decide +kernel
theorem dX4_removeAsk_6 : decode cX4_removeAsk 6 = .ok (.astore_n 2, 1) := by decide +kernel
theorem dX4_removeAsk_7 : decode cX4_removeAsk 7 = .ok (.iload_n 1, 1) := by decide +kernel
theorem dX4_removeAsk_8 : decode cX4_removeAsk 8 = .ok (.iconst 1, 1) := by decide +kernel
theorem dX4_removeAsk_9 : decode cX4_removeAsk 9 = .ok (.iadd, 1) := by decide +kernel
theorem dX4_removeAsk_10 : decode cX4_removeAsk 10 = .ok (.istore_n 3, 1) := by decide +kernel
theorem dX4_removeAsk_11 : decode cX4_removeAsk 11 = .ok (.iload_n 3, 1) := by decide +kernel
theorem dX4_removeAsk_12 : decode cX4_removeAsk 12 = .ok (.aload_n 0, 1) := by decide +kernel
theorem dX4_removeAsk_13 : decode cX4_removeAsk 13 = .ok (.getfield 24, 3) := by decide +kernel
theorem dX4_removeAsk_16 : decode cX4_removeAsk 16 = .ok (.if_icmp .ge 23, 3) := by decide +kernel
theorem dX4_removeAsk_19 : decode cX4_removeAsk 19 = .ok (.aload_n 0, 1) := by decide +kernel
theorem dX4_removeAsk_20 : decode cX4_removeAsk 20 = .ok (.getfield 42, 3) := by decide +kernel
theorem dX4_removeAsk_23 : decode cX4_removeAsk 23 = .ok (.iload_n 3, 1) := by decide +kernel
theorem dX4_removeAsk_24 : decode cX4_removeAsk 24 = .ok (.iconst 1, 1) := by decide +kernel
theorem dX4_removeAsk_25 : decode cX4_removeAsk 25 = .ok (.isub, 1) := by decide +kernel
theorem dX4_removeAsk_26 : decode cX4_removeAsk 26 = .ok (.aload_n 0, 1) := by decide +kernel
theorem dX4_removeAsk_27 : decode cX4_removeAsk 27 = .ok (.getfield 42, 3) := by decide +kernel
theorem dX4_removeAsk_30 : decode cX4_removeAsk 30 = .ok (.iload_n 3, 1) := by decide +kernel
theorem dX4_removeAsk_31 : decode cX4_removeAsk 31 = .ok (.aaload, 1) := by decide +kernel
theorem dX4_removeAsk_32 : decode cX4_removeAsk 32 = .ok (.aastore, 1) := by decide +kernel
theorem dX4_removeAsk_33 : decode cX4_removeAsk 33 = .ok (.iinc 3 1, 3) := by decide +kernel
theorem dX4_removeAsk_36 : decode cX4_removeAsk 36 = .ok (.goto (-25), 3) := by decide +kernel
theorem dX4_removeAsk_39 : decode cX4_removeAsk 39 = .ok (.aload_n 0, 1) := by decide +kernel
theorem dX4_removeAsk_40 : decode cX4_removeAsk 40 = .ok (.dup, 1) := by decide +kernel
theorem dX4_removeAsk_41 : decode cX4_removeAsk 41 = .ok (.getfield 24, 3) := by decide +kernel
theorem dX4_removeAsk_44 : decode cX4_removeAsk 44 = .ok (.iconst 1, 1) := by decide +kernel
theorem dX4_removeAsk_45 : decode cX4_removeAsk 45 = .ok (.isub, 1) := by decide +kernel
theorem dX4_removeAsk_46 : decode cX4_removeAsk 46 = .ok (.putfield 24, 3) := by decide +kernel
theorem dX4_removeAsk_49 : decode cX4_removeAsk 49 = .ok (.aload_n 0, 1) := by decide +kernel
theorem dX4_removeAsk_50 : decode cX4_removeAsk 50 = .ok (.getfield 42, 3) := by decide +kernel
theorem dX4_removeAsk_53 : decode cX4_removeAsk 53 = .ok (.aload_n 0, 1) := by decide +kernel
theorem dX4_removeAsk_54 : decode cX4_removeAsk 54 = .ok (.getfield 24, 3) := by decide +kernel
theorem dX4_removeAsk_57 : decode cX4_removeAsk 57 = .ok (.aload_n 2, 1) := by decide +kernel
theorem dX4_removeAsk_58 : decode cX4_removeAsk 58 = .ok (.aastore, 1) := by decide +kernel
theorem dX4_removeAsk_59 : decode cX4_removeAsk 59 = .ok (.return_, 1) := by decide +kernel
theorem dX4_isOver_0 : decode cX4_isOver 0 = .ok (.aload_n 0, 1) := by decide +kernel
theorem dX4_isOver_1 : decode cX4_isOver 1 = .ok (.getfield 15, 3) := by decide +kernel
theorem dX4_isOver_4 : decode cX4_isOver 4 = .ok (.aload_n 0, 1) := by decide +kernel
theorem dX4_isOver_5 : decode cX4_isOver 5 = .ok (.getfield 9, 3) := by decide +kernel
theorem dX4_isOver_8 : decode cX4_isOver 8 = .ok (.if_icmp .lt 7, 3) := by decide +kernel
theorem dX4_isOver_11 : decode cX4_isOver 11 = .ok (.iconst 1, 1) := by decide +kernel
theorem dX4_isOver_12 : decode cX4_isOver 12 = .ok (.goto 4, 3) := by decide +kernel
theorem dX4_isOver_15 : decode cX4_isOver 15 = .ok (.iconst 0, 1) := by decide +kernel
theorem dX4_isOver_16 : decode cX4_isOver 16 = .ok (.ireturn, 1) := by decide +kernel
theorem dX4_weeksToCome_0 : decode cX4_weeksToCome 0 = .ok (.aload_n 0, 1) := by decide +kernel
theorem dX4_weeksToCome_1 : decode cX4_weeksToCome 1 = .ok (.invokevirtual 64, 3) := by decide +kernel
theorem dX4_weeksToCome_4 : decode cX4_weeksToCome 4 = .ok (.ifCond .eq 7, 3) := by decide +kernel
theorem dX4_weeksToCome_7 : decode cX4_weeksToCome 7 = .ok (.iconst 0, 1) := by decide +kernel
theorem dX4_weeksToCome_8 : decode cX4_weeksToCome 8 = .ok (.goto 16, 3) := by decide +kernel
theorem dX4_weeksToCome_11 : decode cX4_weeksToCome 11 = .ok (.aload_n 0, 1) := by decide +kernel
theorem dX4_weeksToCome_12 : decode cX4_weeksToCome 12 = .ok (.getfield 15, 3) := by decide +kernel
theorem dX4_weeksToCome_15 : decode cX4_weeksToCome 15 = .ok (.aload_n 0, 1) := by decide +kernel
theorem dX4_weeksToCome_16 : decode cX4_weeksToCome 16 = .ok (.getfield 9, 3) := by decide +kernel
theorem dX4_weeksToCome_19 : decode cX4_weeksToCome 19 = .ok (.iconst 1, 1) := by decide +kernel
theorem dX4_weeksToCome_20 : decode cX4_weeksToCome 20 = .ok (.isub, 1) := by decide +kernel
theorem dX4_weeksToCome_21 : decode cX4_weeksToCome 21 = .ok (.invokestatic 68, 3) := by decide +kernel
theorem dX4_weeksToCome_24 : decode cX4_weeksToCome 24 = .ok (.ireturn, 1) := by decide +kernel
theorem dX4_loadOf_0 : decode cX4_loadOf 0 = .ok (.iconst 0, 1) := by decide +kernel
theorem dX4_loadOf_1 : decode cX4_loadOf 1 = .ok (.istore 4, 2) := by decide +kernel
theorem dX4_loadOf_3 : decode cX4_loadOf 3 = .ok (.iconst 0, 1) := by decide +kernel
theorem dX4_loadOf_4 : decode cX4_loadOf 4 = .ok (.istore 5, 2) := by decide +kernel
theorem dX4_loadOf_6 : decode cX4_loadOf 6 = .ok (.iload 5, 2) := by decide +kernel
theorem dX4_loadOf_8 : decode cX4_loadOf 8 = .ok (.aload_n 0, 1) := by decide +kernel
theorem dX4_loadOf_9 : decode cX4_loadOf 9 = .ok (.getfield 21, 3) := by decide +kernel
theorem dX4_loadOf_12 : decode cX4_loadOf 12 = .ok (.if_icmp .ge 28, 3) := by decide +kernel
theorem dX4_loadOf_15 : decode cX4_loadOf 15 = .ok (.aload_n 0, 1) := by decide +kernel
theorem dX4_loadOf_16 : decode cX4_loadOf 16 = .ok (.getfield 36, 3) := by decide +kernel
theorem dX4_loadOf_19 : decode cX4_loadOf 19 = .ok (.iload 5, 2) := by decide +kernel
theorem dX4_loadOf_21 : decode cX4_loadOf 21 = .ok (.aaload, 1) := by decide +kernel
theorem dX4_loadOf_22 : decode cX4_loadOf 22 = .ok (.iload_n 1, 1) := by decide +kernel
theorem dX4_loadOf_23 : decode cX4_loadOf 23 = .ok (.iload_n 2, 1) := by decide +kernel
theorem dX4_loadOf_24 : decode cX4_loadOf 24 = .ok (.iload_n 3, 1) := by decide +kernel
theorem dX4_loadOf_25 : decode cX4_loadOf 25 = .ok (.invokevirtual 71, 3) := by decide +kernel
theorem dX4_loadOf_28 : decode cX4_loadOf 28 = .ok (.ifCond .eq 6, 3) := by decide +kernel
theorem dX4_loadOf_31 : decode cX4_loadOf 31 = .ok (.iinc 4 1, 3) := by decide +kernel
theorem dX4_loadOf_34 : decode cX4_loadOf 34 = .ok (.iinc 5 1, 3) := by decide +kernel
theorem dX4_loadOf_37 : decode cX4_loadOf 37 = .ok (.goto (-31), 3) := by decide +kernel
theorem dX4_loadOf_40 : decode cX4_loadOf 40 = .ok (.iload 4, 2) := by decide +kernel
theorem dX4_loadOf_42 : decode cX4_loadOf 42 = .ok (.ireturn, 1) := by decide +kernel
theorem dX4_loadIn_0 : decode cX4_loadIn 0 = .ok (.iconst 0, 1) := by decide +kernel
theorem dX4_loadIn_1 : decode cX4_loadIn 1 = .ok (.istore 4, 2) := by decide +kernel
theorem dX4_loadIn_3 : decode cX4_loadIn 3 = .ok (.iconst 0, 1) := by decide +kernel
theorem dX4_loadIn_4 : decode cX4_loadIn 4 = .ok (.istore 5, 2) := by decide +kernel
theorem dX4_loadIn_6 : decode cX4_loadIn 6 = .ok (.iload 5, 2) := by decide +kernel
theorem dX4_loadIn_8 : decode cX4_loadIn 8 = .ok (.aload_n 0, 1) := by decide +kernel
theorem dX4_loadIn_9 : decode cX4_loadIn 9 = .ok (.getfield 21, 3) := by decide +kernel
theorem dX4_loadIn_12 : decode cX4_loadIn 12 = .ok (.if_icmp .ge 41, 3) := by decide +kernel
theorem dX4_loadIn_15 : decode cX4_loadIn 15 = .ok (.aload_n 0, 1) := by decide +kernel
theorem dX4_loadIn_16 : decode cX4_loadIn 16 = .ok (.getfield 36, 3) := by decide +kernel
theorem dX4_loadIn_19 : decode cX4_loadIn 19 = .ok (.iload 5, 2) := by decide +kernel
theorem dX4_loadIn_21 : decode cX4_loadIn 21 = .ok (.aaload, 1) := by decide +kernel
theorem dX4_loadIn_22 : decode cX4_loadIn 22 = .ok (.getfield 75, 3) := by decide +kernel
theorem dX4_loadIn_25 : decode cX4_loadIn 25 = .ok (.ifCond .ne 22, 3) := by decide +kernel
theorem dX4_loadIn_28 : decode cX4_loadIn 28 = .ok (.aload_n 0, 1) := by decide +kernel
theorem dX4_loadIn_29 : decode cX4_loadIn 29 = .ok (.getfield 36, 3) := by decide +kernel
theorem dX4_loadIn_32 : decode cX4_loadIn 32 = .ok (.iload 5, 2) := by decide +kernel
theorem dX4_loadIn_34 : decode cX4_loadIn 34 = .ok (.aaload, 1) := by decide +kernel
theorem dX4_loadIn_35 : decode cX4_loadIn 35 = .ok (.iload_n 1, 1) := by decide +kernel
theorem dX4_loadIn_36 : decode cX4_loadIn 36 = .ok (.iload_n 2, 1) := by decide +kernel
theorem dX4_loadIn_37 : decode cX4_loadIn 37 = .ok (.iload_n 3, 1) := by decide +kernel
theorem dX4_loadIn_38 : decode cX4_loadIn 38 = .ok (.invokevirtual 71, 3) := by decide +kernel
theorem dX4_loadIn_41 : decode cX4_loadIn 41 = .ok (.ifCond .eq 6, 3) := by decide +kernel
theorem dX4_loadIn_44 : decode cX4_loadIn 44 = .ok (.iinc 4 1, 3) := by decide +kernel
theorem dX4_loadIn_47 : decode cX4_loadIn 47 = .ok (.iinc 5 1, 3) := by decide +kernel
theorem dX4_loadIn_50 : decode cX4_loadIn 50 = .ok (.goto (-44), 3) := by decide +kernel
theorem dX4_loadIn_53 : decode cX4_loadIn 53 = .ok (.iload 4, 2) := by decide +kernel
theorem dX4_loadIn_55 : decode cX4_loadIn 55 = .ok (.ireturn, 1) := by decide +kernel
theorem dX4_weeksLoaded_0 : decode cX4_weeksLoaded 0 = .ok (.iload_n 3, 1) := by decide +kernel
theorem dX4_weeksLoaded_1 : decode cX4_weeksLoaded 1 = .ok (.ifCond .gt 5, 3) := by decide +kernel
theorem dX4_weeksLoaded_4 : decode cX4_weeksLoaded 4 = .ok (.iconst (-1), 1) := by decide +kernel
theorem dX4_weeksLoaded_5 : decode cX4_weeksLoaded 5 = .ok (.ireturn, 1) := by decide +kernel
theorem dX4_weeksLoaded_6 : decode cX4_weeksLoaded 6 = .ok (.iload_n 3, 1) := by decide +kernel
theorem dX4_weeksLoaded_7 : decode cX4_weeksLoaded 7 = .ok (.aload_n 0, 1) := by decide +kernel
theorem dX4_weeksLoaded_8 : decode cX4_weeksLoaded 8 = .ok (.getfield 21, 3) := by decide +kernel
theorem dX4_weeksLoaded_11 : decode cX4_weeksLoaded 11 = .ok (.if_icmp .le 5, 3) := by decide +kernel
theorem dX4_weeksLoaded_14 : decode cX4_weeksLoaded 14 = .ok (.iconst 0, 1) := by decide +kernel
theorem dX4_weeksLoaded_15 : decode cX4_weeksLoaded 15 = .ok (.ireturn, 1) := by decide +kernel
theorem dX4_weeksLoaded_16 : decode cX4_weeksLoaded 16 = .ok (.aload_n 0, 1) := by decide +kernel
theorem dX4_weeksLoaded_17 : decode cX4_weeksLoaded 17 = .ok (.getfield 46, 3) := by decide +kernel
theorem dX4_weeksLoaded_20 : decode cX4_weeksLoaded 20 = .ok (.iconst 0, 1) := by decide +kernel
theorem dX4_weeksLoaded_21 : decode cX4_weeksLoaded 21 = .ok (.iconst (-1), 1) := by decide +kernel
theorem dX4_weeksLoaded_22 : decode cX4_weeksLoaded 22 = .ok (.iastore, 1) := by decide +kernel
theorem dX4_weeksLoaded_23 : decode cX4_weeksLoaded 23 = .ok (.iconst 1, 1) := by decide +kernel
theorem dX4_weeksLoaded_24 : decode cX4_weeksLoaded 24 = .ok (.istore 6, 2) := by decide +kernel
theorem dX4_weeksLoaded_26 : decode cX4_weeksLoaded 26 = .ok (.iload 6, 2) := by decide +kernel
theorem dX4_weeksLoaded_28 : decode cX4_weeksLoaded 28 = .ok (.iload_n 3, 1) := by decide +kernel
theorem dX4_weeksLoaded_29 : decode cX4_weeksLoaded 29 = .ok (.if_icmp .gt 17, 3) := by decide +kernel
theorem dX4_weeksLoaded_32 : decode cX4_weeksLoaded 32 = .ok (.aload_n 0, 1) := by decide +kernel
theorem dX4_weeksLoaded_33 : decode cX4_weeksLoaded 33 = .ok (.getfield 46, 3) := by decide +kernel
theorem dX4_weeksLoaded_36 : decode cX4_weeksLoaded 36 = .ok (.iload 6, 2) := by decide +kernel
theorem dX4_weeksLoaded_38 : decode cX4_weeksLoaded 38 = .ok (.iconst 0, 1) := by decide +kernel
theorem dX4_weeksLoaded_39 : decode cX4_weeksLoaded 39 = .ok (.iastore, 1) := by decide +kernel
theorem dX4_weeksLoaded_40 : decode cX4_weeksLoaded 40 = .ok (.iinc 6 1, 3) := by decide +kernel
theorem dX4_weeksLoaded_43 : decode cX4_weeksLoaded 43 = .ok (.goto (-17), 3) := by decide +kernel
theorem dX4_weeksLoaded_46 : decode cX4_weeksLoaded 46 = .ok (.iconst 0, 1) := by decide +kernel
theorem dX4_weeksLoaded_47 : decode cX4_weeksLoaded 47 = .ok (.istore 6, 2) := by decide +kernel
theorem dX4_weeksLoaded_49 : decode cX4_weeksLoaded 49 = .ok (.iload 6, 2) := by decide +kernel
theorem dX4_weeksLoaded_51 : decode cX4_weeksLoaded 51 = .ok (.aload_n 0, 1) := by decide +kernel
theorem dX4_weeksLoaded_52 : decode cX4_weeksLoaded 52 = .ok (.getfield 21, 3) := by decide +kernel
theorem dX4_weeksLoaded_55 : decode cX4_weeksLoaded 55 = .ok (.if_icmp .ge 103, 3) := by decide +kernel
theorem dX4_weeksLoaded_58 : decode cX4_weeksLoaded 58 = .ok (.aload_n 0, 1) := by decide +kernel
theorem dX4_weeksLoaded_59 : decode cX4_weeksLoaded 59 = .ok (.getfield 36, 3) := by decide +kernel
theorem dX4_weeksLoaded_62 : decode cX4_weeksLoaded 62 = .ok (.iload 6, 2) := by decide +kernel
theorem dX4_weeksLoaded_64 : decode cX4_weeksLoaded 64 = .ok (.aaload, 1) := by decide +kernel
theorem dX4_weeksLoaded_65 : decode cX4_weeksLoaded 65 = .ok (.astore 7, 2) := by decide +kernel
theorem dX4_weeksLoaded_67 : decode cX4_weeksLoaded 67 = .ok (.aload 7, 2) := by decide +kernel
theorem dX4_weeksLoaded_69 : decode cX4_weeksLoaded 69 = .ok (.getfield 78, 3) := by decide +kernel
theorem dX4_weeksLoaded_72 : decode cX4_weeksLoaded 72 = .ok (.iload_n 1, 1) := by decide +kernel
theorem dX4_weeksLoaded_73 : decode cX4_weeksLoaded 73 = .ok (.if_icmp .ne 79, 3) := by decide +kernel
theorem dX4_weeksLoaded_76 : decode cX4_weeksLoaded 76 = .ok (.aload 7, 2) := by decide +kernel
theorem dX4_weeksLoaded_78 : decode cX4_weeksLoaded 78 = .ok (.getfield 81, 3) := by decide +kernel
theorem dX4_weeksLoaded_81 : decode cX4_weeksLoaded 81 = .ok (.iload_n 2, 1) := by decide +kernel
theorem dX4_weeksLoaded_82 : decode cX4_weeksLoaded 82 = .ok (.if_icmp .ne 70, 3) := by decide +kernel
theorem dX4_weeksLoaded_85 : decode cX4_weeksLoaded 85 = .ok (.iload 5, 2) := by decide +kernel
theorem dX4_weeksLoaded_87 : decode cX4_weeksLoaded 87 = .ok (.iload 6, 2) := by decide +kernel
theorem dX4_weeksLoaded_89 : decode cX4_weeksLoaded 89 = .ok (.invokestatic 84, 3) := by decide +kernel
theorem dX4_weeksLoaded_92 : decode cX4_weeksLoaded 92 = .ok (.ifCond .ne 60, 3) := by decide +kernel
theorem dX4_weeksLoaded_95 : decode cX4_weeksLoaded 95 = .ok (.aload 7, 2) := by decide +kernel
theorem dX4_weeksLoaded_97 : decode cX4_weeksLoaded 97 = .ok (.getfield 75, 3) := by decide +kernel
theorem dX4_weeksLoaded_100 : decode cX4_weeksLoaded 100 = .ok (.ifCond .eq 8, 3) := by decide +kernel
theorem dX4_weeksLoaded_103 : decode cX4_weeksLoaded 103 = .ok (.iload 4, 2) := by decide +kernel
theorem dX4_weeksLoaded_105 : decode cX4_weeksLoaded 105 = .ok (.ifCond .ne 47, 3) := by decide +kernel
theorem dX4_weeksLoaded_108 : decode cX4_weeksLoaded 108 = .ok (.aload 7, 2) := by decide +kernel
theorem dX4_weeksLoaded_110 : decode cX4_weeksLoaded 110 = .ok (.invokevirtual 88, 3) := by decide +kernel
theorem dX4_weeksLoaded_113 : decode cX4_weeksLoaded 113 = .ok (.istore 8, 2) := by decide +kernel
theorem dX4_weeksLoaded_115 : decode cX4_weeksLoaded 115 = .ok (.iload_n 3, 1) := by decide +kernel
theorem dX4_weeksLoaded_116 : decode cX4_weeksLoaded 116 = .ok (.istore 9, 2) := by decide +kernel
theorem dX4_weeksLoaded_118 : decode cX4_weeksLoaded 118 = .ok (.iload 9, 2) := by decide +kernel
theorem dX4_weeksLoaded_120 : decode cX4_weeksLoaded 120 = .ok (.iconst 1, 1) := by decide +kernel
theorem dX4_weeksLoaded_121 : decode cX4_weeksLoaded 121 = .ok (.if_icmp .lt 31, 3) := by decide +kernel
theorem dX4_weeksLoaded_124 : decode cX4_weeksLoaded 124 = .ok (.aload_n 0, 1) := by decide +kernel
theorem dX4_weeksLoaded_125 : decode cX4_weeksLoaded 125 = .ok (.getfield 46, 3) := by decide +kernel
theorem dX4_weeksLoaded_128 : decode cX4_weeksLoaded 128 = .ok (.iload 9, 2) := by decide +kernel
theorem dX4_weeksLoaded_130 : decode cX4_weeksLoaded 130 = .ok (.dup2, 1) := by decide +kernel
theorem dX4_weeksLoaded_131 : decode cX4_weeksLoaded 131 = .ok (.iaload, 1) := by decide +kernel
theorem dX4_weeksLoaded_132 : decode cX4_weeksLoaded 132 = .ok (.aload_n 0, 1) := by decide +kernel
theorem dX4_weeksLoaded_133 : decode cX4_weeksLoaded 133 = .ok (.getfield 46, 3) := by decide +kernel
theorem dX4_weeksLoaded_136 : decode cX4_weeksLoaded 136 = .ok (.iload 9, 2) := by decide +kernel
theorem dX4_weeksLoaded_138 : decode cX4_weeksLoaded 138 = .ok (.iconst 1, 1) := by decide +kernel
theorem dX4_weeksLoaded_139 : decode cX4_weeksLoaded 139 = .ok (.isub, 1) := by decide +kernel
theorem dX4_weeksLoaded_140 : decode cX4_weeksLoaded 140 = .ok (.iaload, 1) := by decide +kernel
theorem dX4_weeksLoaded_141 : decode cX4_weeksLoaded 141 = .ok (.iload 8, 2) := by decide +kernel
theorem dX4_weeksLoaded_143 : decode cX4_weeksLoaded 143 = .ok (.iand, 1) := by decide +kernel
theorem dX4_weeksLoaded_144 : decode cX4_weeksLoaded 144 = .ok (.ior, 1) := by decide +kernel
theorem dX4_weeksLoaded_145 : decode cX4_weeksLoaded 145 = .ok (.iastore, 1) := by decide +kernel
theorem dX4_weeksLoaded_146 : decode cX4_weeksLoaded 146 = .ok (.iinc 9 (-1), 3) := by decide +kernel
theorem dX4_weeksLoaded_149 : decode cX4_weeksLoaded 149 = .ok (.goto (-31), 3) := by decide +kernel
theorem dX4_weeksLoaded_152 : decode cX4_weeksLoaded 152 = .ok (.iinc 6 1, 3) := by decide +kernel
theorem dX4_weeksLoaded_155 : decode cX4_weeksLoaded 155 = .ok (.goto (-106), 3) := by decide +kernel
theorem dX4_weeksLoaded_158 : decode cX4_weeksLoaded 158 = .ok (.aload_n 0, 1) := by decide +kernel
theorem dX4_weeksLoaded_159 : decode cX4_weeksLoaded 159 = .ok (.getfield 46, 3) := by decide +kernel
theorem dX4_weeksLoaded_162 : decode cX4_weeksLoaded 162 = .ok (.iload_n 3, 1) := by decide +kernel
theorem dX4_weeksLoaded_163 : decode cX4_weeksLoaded 163 = .ok (.iaload, 1) := by decide +kernel
theorem dX4_weeksLoaded_164 : decode cX4_weeksLoaded 164 = .ok (.ireturn, 1) := by decide +kernel
theorem dX4_hasPlace_0 : decode cX4_hasPlace 0 = .ok (.iload 4, 2) := by decide +kernel
theorem dX4_hasPlace_2 : decode cX4_hasPlace 2 = .ok (.aload_n 0, 1) := by decide +kernel
theorem dX4_hasPlace_3 : decode cX4_hasPlace 3 = .ok (.getfield 15, 3) := by decide +kernel
theorem dX4_hasPlace_6 : decode cX4_hasPlace 6 = .ok (.invokestatic 92, 3) := by decide +kernel
theorem dX4_hasPlace_9 : decode cX4_hasPlace 9 = .ok (.iand, 1) := by decide +kernel
theorem dX4_hasPlace_10 : decode cX4_hasPlace 10 = .ok (.istore 6, 2) := by decide +kernel
theorem dX4_hasPlace_12 : decode cX4_hasPlace 12 = .ok (.iload 6, 2) := by decide +kernel
theorem dX4_hasPlace_14 : decode cX4_hasPlace 14 = .ok (.aload_n 0, 1) := by decide +kernel
theorem dX4_hasPlace_15 : decode cX4_hasPlace 15 = .ok (.iload_n 1, 1) := by decide +kernel
theorem dX4_hasPlace_16 : decode cX4_hasPlace 16 = .ok (.iload_n 2, 1) := by decide +kernel
theorem dX4_hasPlace_17 : decode cX4_hasPlace 17 = .ok (.aload_n 0, 1) := by decide +kernel
theorem dX4_hasPlace_18 : decode cX4_hasPlace 18 = .ok (.getfield 27, 3) := by decide +kernel
theorem dX4_hasPlace_21 : decode cX4_hasPlace 21 = .ok (.iload_n 2, 1) := by decide +kernel
theorem dX4_hasPlace_22 : decode cX4_hasPlace 22 = .ok (.iaload, 1) := by decide +kernel
theorem dX4_hasPlace_23 : decode cX4_hasPlace 23 = .ok (.iconst 0, 1) := by decide +kernel
theorem dX4_hasPlace_24 : decode cX4_hasPlace 24 = .ok (.iload 5, 2) := by decide +kernel
theorem dX4_hasPlace_26 : decode cX4_hasPlace 26 = .ok (.invokevirtual 96, 3) := by decide +kernel
theorem dX4_hasPlace_29 : decode cX4_hasPlace 29 = .ok (.iand, 1) := by decide +kernel
theorem dX4_hasPlace_30 : decode cX4_hasPlace 30 = .ok (.ifCond .eq 5, 3) := by decide +kernel
theorem dX4_hasPlace_33 : decode cX4_hasPlace 33 = .ok (.iconst 0, 1) := by decide +kernel
theorem dX4_hasPlace_34 : decode cX4_hasPlace 34 = .ok (.ireturn, 1) := by decide +kernel
theorem dX4_hasPlace_35 : decode cX4_hasPlace 35 = .ok (.iload_n 3, 1) := by decide +kernel
theorem dX4_hasPlace_36 : decode cX4_hasPlace 36 = .ok (.iconst 1, 1) := by decide +kernel
theorem dX4_hasPlace_37 : decode cX4_hasPlace 37 = .ok (.if_icmp .eq 24, 3) := by decide +kernel
theorem dX4_hasPlace_40 : decode cX4_hasPlace 40 = .ok (.iload 6, 2) := by decide +kernel
theorem dX4_hasPlace_42 : decode cX4_hasPlace 42 = .ok (.aload_n 0, 1) := by decide +kernel
theorem dX4_hasPlace_43 : decode cX4_hasPlace 43 = .ok (.iload_n 1, 1) := by decide +kernel
theorem dX4_hasPlace_44 : decode cX4_hasPlace 44 = .ok (.iload_n 2, 1) := by decide +kernel
theorem dX4_hasPlace_45 : decode cX4_hasPlace 45 = .ok (.aload_n 0, 1) := by decide +kernel
theorem dX4_hasPlace_46 : decode cX4_hasPlace 46 = .ok (.getfield 31, 3) := by decide +kernel
theorem dX4_hasPlace_49 : decode cX4_hasPlace 49 = .ok (.iload_n 2, 1) := by decide +kernel
theorem dX4_hasPlace_50 : decode cX4_hasPlace 50 = .ok (.iaload, 1) := by decide +kernel
theorem dX4_hasPlace_51 : decode cX4_hasPlace 51 = .ok (.iconst 1, 1) := by decide +kernel
theorem dX4_hasPlace_52 : decode cX4_hasPlace 52 = .ok (.iload 5, 2) := by decide +kernel
theorem dX4_hasPlace_54 : decode cX4_hasPlace 54 = .ok (.invokevirtual 96, 3) := by decide +kernel
theorem dX4_hasPlace_57 : decode cX4_hasPlace 57 = .ok (.iand, 1) := by decide +kernel
theorem dX4_hasPlace_58 : decode cX4_hasPlace 58 = .ok (.ifCond .ne 7, 3) := by decide +kernel
theorem dX4_hasPlace_61 : decode cX4_hasPlace 61 = .ok (.iconst 1, 1) := by decide +kernel
theorem dX4_hasPlace_62 : decode cX4_hasPlace 62 = .ok (.goto 4, 3) := by decide +kernel
theorem dX4_hasPlace_65 : decode cX4_hasPlace 65 = .ok (.iconst 0, 1) := by decide +kernel
theorem dX4_hasPlace_66 : decode cX4_hasPlace 66 = .ok (.ireturn, 1) := by decide +kernel
theorem dX4_hasPlaceFor_0 : decode cX4_hasPlaceFor 0 = .ok (.aload_n 0, 1) := by decide +kernel
theorem dX4_hasPlaceFor_1 : decode cX4_hasPlaceFor 1 = .ok (.aload_n 1, 1) := by decide +kernel
theorem dX4_hasPlaceFor_2 : decode cX4_hasPlaceFor 2 = .ok (.getfield 100, 3) := by decide +kernel
theorem dX4_hasPlaceFor_5 : decode cX4_hasPlaceFor 5 = .ok (.iload_n 2, 1) := by decide +kernel
theorem dX4_hasPlaceFor_6 : decode cX4_hasPlaceFor 6 = .ok (.aload_n 1, 1) := by decide +kernel
theorem dX4_hasPlaceFor_7 : decode cX4_hasPlaceFor 7 = .ok (.getfield 101, 3) := by decide +kernel
theorem dX4_hasPlaceFor_10 : decode cX4_hasPlaceFor 10 = .ok (.aload_n 1, 1) := by decide +kernel
theorem dX4_hasPlaceFor_11 : decode cX4_hasPlaceFor 11 = .ok (.invokevirtual 102, 3) := by decide +kernel
theorem dX4_hasPlaceFor_14 : decode cX4_hasPlaceFor 14 = .ok (.iload_n 3, 1) := by decide +kernel
theorem dX4_hasPlaceFor_15 : decode cX4_hasPlaceFor 15 = .ok (.invokevirtual 105, 3) := by decide +kernel
theorem dX4_hasPlaceFor_18 : decode cX4_hasPlaceFor 18 = .ok (.ireturn, 1) := by decide +kernel
theorem dX4_hourFor_0 : decode cX4_hourFor 0 = .ok (.aload_n 0, 1) := by decide +kernel
theorem dX4_hourFor_1 : decode cX4_hourFor 1 = .ok (.getfield 21, 3) := by decide +kernel
theorem dX4_hourFor_4 : decode cX4_hourFor 4 = .ok (.bipush 24, 2) := by decide +kernel
theorem dX4_hourFor_6 : decode cX4_hourFor 6 = .ok (.if_icmp .ge 14, 3) := by decide +kernel
theorem dX4_hourFor_9 : decode cX4_hourFor 9 = .ok (.aload_n 1, 1) := by decide +kernel
theorem dX4_hourFor_10 : decode cX4_hourFor 10 = .ok (.getfield 109, 3) := by decide +kernel
theorem dX4_hourFor_13 : decode cX4_hourFor 13 = .ok (.aload_n 0, 1) := by decide +kernel
theorem dX4_hourFor_14 : decode cX4_hourFor 14 = .ok (.getfield 15, 3) := by decide +kernel
theorem dX4_hourFor_17 : decode cX4_hourFor 17 = .ok (.if_icmp .ge 5, 3) := by decide +kernel
theorem dX4_hourFor_20 : decode cX4_hourFor 20 = .ok (.iconst (-1), 1) := by decide +kernel
theorem dX4_hourFor_21 : decode cX4_hourFor 21 = .ok (.ireturn, 1) := by decide +kernel
theorem dX4_hourFor_22 : decode cX4_hourFor 22 = .ok (.aload_n 1, 1) := by decide +kernel
theorem dX4_hourFor_23 : decode cX4_hourFor 23 = .ok (.invokevirtual 102, 3) := by decide +kernel
theorem dX4_hourFor_26 : decode cX4_hourFor 26 = .ok (.istore_n 2, 1) := by decide +kernel
theorem dX4_hourFor_27 : decode cX4_hourFor 27 = .ok (.aload_n 0, 1) := by decide +kernel
theorem dX4_hourFor_28 : decode cX4_hourFor 28 = .ok (.aload_n 1, 1) := by decide +kernel
theorem dX4_hourFor_29 : decode cX4_hourFor 29 = .ok (.getfield 100, 3) := by decide +kernel
theorem dX4_hourFor_32 : decode cX4_hourFor 32 = .ok (.aload_n 1, 1) := by decide +kernel
theorem dX4_hourFor_33 : decode cX4_hourFor 33 = .ok (.getfield 112, 3) := by decide +kernel
theorem dX4_hourFor_36 : decode cX4_hourFor 36 = .ok (.aload_n 1, 1) := by decide +kernel
theorem dX4_hourFor_37 : decode cX4_hourFor 37 = .ok (.getfield 101, 3) := by decide +kernel
theorem dX4_hourFor_40 : decode cX4_hourFor 40 = .ok (.iload_n 2, 1) := by decide +kernel
theorem dX4_hourFor_41 : decode cX4_hourFor 41 = .ok (.iconst 0, 1) := by decide +kernel
theorem dX4_hourFor_42 : decode cX4_hourFor 42 = .ok (.invokevirtual 105, 3) := by decide +kernel
theorem dX4_hourFor_45 : decode cX4_hourFor 45 = .ok (.ifCond .eq 8, 3) := by decide +kernel
theorem dX4_hourFor_48 : decode cX4_hourFor 48 = .ok (.aload_n 1, 1) := by decide +kernel
theorem dX4_hourFor_49 : decode cX4_hourFor 49 = .ok (.getfield 112, 3) := by decide +kernel
theorem dX4_hourFor_52 : decode cX4_hourFor 52 = .ok (.ireturn, 1) := by decide +kernel
theorem dX4_hourFor_53 : decode cX4_hourFor 53 = .ok (.iconst 1, 1) := by decide +kernel
theorem dX4_hourFor_54 : decode cX4_hourFor 54 = .ok (.istore_n 3, 1) := by decide +kernel
theorem dX4_hourFor_55 : decode cX4_hourFor 55 = .ok (.iload_n 3, 1) := by decide +kernel
theorem dX4_hourFor_56 : decode cX4_hourFor 56 = .ok (.aload_n 1, 1) := by decide +kernel
theorem dX4_hourFor_57 : decode cX4_hourFor 57 = .ok (.getfield 113, 3) := by decide +kernel
theorem dX4_hourFor_60 : decode cX4_hourFor 60 = .ok (.if_icmp .gt 81, 3) := by decide +kernel
theorem dX4_hourFor_63 : decode cX4_hourFor 63 = .ok (.aload_n 1, 1) := by decide +kernel
theorem dX4_hourFor_64 : decode cX4_hourFor 64 = .ok (.getfield 112, 3) := by decide +kernel
theorem dX4_hourFor_67 : decode cX4_hourFor 67 = .ok (.iload_n 3, 1) := by decide +kernel
theorem dX4_hourFor_68 : decode cX4_hourFor 68 = .ok (.isub, 1) := by decide +kernel
theorem dX4_hourFor_69 : decode cX4_hourFor 69 = .ok (.istore 4, 2) := by decide +kernel
theorem dX4_hourFor_71 : decode cX4_hourFor 71 = .ok (.iload 4, 2) := by decide +kernel
theorem dX4_hourFor_73 : decode cX4_hourFor 73 = .ok (.ifCond .lt 25, 3) := by decide +kernel
theorem dX4_hourFor_76 : decode cX4_hourFor 76 = .ok (.aload_n 0, 1) := by decide +kernel
theorem dX4_hourFor_77 : decode cX4_hourFor 77 = .ok (.aload_n 1, 1) := by decide +kernel
theorem dX4_hourFor_78 : decode cX4_hourFor 78 = .ok (.getfield 100, 3) := by decide +kernel
theorem dX4_hourFor_81 : decode cX4_hourFor 81 = .ok (.iload 4, 2) := by decide +kernel
theorem dX4_hourFor_83 : decode cX4_hourFor 83 = .ok (.aload_n 1, 1) := by decide +kernel
theorem dX4_hourFor_84 : decode cX4_hourFor 84 = .ok (.getfield 101, 3) := by decide +kernel
theorem dX4_hourFor_87 : decode cX4_hourFor 87 = .ok (.iload_n 2, 1) := by decide +kernel
theorem dX4_hourFor_88 : decode cX4_hourFor 88 = .ok (.iconst 0, 1) := by decide +kernel
theorem dX4_hourFor_89 : decode cX4_hourFor 89 = .ok (.invokevirtual 105, 3) := by decide +kernel
theorem dX4_hourFor_92 : decode cX4_hourFor 92 = .ok (.ifCond .eq 6, 3) := by decide +kernel
theorem dX4_hourFor_95 : decode cX4_hourFor 95 = .ok (.iload 4, 2) := by decide +kernel
theorem dX4_hourFor_97 : decode cX4_hourFor 97 = .ok (.ireturn, 1) := by decide +kernel
theorem dX4_hourFor_98 : decode cX4_hourFor 98 = .ok (.aload_n 1, 1) := by decide +kernel
theorem dX4_hourFor_99 : decode cX4_hourFor 99 = .ok (.getfield 112, 3) := by decide +kernel
theorem dX4_hourFor_102 : decode cX4_hourFor 102 = .ok (.iload_n 3, 1) := by decide +kernel
theorem dX4_hourFor_103 : decode cX4_hourFor 103 = .ok (.iadd, 1) := by decide +kernel
theorem dX4_hourFor_104 : decode cX4_hourFor 104 = .ok (.istore 5, 2) := by decide +kernel
theorem dX4_hourFor_106 : decode cX4_hourFor 106 = .ok (.iload 5, 2) := by decide +kernel
theorem dX4_hourFor_108 : decode cX4_hourFor 108 = .ok (.bipush 24, 2) := by decide +kernel
theorem dX4_hourFor_110 : decode cX4_hourFor 110 = .ok (.if_icmp .ge 25, 3) := by decide +kernel
theorem dX4_hourFor_113 : decode cX4_hourFor 113 = .ok (.aload_n 0, 1) := by decide +kernel
theorem dX4_hourFor_114 : decode cX4_hourFor 114 = .ok (.aload_n 1, 1) := by decide +kernel
theorem dX4_hourFor_115 : decode cX4_hourFor 115 = .ok (.getfield 100, 3) := by decide +kernel
theorem dX4_hourFor_118 : decode cX4_hourFor 118 = .ok (.iload 5, 2) := by decide +kernel
theorem dX4_hourFor_120 : decode cX4_hourFor 120 = .ok (.aload_n 1, 1) := by decide +kernel
theorem dX4_hourFor_121 : decode cX4_hourFor 121 = .ok (.getfield 101, 3) := by decide +kernel
theorem dX4_hourFor_124 : decode cX4_hourFor 124 = .ok (.iload_n 2, 1) := by decide +kernel
theorem dX4_hourFor_125 : decode cX4_hourFor 125 = .ok (.iconst 0, 1) := by decide +kernel
theorem dX4_hourFor_126 : decode cX4_hourFor 126 = .ok (.invokevirtual 105, 3) := by decide +kernel
theorem dX4_hourFor_129 : decode cX4_hourFor 129 = .ok (.ifCond .eq 6, 3) := by decide +kernel
theorem dX4_hourFor_132 : decode cX4_hourFor 132 = .ok (.iload 5, 2) := by decide +kernel
theorem dX4_hourFor_134 : decode cX4_hourFor 134 = .ok (.ireturn, 1) := by decide +kernel
theorem dX4_hourFor_135 : decode cX4_hourFor 135 = .ok (.iinc 3 1, 3) := by decide +kernel
theorem dX4_hourFor_138 : decode cX4_hourFor 138 = .ok (.goto (-83), 3) := by decide +kernel
theorem dX4_hourFor_141 : decode cX4_hourFor 141 = .ok (.iconst (-1), 1) := by decide +kernel
theorem dX4_hourFor_142 : decode cX4_hourFor 142 = .ok (.ireturn, 1) := by decide +kernel
theorem dX4_grant_0 : decode cX4_grant 0 = .ok (.aload_n 0, 1) := by decide +kernel
theorem dX4_grant_1 : decode cX4_grant 1 = .ok (.invokevirtual 116, 3) := by decide +kernel
theorem dX4_grant_4 : decode cX4_grant 4 = .ok (.astore_n 3, 1) := by decide +kernel
theorem dX4_grant_5 : decode cX4_grant 5 = .ok (.aload_n 3, 1) := by decide +kernel
theorem dX4_grant_6 : decode cX4_grant 6 = .ok (.aload_n 1, 1) := by decide +kernel
theorem dX4_grant_7 : decode cX4_grant 7 = .ok (.getfield 120, 3) := by decide +kernel
theorem dX4_grant_10 : decode cX4_grant 10 = .ok (.aload_n 1, 1) := by decide +kernel
theorem dX4_grant_11 : decode cX4_grant 11 = .ok (.getfield 100, 3) := by decide +kernel
theorem dX4_grant_14 : decode cX4_grant 14 = .ok (.iload_n 2, 1) := by decide +kernel
theorem dX4_grant_15 : decode cX4_grant 15 = .ok (.aload_n 1, 1) := by decide +kernel
theorem dX4_grant_16 : decode cX4_grant 16 = .ok (.getfield 101, 3) := by decide +kernel
theorem dX4_grant_19 : decode cX4_grant 19 = .ok (.invokevirtual 123, 3) := by decide +kernel
theorem dX4_grant_22 : decode cX4_grant 22 = .ok (.aload_n 3, 1) := by decide +kernel
theorem dX4_grant_23 : decode cX4_grant 23 = .ok (.aload_n 1, 1) := by decide +kernel
theorem dX4_grant_24 : decode cX4_grant 24 = .ok (.getfield 127, 3) := by decide +kernel
theorem dX4_grant_27 : decode cX4_grant 27 = .ok (.aload_n 0, 1) := by decide +kernel
theorem dX4_grant_28 : decode cX4_grant 28 = .ok (.getfield 15, 3) := by decide +kernel
theorem dX4_grant_31 : decode cX4_grant 31 = .ok (.invokestatic 130, 3) := by decide +kernel
theorem dX4_grant_34 : decode cX4_grant 34 = .ok (.aload_n 1, 1) := by decide +kernel
theorem dX4_grant_35 : decode cX4_grant 35 = .ok (.getfield 109, 3) := by decide +kernel
theorem dX4_grant_38 : decode cX4_grant 38 = .ok (.invokevirtual 133, 3) := by decide +kernel
theorem dX4_grant_41 : decode cX4_grant 41 = .ok (.aload_n 3, 1) := by decide +kernel
theorem dX4_grant_42 : decode cX4_grant 42 = .ok (.iconst 1, 1) := by decide +kernel
theorem dX4_grant_43 : decode cX4_grant 43 = .ok (.putfield 137, 3) := by decide +kernel
theorem dX4_grant_46 : decode cX4_grant 46 = .ok (.return_, 1) := by decide +kernel
theorem dX4_holdsMore_0 : decode cX4_holdsMore 0 = .ok (.iconst 0, 1) := by decide +kernel
theorem dX4_holdsMore_1 : decode cX4_holdsMore 1 = .ok (.istore 4, 2) := by decide +kernel
theorem dX4_holdsMore_3 : decode cX4_holdsMore 3 = .ok (.iconst 0, 1) := by decide +kernel
theorem dX4_holdsMore_4 : decode cX4_holdsMore 4 = .ok (.istore 5, 2) := by decide +kernel
theorem dX4_holdsMore_6 : decode cX4_holdsMore 6 = .ok (.iload 5, 2) := by decide +kernel
theorem dX4_holdsMore_8 : decode cX4_holdsMore 8 = .ok (.bipush 7, 2) := by decide +kernel
theorem dX4_holdsMore_10 : decode cX4_holdsMore 10 = .ok (.if_icmp .ge 43, 3) := by decide +kernel
theorem dX4_holdsMore_13 : decode cX4_holdsMore 13 = .ok (.iload 4, 2) := by decide +kernel
theorem dX4_holdsMore_15 : decode cX4_holdsMore 15 = .ok (.aload_n 0, 1) := by decide +kernel
theorem dX4_holdsMore_16 : decode cX4_holdsMore 16 = .ok (.iload 5, 2) := by decide +kernel
theorem dX4_holdsMore_18 : decode cX4_holdsMore 18 = .ok (.iload_n 1, 1) := by decide +kernel
theorem dX4_holdsMore_19 : decode cX4_holdsMore 19 = .ok (.iload_n 2, 1) := by decide +kernel
theorem dX4_holdsMore_20 : decode cX4_holdsMore 20 = .ok (.iconst 1, 1) := by decide +kernel
theorem dX4_holdsMore_21 : decode cX4_holdsMore 21 = .ok (.iadd, 1) := by decide +kernel
theorem dX4_holdsMore_22 : decode cX4_holdsMore 22 = .ok (.iconst 0, 1) := by decide +kernel
theorem dX4_holdsMore_23 : decode cX4_holdsMore 23 = .ok (.iconst 0, 1) := by decide +kernel
theorem dX4_holdsMore_24 : decode cX4_holdsMore 24 = .ok (.invokevirtual 96, 3) := by decide +kernel
theorem dX4_holdsMore_27 : decode cX4_holdsMore 27 = .ok (.ior, 1) := by decide +kernel
theorem dX4_holdsMore_28 : decode cX4_holdsMore 28 = .ok (.istore 4, 2) := by decide +kernel
theorem dX4_holdsMore_30 : decode cX4_holdsMore 30 = .ok (.iload 4, 2) := by decide +kernel
theorem dX4_holdsMore_32 : decode cX4_holdsMore 32 = .ok (.aload_n 0, 1) := by decide +kernel
