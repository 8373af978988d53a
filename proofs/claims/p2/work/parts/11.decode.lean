theorem dX4_holdsMore_33 : decode cX4_holdsMore 33 = .ok (.iload 5, 2) := by decide +kernel
theorem dX4_holdsMore_35 : decode cX4_holdsMore 35 = .ok (.iload_n 1, 1) := by decide +kernel
theorem dX4_holdsMore_36 : decode cX4_holdsMore 36 = .ok (.iload_n 3, 1) := by decide +kernel
theorem dX4_holdsMore_37 : decode cX4_holdsMore 37 = .ok (.iconst 1, 1) := by decide +kernel
theorem dX4_holdsMore_38 : decode cX4_holdsMore 38 = .ok (.iadd, 1) := by decide +kernel
theorem dX4_holdsMore_39 : decode cX4_holdsMore 39 = .ok (.iconst 1, 1) := by decide +kernel
theorem dX4_holdsMore_40 : decode cX4_holdsMore 40 = .ok (.iconst 0, 1) := by decide +kernel
theorem dX4_holdsMore_41 : decode cX4_holdsMore 41 = .ok (.invokevirtual 96, 3) := by decide +kernel
theorem dX4_holdsMore_44 : decode cX4_holdsMore 44 = .ok (.ior, 1) := by decide +kernel
theorem dX4_holdsMore_45 : decode cX4_holdsMore 45 = .ok (.istore 4, 2) := by decide +kernel
theorem dX4_holdsMore_47 : decode cX4_holdsMore 47 = .ok (.iinc 5 1, 3) := by decide +kernel
theorem dX4_holdsMore_50 : decode cX4_holdsMore 50 = .ok (.goto (-44), 3) := by decide +kernel
theorem dX4_holdsMore_53 : decode cX4_holdsMore 53 = .ok (.iload 4, 2) := by decide +kernel
theorem dX4_holdsMore_55 : decode cX4_holdsMore 55 = .ok (.aload_n 0, 1) := by decide +kernel
theorem dX4_holdsMore_56 : decode cX4_holdsMore 56 = .ok (.invokevirtual 141, 3) := by decide +kernel
theorem dX4_holdsMore_59 : decode cX4_holdsMore 59 = .ok (.iand, 1) := by decide +kernel
theorem dX4_holdsMore_60 : decode cX4_holdsMore 60 = .ok (.ifCond .eq 7, 3) := by decide +kernel
theorem dX4_holdsMore_63 : decode cX4_holdsMore 63 = .ok (.iconst 1, 1) := by decide +kernel
theorem dX4_holdsMore_64 : decode cX4_holdsMore 64 = .ok (.goto 4, 3) := by decide +kernel
theorem dX4_holdsMore_67 : decode cX4_holdsMore 67 = .ok (.iconst 0, 1) := by decide +kernel
theorem dX4_holdsMore_68 : decode cX4_holdsMore 68 = .ok (.ireturn, 1) := by decide +kernel
theorem dX4_seriesOf_0 : decode cX4_seriesOf 0 = .ok (.iconst 0, 1) := by decide +kernel
theorem dX4_seriesOf_1 : decode cX4_seriesOf 1 = .ok (.istore_n 3, 1) := by decide +kernel
theorem dX4_seriesOf_2 : decode cX4_seriesOf 2 = .ok (.iconst 0, 1) := by decide +kernel
theorem dX4_seriesOf_3 : decode cX4_seriesOf 3 = .ok (.istore 4, 2) := by decide +kernel
theorem dX4_seriesOf_5 : decode cX4_seriesOf 5 = .ok (.iload 4, 2) := by decide +kernel
theorem dX4_seriesOf_7 : decode cX4_seriesOf 7 = .ok (.aload_n 0, 1) := by decide +kernel
theorem dX4_seriesOf_8 : decode cX4_seriesOf 8 = .ok (.getfield 21, 3) := by decide +kernel
theorem dX4_seriesOf_11 : decode cX4_seriesOf 11 = .ok (.if_icmp .ge 27, 3) := by decide +kernel
theorem dX4_seriesOf_14 : decode cX4_seriesOf 14 = .ok (.aload_n 0, 1) := by decide +kernel
theorem dX4_seriesOf_15 : decode cX4_seriesOf 15 = .ok (.getfield 36, 3) := by decide +kernel
theorem dX4_seriesOf_18 : decode cX4_seriesOf 18 = .ok (.iload 4, 2) := by decide +kernel
theorem dX4_seriesOf_20 : decode cX4_seriesOf 20 = .ok (.aaload, 1) := by decide +kernel
theorem dX4_seriesOf_21 : decode cX4_seriesOf 21 = .ok (.iload_n 1, 1) := by decide +kernel
theorem dX4_seriesOf_22 : decode cX4_seriesOf 22 = .ok (.iload_n 2, 1) := by decide +kernel
theorem dX4_seriesOf_23 : decode cX4_seriesOf 23 = .ok (.invokevirtual 144, 3) := by decide +kernel
theorem dX4_seriesOf_26 : decode cX4_seriesOf 26 = .ok (.ifCond .eq 6, 3) := by decide +kernel
theorem dX4_seriesOf_29 : decode cX4_seriesOf 29 = .ok (.iinc 3 1, 3) := by decide +kernel
theorem dX4_seriesOf_32 : decode cX4_seriesOf 32 = .ok (.iinc 4 1, 3) := by decide +kernel
theorem dX4_seriesOf_35 : decode cX4_seriesOf 35 = .ok (.goto (-30), 3) := by decide +kernel
theorem dX4_seriesOf_38 : decode cX4_seriesOf 38 = .ok (.iload_n 3, 1) := by decide +kernel
theorem dX4_seriesOf_39 : decode cX4_seriesOf 39 = .ok (.ireturn, 1) := by decide +kernel
theorem dX4_basisOf_0 : decode cX4_basisOf 0 = .ok (.iconst 0, 1) := by decide +kernel
theorem dX4_basisOf_1 : decode cX4_basisOf 1 = .ok (.istore_n 3, 1) := by decide +kernel
theorem dX4_basisOf_2 : decode cX4_basisOf 2 = .ok (.iconst 0, 1) := by decide +kernel
theorem dX4_basisOf_3 : decode cX4_basisOf 3 = .ok (.istore 4, 2) := by decide +kernel
theorem dX4_basisOf_5 : decode cX4_basisOf 5 = .ok (.iload 4, 2) := by decide +kernel
theorem dX4_basisOf_7 : decode cX4_basisOf 7 = .ok (.aload_n 0, 1) := by decide +kernel
theorem dX4_basisOf_8 : decode cX4_basisOf 8 = .ok (.getfield 21, 3) := by decide +kernel
theorem dX4_basisOf_11 : decode cX4_basisOf 11 = .ok (.if_icmp .ge 37, 3) := by decide +kernel
theorem dX4_basisOf_14 : decode cX4_basisOf 14 = .ok (.aload_n 0, 1) := by decide +kernel
theorem dX4_basisOf_15 : decode cX4_basisOf 15 = .ok (.getfield 36, 3) := by decide +kernel
theorem dX4_basisOf_18 : decode cX4_basisOf 18 = .ok (.iload 4, 2) := by decide +kernel
theorem dX4_basisOf_20 : decode cX4_basisOf 20 = .ok (.aaload, 1) := by decide +kernel
theorem dX4_basisOf_21 : decode cX4_basisOf 21 = .ok (.iload_n 1, 1) := by decide +kernel
theorem dX4_basisOf_22 : decode cX4_basisOf 22 = .ok (.iload_n 2, 1) := by decide +kernel
theorem dX4_basisOf_23 : decode cX4_basisOf 23 = .ok (.invokevirtual 144, 3) := by decide +kernel
theorem dX4_basisOf_26 : decode cX4_basisOf 26 = .ok (.ifCond .eq 16, 3) := by decide +kernel
theorem dX4_basisOf_29 : decode cX4_basisOf 29 = .ok (.iload_n 3, 1) := by decide +kernel
theorem dX4_basisOf_30 : decode cX4_basisOf 30 = .ok (.aload_n 0, 1) := by decide +kernel
theorem dX4_basisOf_31 : decode cX4_basisOf 31 = .ok (.getfield 36, 3) := by decide +kernel
theorem dX4_basisOf_34 : decode cX4_basisOf 34 = .ok (.iload 4, 2) := by decide +kernel
theorem dX4_basisOf_36 : decode cX4_basisOf 36 = .ok (.aaload, 1) := by decide +kernel
theorem dX4_basisOf_37 : decode cX4_basisOf 37 = .ok (.invokevirtual 147, 3) := by decide +kernel
theorem dX4_basisOf_40 : decode cX4_basisOf 40 = .ok (.iadd, 1) := by decide +kernel
theorem dX4_basisOf_41 : decode cX4_basisOf 41 = .ok (.istore_n 3, 1) := by decide +kernel
theorem dX4_basisOf_42 : decode cX4_basisOf 42 = .ok (.iinc 4 1, 3) := by decide +kernel
theorem dX4_basisOf_45 : decode cX4_basisOf 45 = .ok (.goto (-40), 3) := by decide +kernel
theorem dX4_basisOf_48 : decode cX4_basisOf 48 = .ok (.iload_n 3, 1) := by decide +kernel
theorem dX4_basisOf_49 : decode cX4_basisOf 49 = .ok (.ireturn, 1) := by decide +kernel
theorem dX4_goodOf_0 : decode cX4_goodOf 0 = .ok (.iconst 0, 1) := by decide +kernel
theorem dX4_goodOf_1 : decode cX4_goodOf 1 = .ok (.istore_n 2, 1) := by decide +kernel
theorem dX4_goodOf_2 : decode cX4_goodOf 2 = .ok (.iconst 0, 1) := by decide +kernel
theorem dX4_goodOf_3 : decode cX4_goodOf 3 = .ok (.istore_n 3, 1) := by decide +kernel
theorem dX4_goodOf_4 : decode cX4_goodOf 4 = .ok (.iload_n 3, 1) := by decide +kernel
theorem dX4_goodOf_5 : decode cX4_goodOf 5 = .ok (.aload_n 0, 1) := by decide +kernel
theorem dX4_goodOf_6 : decode cX4_goodOf 6 = .ok (.getfield 21, 3) := by decide +kernel
theorem dX4_goodOf_9 : decode cX4_goodOf 9 = .ok (.if_icmp .ge 34, 3) := by decide +kernel
theorem dX4_goodOf_12 : decode cX4_goodOf 12 = .ok (.aload_n 0, 1) := by decide +kernel
theorem dX4_goodOf_13 : decode cX4_goodOf 13 = .ok (.getfield 36, 3) := by decide +kernel
theorem dX4_goodOf_16 : decode cX4_goodOf 16 = .ok (.iload_n 3, 1) := by decide +kernel
theorem dX4_goodOf_17 : decode cX4_goodOf 17 = .ok (.aaload, 1) := by decide +kernel
theorem dX4_goodOf_18 : decode cX4_goodOf 18 = .ok (.getfield 150, 3) := by decide +kernel
theorem dX4_goodOf_21 : decode cX4_goodOf 21 = .ok (.iload_n 1, 1) := by decide +kernel
theorem dX4_goodOf_22 : decode cX4_goodOf 22 = .ok (.if_icmp .ne 15, 3) := by decide +kernel
theorem dX4_goodOf_25 : decode cX4_goodOf 25 = .ok (.iload_n 2, 1) := by decide +kernel
theorem dX4_goodOf_26 : decode cX4_goodOf 26 = .ok (.aload_n 0, 1) := by decide +kernel
theorem dX4_goodOf_27 : decode cX4_goodOf 27 = .ok (.getfield 36, 3) := by decide +kernel
theorem dX4_goodOf_30 : decode cX4_goodOf 30 = .ok (.iload_n 3, 1) := by decide +kernel
theorem dX4_goodOf_31 : decode cX4_goodOf 31 = .ok (.aaload, 1) := by decide +kernel
theorem dX4_goodOf_32 : decode cX4_goodOf 32 = .ok (.invokevirtual 151, 3) := by decide +kernel
theorem dX4_goodOf_35 : decode cX4_goodOf 35 = .ok (.iadd, 1) := by decide +kernel
theorem dX4_goodOf_36 : decode cX4_goodOf 36 = .ok (.istore_n 2, 1) := by decide +kernel
theorem dX4_goodOf_37 : decode cX4_goodOf 37 = .ok (.iinc 3 1, 3) := by decide +kernel
theorem dX4_goodOf_40 : decode cX4_goodOf 40 = .ok (.goto (-36), 3) := by decide +kernel
theorem dX4_goodOf_43 : decode cX4_goodOf 43 = .ok (.iload_n 2, 1) := by decide +kernel
theorem dX4_goodOf_44 : decode cX4_goodOf 44 = .ok (.ireturn, 1) := by decide +kernel
theorem dX4_startAnew_0 : decode cX4_startAnew 0 = .ok (.iconst 0, 1) := by decide +kernel
theorem dX4_startAnew_1 : decode cX4_startAnew 1 = .ok (.istore_n 1, 1) := by decide +kernel
theorem dX4_startAnew_2 : decode cX4_startAnew 2 = .ok (.iconst 0, 1) := by decide +kernel
theorem dX4_startAnew_3 : decode cX4_startAnew 3 = .ok (.istore_n 2, 1) := by decide +kernel
theorem dX4_startAnew_4 : decode cX4_startAnew 4 = .ok (.iload_n 2, 1) := by decide +kernel
theorem dX4_startAnew_5 : decode cX4_startAnew 5 = .ok (.aload_n 0, 1) := by decide +kernel
theorem dX4_startAnew_6 : decode cX4_startAnew 6 = .ok (.getfield 21, 3) := by decide +kernel
theorem dX4_startAnew_9 : decode cX4_startAnew 9 = .ok (.if_icmp .ge 58, 3) := by decide +kernel
theorem dX4_startAnew_12 : decode cX4_startAnew 12 = .ok (.aload_n 0, 1) := by decide +kernel
theorem dX4_startAnew_13 : decode cX4_startAnew 13 = .ok (.getfield 36, 3) := by decide +kernel
theorem dX4_startAnew_16 : decode cX4_startAnew 16 = .ok (.iload_n 2, 1) := by decide +kernel
theorem dX4_startAnew_17 : decode cX4_startAnew 17 = .ok (.aaload, 1) := by decide +kernel
theorem dX4_startAnew_18 : decode cX4_startAnew 18 = .ok (.astore_n 3, 1) := by decide +kernel
theorem dX4_startAnew_19 : decode cX4_startAnew 19 = .ok (.aload_n 3, 1) := by decide +kernel
theorem dX4_startAnew_20 : decode cX4_startAnew 20 = .ok (.invokevirtual 154, 3) := by decide +kernel
theorem dX4_startAnew_23 : decode cX4_startAnew 23 = .ok (.ifCond .eq 38, 3) := by decide +kernel
theorem dX4_startAnew_26 : decode cX4_startAnew 26 = .ok (.aload_n 3, 1) := by decide +kernel
theorem dX4_startAnew_27 : decode cX4_startAnew 27 = .ok (.aload_n 3, 1) := by decide +kernel
theorem dX4_startAnew_28 : decode cX4_startAnew 28 = .ok (.invokevirtual 88, 3) := by decide +kernel
theorem dX4_startAnew_31 : decode cX4_startAnew 31 = .ok (.invokevirtual 157, 3) := by decide +kernel
theorem dX4_startAnew_34 : decode cX4_startAnew 34 = .ok (.aload_n 3, 1) := by decide +kernel
theorem dX4_startAnew_35 : decode cX4_startAnew 35 = .ok (.iconst 0, 1) := by decide +kernel
theorem dX4_startAnew_36 : decode cX4_startAnew 36 = .ok (.putfield 137, 3) := by decide +kernel
theorem dX4_startAnew_39 : decode cX4_startAnew 39 = .ok (.aload_n 0, 1) := by decide +kernel
theorem dX4_startAnew_40 : decode cX4_startAnew 40 = .ok (.getfield 36, 3) := by decide +kernel
theorem dX4_startAnew_43 : decode cX4_startAnew 43 = .ok (.iload_n 2, 1) := by decide +kernel
theorem dX4_startAnew_44 : decode cX4_startAnew 44 = .ok (.aload_n 0, 1) := by decide +kernel
theorem dX4_startAnew_45 : decode cX4_startAnew 45 = .ok (.getfield 36, 3) := by decide +kernel
theorem dX4_startAnew_48 : decode cX4_startAnew 48 = .ok (.iload_n 1, 1) := by decide +kernel
theorem dX4_startAnew_49 : decode cX4_startAnew 49 = .ok (.aaload, 1) := by decide +kernel
theorem dX4_startAnew_50 : decode cX4_startAnew 50 = .ok (.aastore, 1) := by decide +kernel
theorem dX4_startAnew_51 : decode cX4_startAnew 51 = .ok (.aload_n 0, 1) := by decide +kernel
theorem dX4_startAnew_52 : decode cX4_startAnew 52 = .ok (.getfield 36, 3) := by decide +kernel
theorem dX4_startAnew_55 : decode cX4_startAnew 55 = .ok (.iload_n 1, 1) := by decide +kernel
theorem dX4_startAnew_56 : decode cX4_startAnew 56 = .ok (.aload_n 3, 1) := by decide +kernel
theorem dX4_startAnew_57 : decode cX4_startAnew 57 = .ok (.aastore, 1) := by decide +kernel
theorem dX4_startAnew_58 : decode cX4_startAnew 58 = .ok (.iinc 1 1, 3) := by decide +kernel
theorem dX4_startAnew_61 : decode cX4_startAnew 61 = .ok (.iinc 2 1, 3) := by decide +kernel
theorem dX4_startAnew_64 : decode cX4_startAnew 64 = .ok (.goto (-60), 3) := by decide +kernel
theorem dX4_startAnew_67 : decode cX4_startAnew 67 = .ok (.aload_n 0, 1) := by decide +kernel
theorem dX4_startAnew_68 : decode cX4_startAnew 68 = .ok (.iload_n 1, 1) := by decide +kernel
theorem dX4_startAnew_69 : decode cX4_startAnew 69 = .ok (.putfield 21, 3) := by decide +kernel
theorem dX4_startAnew_72 : decode cX4_startAnew 72 = .ok (.aload_n 0, 1) := by decide +kernel
theorem dX4_startAnew_73 : decode cX4_startAnew 73 = .ok (.iconst 0, 1) := by decide +kernel
theorem dX4_startAnew_74 : decode cX4_startAnew 74 = .ok (.putfield 24, 3) := by decide +kernel
theorem dX4_startAnew_77 : decode cX4_startAnew 77 = .ok (.aload_n 0, 1) := by decide +kernel
theorem dX4_startAnew_78 : decode cX4_startAnew 78 = .ok (.iconst 0, 1) := by decide +kernel
theorem dX4_startAnew_79 : decode cX4_startAnew 79 = .ok (.putfield 15, 3) := by decide +kernel
theorem dX4_startAnew_82 : decode cX4_startAnew 82 = .ok (.aload_n 0, 1) := by decide +kernel
theorem dX4_startAnew_83 : decode cX4_startAnew 83 = .ok (.dup, 1) := by decide +kernel
theorem dX4_startAnew_84 : decode cX4_startAnew 84 = .ok (.getfield 18, 3) := by decide +kernel
theorem dX4_startAnew_87 : decode cX4_startAnew 87 = .ok (.iconst 1, 1) := by decide +kernel
theorem dX4_startAnew_88 : decode cX4_startAnew 88 = .ok (.iadd, 1) := by decide +kernel
theorem dX4_startAnew_89 : decode cX4_startAnew 89 = .ok (.putfield 18, 3) := by decide +kernel
theorem dX4_startAnew_92 : decode cX4_startAnew 92 = .ok (.return_, 1) := by decide +kernel
theorem dX5_init_0 : decode cX5_init 0 = .ok (.aload_n 0, 1) := by decide +kernel
theorem dX5_init_1 : decode cX5_init 1 = .ok (.invokespecial 3, 3) := by decide +kernel
theorem dX5_init_4 : decode cX5_init 4 = .ok (.aload_n 0, 1) := by decide +kernel
theorem dX5_init_5 : decode cX5_init 5 = .ok (.iconst 0, 1) := by decide +kernel
theorem dX5_init_6 : decode cX5_init 6 = .ok (.putfield 9, 3) := by decide +kernel
theorem dX5_init_9 : decode cX5_init 9 = .ok (.aload_n 0, 1) := by decide +kernel
theorem dX5_init_10 : decode cX5_init 10 = .ok (.iconst 0, 1) := by decide +kernel
theorem dX5_init_11 : decode cX5_init 11 = .ok (.putfield 15, 3) := by decide +kernel
theorem dX5_init_14 : decode cX5_init 14 = .ok (.aload_n 0, 1) := by decide +kernel
theorem dX5_init_15 : decode cX5_init 15 = .ok (.iconst 0, 1) := by decide +kernel
theorem dX5_init_16 : decode cX5_init 16 = .ok (.putfield 18, 3) := by decide +kernel
theorem dX5_init_19 : decode cX5_init 19 = .ok (.aload_n 0, 1) := by decide +kernel
theorem dX5_init_20 : decode cX5_init 20 = .ok (.iconst 0, 1) := by decide +kernel
theorem dX5_init_21 : decode cX5_init 21 = .ok (.putfield 21, 3) := by decide +kernel
theorem dX5_init_24 : decode cX5_init 24 = .ok (.aload_n 0, 1) := by decide +kernel
theorem dX5_init_25 : decode cX5_init 25 = .ok (.iconst 0, 1) := by decide +kernel
theorem dX5_init_26 : decode cX5_init 26 = .ok (.putfield 24, 3) := by decide +kernel
theorem dX5_init_29 : decode cX5_init 29 = .ok (.aload_n 0, 1) := by decide +kernel
theorem dX5_init_30 : decode cX5_init 30 = .ok (.iconst 0, 1) := by decide +kernel
theorem dX5_init_31 : decode cX5_init 31 = .ok (.putfield 28, 3) := by decide +kernel
theorem dX5_init_34 : decode cX5_init 34 = .ok (.aload_n 0, 1) := by decide +kernel
theorem dX5_init_35 : decode cX5_init 35 = .ok (.iconst 0, 1) := by decide +kernel
theorem dX5_init_36 : decode cX5_init 36 = .ok (.putfield 31, 3) := by decide +kernel
theorem dX5_init_39 : decode cX5_init 39 = .ok (.aload_n 0, 1) := by decide +kernel
theorem dX5_init_40 : decode cX5_init 40 = .ok (.iconst 0, 1) := by decide +kernel
theorem dX5_init_41 : decode cX5_init 41 = .ok (.putfield 34, 3) := by decide +kernel
theorem dX5_init_44 : decode cX5_init 44 = .ok (.aload_n 0, 1) := by decide +kernel
theorem dX5_init_45 : decode cX5_init 45 = .ok (.iconst 0, 1) := by decide +kernel
theorem dX5_init_46 : decode cX5_init 46 = .ok (.putfield 37, 3) := by decide +kernel
theorem dX5_init_49 : decode cX5_init 49 = .ok (.aload_n 0, 1) := by decide +kernel
theorem dX5_init_50 : decode cX5_init 50 = .ok (.iconst 0, 1) := by decide +kernel
theorem dX5_init_51 : decode cX5_init 51 = .ok (.putfield 40, 3) := by decide +kernel
theorem dX5_init_54 : decode cX5_init 54 = .ok (.aload_n 0, 1) := by decide +kernel
theorem dX5_init_55 : decode cX5_init 55 = .ok (.iconst 0, 1) := by decide +kernel
theorem dX5_init_56 : decode cX5_init 56 = .ok (.putfield 43, 3) := by decide +kernel
theorem dX5_init_59 : decode cX5_init 59 = .ok (.aload_n 0, 1) := by decide +kernel
theorem dX5_init_60 : decode cX5_init 60 = .ok (.iconst 0, 1) := by decide +kernel
theorem dX5_init_61 : decode cX5_init 61 = .ok (.putfield 46, 3) := by decide +kernel
theorem dX5_init_64 : decode cX5_init 64 = .ok (.return_, 1) := by decide +kernel
theorem dX5_copyFrom_0 : decode cX5_copyFrom 0 = .ok (.aload_n 0, 1) := by decide +kernel
theorem dX5_copyFrom_1 : decode cX5_copyFrom 1 = .ok (.aload_n 1, 1) := by decide +kernel
theorem dX5_copyFrom_2 : decode cX5_copyFrom 2 = .ok (.getfield 9, 3) := by decide +kernel
theorem dX5_copyFrom_5 : decode cX5_copyFrom 5 = .ok (.putfield 9, 3) := by decide +kernel
theorem dX5_copyFrom_8 : decode cX5_copyFrom 8 = .ok (.aload_n 0, 1) := by decide +kernel
theorem dX5_copyFrom_9 : decode cX5_copyFrom 9 = .ok (.aload_n 1, 1) := by decide +kernel
theorem dX5_copyFrom_10 : decode cX5_copyFrom 10 = .ok (.getfield 15, 3) := by decide +kernel
theorem dX5_copyFrom_13 : decode cX5_copyFrom 13 = .ok (.putfield 15, 3) := by decide +kernel
theorem dX5_copyFrom_16 : decode cX5_copyFrom 16 = .ok (.aload_n 0, 1) := by decide +kernel
theorem dX5_copyFrom_17 : decode cX5_copyFrom 17 = .ok (.aload_n 1, 1) := by decide +kernel
theorem dX5_copyFrom_18 : decode cX5_copyFrom 18 = .ok (.getfield 18, 3) := by decide +kernel
theorem dX5_copyFrom_21 : decode cX5_copyFrom 21 = .ok (.putfield 18, 3) := by decide +kernel
theorem dX5_copyFrom_24 : decode cX5_copyFrom 24 = .ok (.aload_n 0, 1) := by decide +kernel
theorem dX5_copyFrom_25 : decode cX5_copyFrom 25 = .ok (.aload_n 1, 1) := by decide +kernel
theorem dX5_copyFrom_26 : decode cX5_copyFrom 26 = .ok (.getfield 21, 3) := by decide +kernel
theorem dX5_copyFrom_29 : decode cX5_copyFrom 29 = .ok (.putfield 21, 3) := by decide +kernel
theorem dX5_copyFrom_32 : decode cX5_copyFrom 32 = .ok (.aload_n 0, 1) := by decide +kernel
theorem dX5_copyFrom_33 : decode cX5_copyFrom 33 = .ok (.aload_n 1, 1) := by decide +kernel
theorem dX5_copyFrom_34 : decode cX5_copyFrom 34 = .ok (.getfield 24, 3) := by decide +kernel
theorem dX5_copyFrom_37 : decode cX5_copyFrom 37 = .ok (.putfield 24, 3) := by decide +kernel
theorem dX5_copyFrom_40 : decode cX5_copyFrom 40 = .ok (.aload_n 0, 1) := by decide +kernel
theorem dX5_copyFrom_41 : decode cX5_copyFrom 41 = .ok (.aload_n 1, 1) := by decide +kernel
theorem dX5_copyFrom_42 : decode cX5_copyFrom 42 = .ok (.getfield 28, 3) := by decide +kernel
theorem dX5_copyFrom_45 : decode cX5_copyFrom 45 = .ok (.putfield 28, 3) := by decide +kernel
theorem dX5_copyFrom_48 : decode cX5_copyFrom 48 = .ok (.aload_n 0, 1) := by decide +kernel
theorem dX5_copyFrom_49 : decode cX5_copyFrom 49 = .ok (.aload_n 1, 1) := by decide +kernel
theorem dX5_copyFrom_50 : decode cX5_copyFrom 50 = .ok (.getfield 31, 3) := by decide +kernel
theorem dX5_copyFrom_53 : decode cX5_copyFrom 53 = .ok (.putfield 31, 3) := by decide +kernel
theorem dX5_copyFrom_56 : decode cX5_copyFrom 56 = .ok (.aload_n 0, 1) := by decide +kernel
theorem dX5_copyFrom_57 : decode cX5_copyFrom 57 = .ok (.aload_n 1, 1) := by decide +kernel
theorem dX5_copyFrom_58 : decode cX5_copyFrom 58 = .ok (.getfield 34, 3) := by decide +kernel
theorem dX5_copyFrom_61 : decode cX5_copyFrom 61 = .ok (.putfield 34, 3) := by decide +kernel
theorem dX5_copyFrom_64 : decode cX5_copyFrom 64 = .ok (.aload_n 0, 1) := by decide +kernel
theorem dX5_copyFrom_65 : decode cX5_copyFrom 65 = .ok (.aload_n 1, 1) := by decide +kernel
theorem dX5_copyFrom_66 : decode cX5_copyFrom 66 = .ok (.getfield 37, 3) := by decide +kernel
theorem dX5_copyFrom_69 : decode cX5_copyFrom 69 = .ok (.putfield 37, 3) := by decide +kernel
theorem dX5_copyFrom_72 : decode cX5_copyFrom 72 = .ok (.aload_n 0, 1) := by decide +kernel
theorem dX5_copyFrom_73 : decode cX5_copyFrom 73 = .ok (.aload_n 1, 1) := by decide +kernel
theorem dX5_copyFrom_74 : decode cX5_copyFrom 74 = .ok (.getfield 40, 3) := by decide +kernel
theorem dX5_copyFrom_77 : decode cX5_copyFrom 77 = .ok (.putfield 40, 3) := by decide +kernel
theorem dX5_copyFrom_80 : decode cX5_copyFrom 80 = .ok (.aload_n 0, 1) := by decide +kernel
theorem dX5_copyFrom_81 : decode cX5_copyFrom 81 = .ok (.aload_n 1, 1) := by decide +kernel
theorem dX5_copyFrom_82 : decode cX5_copyFrom 82 = .ok (.getfield 43, 3) := by decide +kernel
theorem dX5_copyFrom_85 : decode cX5_copyFrom 85 = .ok (.putfield 43, 3) := by decide +kernel
theorem dX5_copyFrom_88 : decode cX5_copyFrom 88 = .ok (.aload_n 0, 1) := by decide +kernel
theorem dX5_copyFrom_89 : decode cX5_copyFrom 89 = .ok (.aload_n 1, 1) := by decide +kernel
theorem dX5_copyFrom_90 : decode cX5_copyFrom 90 = .ok (.getfield 46, 3) := by decide +kernel
theorem dX5_copyFrom_93 : decode cX5_copyFrom 93 = .ok (.putfield 46, 3) := by decide +kernel
theorem dX5_copyFrom_96 : decode cX5_copyFrom 96 = .ok (.return_, 1) := by decide +kernel
theorem dX5_placeAt_0 : decode cX5_placeAt 0 = .ok (.aload_n 0, 1) := by decide +kernel
theorem dX5_placeAt_1 : decode cX5_placeAt 1 = .ok (.iload_n 1, 1) := by decide +kernel
theorem dX5_placeAt_2 : decode cX5_placeAt 2 = .ok (.putfield 9, 3) := by decide +kernel
theorem dX5_placeAt_5 : decode cX5_placeAt 5 = .ok (.aload_n 0, 1) := by decide +kernel
theorem dX5_placeAt_6 : decode cX5_placeAt 6 = .ok (.iload_n 2, 1) := by decide +kernel
theorem dX5_placeAt_7 : decode cX5_placeAt 7 = .ok (.putfield 15, 3) := by decide +kernel
theorem dX5_placeAt_10 : decode cX5_placeAt 10 = .ok (.aload_n 0, 1) := by decide +kernel
theorem dX5_placeAt_11 : decode cX5_placeAt 11 = .ok (.iload_n 3, 1) := by decide +kernel
theorem dX5_placeAt_12 : decode cX5_placeAt 12 = .ok (.putfield 18, 3) := by decide +kernel
theorem dX5_placeAt_15 : decode cX5_placeAt 15 = .ok (.aload_n 0, 1) := by decide +kernel
theorem dX5_placeAt_16 : decode cX5_placeAt 16 = .ok (.iload 4, 2) := by decide +kernel
theorem dX5_placeAt_18 : decode cX5_placeAt 18 = .ok (.putfield 21, 3) := by decide +kernel
theorem dX5_placeAt_21 : decode cX5_placeAt 21 = .ok (.return_, 1) := by decide +kernel
theorem dX5_comeWith_0 : decode cX5_comeWith 0 = .ok (.aload_n 0, 1) := by decide +kernel
theorem dX5_comeWith_1 : decode cX5_comeWith 1 = .ok (.iload_n 1, 1) := by decide +kernel
theorem dX5_comeWith_2 : decode cX5_comeWith 2 = .ok (.putfield 28, 3) := by decide +kernel
theorem dX5_comeWith_5 : decode cX5_comeWith 5 = .ok (.aload_n 0, 1) := by decide +kernel
theorem dX5_comeWith_6 : decode cX5_comeWith 6 = .ok (.iload_n 2, 1) := by decide +kernel
theorem dX5_comeWith_7 : decode cX5_comeWith 7 = .ok (.putfield 31, 3) := by decide +kernel
theorem dX5_comeWith_10 : decode cX5_comeWith 10 = .ok (.aload_n 0, 1) := by decide +kernel
theorem dX5_comeWith_11 : decode cX5_comeWith 11 = .ok (.iload_n 1, 1) := by decide +kernel
theorem dX5_comeWith_12 : decode cX5_comeWith 12 = .ok (.iload_n 2, 1) := by decide +kernel
theorem dX5_comeWith_13 : decode cX5_comeWith 13 = .ok (.invokestatic 49, 3) := by decide +kernel
theorem dX5_comeWith_16 : decode cX5_comeWith 16 = .ok (.invokevirtual 53, 3) := by decide +kernel
theorem dX5_comeWith_19 : decode cX5_comeWith 19 = .ok (.return_, 1) := by decide +kernel
theorem dX5_openIn_0 : decode cX5_openIn 0 = .ok (.aload_n 0, 1) := by decide +kernel
theorem dX5_openIn_1 : decode cX5_openIn 1 = .ok (.iload_n 1, 1) := by decide +kernel
theorem dX5_openIn_2 : decode cX5_openIn 2 = .ok (.putfield 34, 3) := by decide +kernel
theorem dX5_openIn_5 : decode cX5_openIn 5 = .ok (.aload_n 0, 1) := by decide +kernel
theorem dX5_openIn_6 : decode cX5_openIn 6 = .ok (.iconst 0, 1) := by decide +kernel
theorem dX5_openIn_7 : decode cX5_openIn 7 = .ok (.putfield 37, 3) := by decide +kernel
theorem dX5_openIn_10 : decode cX5_openIn 10 = .ok (.aload_n 0, 1) := by decide +kernel
theorem dX5_openIn_11 : decode cX5_openIn 11 = .ok (.iconst 0, 1) := by decide +kernel
theorem dX5_openIn_12 : decode cX5_openIn 12 = .ok (.putfield 40, 3) := by decide +kernel
theorem dX5_openIn_15 : decode cX5_openIn 15 = .ok (.aload_n 0, 1) := by decide +kernel
theorem dX5_openIn_16 : decode cX5_openIn 16 = .ok (.iconst 0, 1) := by decide +kernel
theorem dX5_openIn_17 : decode cX5_openIn 17 = .ok (.putfield 43, 3) := by decide +kernel
theorem dX5_openIn_20 : decode cX5_openIn 20 = .ok (.aload_n 0, 1) := by decide +kernel
theorem dX5_openIn_21 : decode cX5_openIn 21 = .ok (.iconst 0, 1) := by decide +kernel
theorem dX5_openIn_22 : decode cX5_openIn 22 = .ok (.putfield 46, 3) := by decide +kernel
theorem dX5_openIn_25 : decode cX5_openIn 25 = .ok (.return_, 1) := by decide +kernel
theorem dX5_changeOver_0 : decode cX5_changeOver 0 = .ok (.aload_n 0, 1) := by decide +kernel
theorem dX5_changeOver_1 : decode cX5_changeOver 1 = .ok (.getfield 15, 3) := by decide +kernel
theorem dX5_changeOver_4 : decode cX5_changeOver 4 = .ok (.istore_n 2, 1) := by decide +kernel
theorem dX5_changeOver_5 : decode cX5_changeOver 5 = .ok (.aload_n 0, 1) := by decide +kernel
theorem dX5_changeOver_6 : decode cX5_changeOver 6 = .ok (.getfield 18, 3) := by decide +kernel
theorem dX5_changeOver_9 : decode cX5_changeOver 9 = .ok (.istore_n 3, 1) := by decide +kernel
theorem dX5_changeOver_10 : decode cX5_changeOver 10 = .ok (.aload_n 0, 1) := by decide +kernel
theorem dX5_changeOver_11 : decode cX5_changeOver 11 = .ok (.getfield 21, 3) := by decide +kernel
theorem dX5_changeOver_14 : decode cX5_changeOver 14 = .ok (.istore 4, 2) := by decide +kernel
theorem dX5_changeOver_16 : decode cX5_changeOver 16 = .ok (.aload_n 0, 1) := by decide +kernel
theorem dX5_changeOver_17 : decode cX5_changeOver 17 = .ok (.aload_n 1, 1) := by decide +kernel
theorem dX5_changeOver_18 : decode cX5_changeOver 18 = .ok (.getfield 15, 3) := by decide +kernel
theorem dX5_changeOver_21 : decode cX5_changeOver 21 = .ok (.putfield 15, 3) := by decide +kernel
theorem dX5_changeOver_24 : decode cX5_changeOver 24 = .ok (.aload_n 0, 1) := by decide +kernel
theorem dX5_changeOver_25 : decode cX5_changeOver 25 = .ok (.aload_n 1, 1) := by decide +kernel
theorem dX5_changeOver_26 : decode cX5_changeOver 26 = .ok (.getfield 18, 3) := by decide +kernel
theorem dX5_changeOver_29 : decode cX5_changeOver 29 = .ok (.putfield 18, 3) := by decide +kernel
theorem dX5_changeOver_32 : decode cX5_changeOver 32 = .ok (.aload_n 0, 1) := by decide +kernel
theorem dX5_changeOver_33 : decode cX5_changeOver 33 = .ok (.aload_n 1, 1) := by decide +kernel
theorem dX5_changeOver_34 : decode cX5_changeOver 34 = .ok (.getfield 21, 3) := by decide +kernel
theorem dX5_changeOver_37 : decode cX5_changeOver 37 = .ok (.putfield 21, 3) := by decide +kernel
theorem dX5_changeOver_40 : decode cX5_changeOver 40 = .ok (.aload_n 1, 1) := by decide +kernel
theorem dX5_changeOver_41 : decode cX5_changeOver 41 = .ok (.iload_n 2, 1) := by decide +kernel
theorem dX5_changeOver_42 : decode cX5_changeOver 42 = .ok (.putfield 15, 3) := by decide +kernel
theorem dX5_changeOver_45 : decode cX5_changeOver 45 = .ok (.aload_n 1, 1) := by decide +kernel
theorem dX5_changeOver_46 : decode cX5_changeOver 46 = .ok (.iload_n 3, 1) := by decide +kernel
theorem dX5_changeOver_47 : decode cX5_changeOver 47 = .ok (.putfield 18, 3) := by decide +kernel
theorem dX5_changeOver_50 : decode cX5_changeOver 50 = .ok (.aload_n 1, 1) := by decide +kernel
theorem dX5_changeOver_51 : decode cX5_changeOver 51 = .ok (.iload 4, 2) := by decide +kernel
theorem dX5_changeOver_53 : decode cX5_changeOver 53 = .ok (.putfield 21, 3) := by decide +kernel
theorem dX5_changeOver_56 : decode cX5_changeOver 56 = .ok (.return_, 1) := by decide +kernel
theorem dX5_openBits_0 : decode cX5_openBits 0 = .ok (.aload_n 0, 1) := by decide +kernel
theorem dX5_openBits_1 : decode cX5_openBits 1 = .ok (.getfield 34, 3) := by decide +kernel
theorem dX5_openBits_4 : decode cX5_openBits 4 = .ok (.aload_n 0, 1) := by decide +kernel
theorem dX5_openBits_5 : decode cX5_openBits 5 = .ok (.getfield 37, 3) := by decide +kernel
theorem dX5_openBits_8 : decode cX5_openBits 8 = .ok (.aload_n 0, 1) := by decide +kernel
theorem dX5_openBits_9 : decode cX5_openBits 9 = .ok (.getfield 40, 3) := by decide +kernel
theorem dX5_openBits_12 : decode cX5_openBits 12 = .ok (.ior, 1) := by decide +kernel
theorem dX5_openBits_13 : decode cX5_openBits 13 = .ok (.aload_n 0, 1) := by decide +kernel
theorem dX5_openBits_14 : decode cX5_openBits 14 = .ok (.getfield 43, 3) := by decide +kernel
theorem dX5_openBits_17 : decode cX5_openBits 17 = .ok (.ior, 1) := by decide +kernel
theorem dX5_openBits_18 : decode cX5_openBits 18 = .ok (.aload_n 0, 1) := by decide +kernel
theorem dX5_openBits_19 : decode cX5_openBits 19 = .ok (.getfield 46, 3) := by decide +kernel
theorem dX5_openBits_22 : decode cX5_openBits 22 = .ok (.ior, 1) := by decide +kernel
theorem dX5_openBits_23 : decode cX5_openBits 23 = .ok (.iconst (-1), 1) := by decide +kernel
theorem dX5_openBits_24 : decode cX5_openBits 24 = .ok (.ixor, 1) := by decide +kernel
theorem dX5_openBits_25 : decode cX5_openBits 25 = .ok (.iand, 1) := by decide +kernel
theorem dX5_openBits_26 : decode cX5_openBits 26 = .ok (.ireturn, 1) := by decide +kernel
theorem dX5_heldBits_0 : decode cX5_heldBits 0 = .ok (.aload_n 0, 1) := by decide +kernel
theorem dX5_heldBits_1 : decode cX5_heldBits 1 = .ok (.getfield 34, 3) := by decide +kernel
theorem dX5_heldBits_4 : decode cX5_heldBits 4 = .ok (.aload_n 0, 1) := by decide +kernel
theorem dX5_heldBits_5 : decode cX5_heldBits 5 = .ok (.getfield 46, 3) := by decide +kernel
theorem dX5_heldBits_8 : decode cX5_heldBits 8 = .ok (.iconst (-1), 1) := by decide +kernel
theorem dX5_heldBits_9 : decode cX5_heldBits 9 = .ok (.ixor, 1) := by decide +kernel
theorem dX5_heldBits_10 : decode cX5_heldBits 10 = .ok (.iand, 1) := by decide +kernel
theorem dX5_heldBits_11 : decode cX5_heldBits 11 = .ok (.ireturn, 1) := by decide +kernel
theorem dX5_bitsThatAre_0 : decode cX5_bitsThatAre 0 = .ok (.iload_n 1, 1) := by decide +kernel
theorem dX5_bitsThatAre_1 : decode cX5_bitsThatAre 1 = .ok (.tableswitch 51 1 4 #[31, 36, 41, 46], 31) := by decide +kernel
theorem dX5_bitsThatAre_32 : decode cX5_bitsThatAre 32 = .ok (.aload_n 0, 1) := by decide +kernel
theorem dX5_bitsThatAre_33 : decode cX5_bitsThatAre 33 = .ok (.getfield 37, 3) := by decide +kernel
theorem dX5_bitsThatAre_36 : decode cX5_bitsThatAre 36 = .ok (.ireturn, 1) := by decide +kernel
theorem dX5_bitsThatAre_37 : decode cX5_bitsThatAre 37 = .ok (.aload_n 0, 1) := by decide +kernel
theorem dX5_bitsThatAre_38 : decode cX5_bitsThatAre 38 = .ok (.getfield 40, 3) := by decide +kernel
theorem dX5_bitsThatAre_41 : decode cX5_bitsThatAre 41 = .ok (.ireturn, 1) := by decide +kernel
theorem dX5_bitsThatAre_42 : decode cX5_bitsThatAre 42 = .ok (.aload_n 0, 1) := by decide +kernel
theorem dX5_bitsThatAre_43 : decode cX5_bitsThatAre 43 = .ok (.getfield 43, 3) := by decide +kernel
theorem dX5_bitsThatAre_46 : decode cX5_bitsThatAre 46 = .ok (.ireturn, 1) := by decide +kernel
theorem dX5_bitsThatAre_47 : decode cX5_bitsThatAre 47 = .ok (.aload_n 0, 1) := by decide +kernel
theorem dX5_bitsThatAre_48 : decode cX5_bitsThatAre 48 = .ok (.getfield 46, 3) := by decide +kernel
theorem dX5_bitsThatAre_51 : decode cX5_bitsThatAre 51 = .ok (.ireturn, 1) := by decide +kernel
theorem dX5_bitsThatAre_52 : decode cX5_bitsThatAre 52 = .ok (.aload_n 0, 1) := by decide +kernel
theorem dX5_bitsThatAre_53 : decode cX5_bitsThatAre 53 = .ok (.invokevirtual 57, 3) := by decide +kernel
theorem dX5_bitsThatAre_56 : decode cX5_bitsThatAre 56 = .ok (.ireturn, 1) := by decide +kernel
theorem dX5_stateOf_0 : decode cX5_stateOf 0 = .ok (.iconst 0, 1) := by decide +kernel
theorem dX5_stateOf_1 : decode cX5_stateOf 1 = .ok (.istore_n 2, 1) := by decide +kernel
theorem dX5_stateOf_2 : decode cX5_stateOf 2 = .ok (.iload_n 2, 1) := by decide +kernel
theorem dX5_stateOf_3 : decode cX5_stateOf 3 = .ok (.iconst 4, 1) := by decide +kernel
theorem dX5_stateOf_4 : decode cX5_stateOf 4 = .ok (.if_icmp .gt 23, 3) := by decide +kernel
theorem dX5_stateOf_7 : decode cX5_stateOf 7 = .ok (.aload_n 0, 1) := by decide +kernel
theorem dX5_stateOf_8 : decode cX5_stateOf 8 = .ok (.iload_n 2, 1) := by decide +kernel
theorem dX5_stateOf_9 : decode cX5_stateOf 9 = .ok (.invokevirtual 61, 3) := by decide +kernel
theorem dX5_stateOf_12 : decode cX5_stateOf 12 = .ok (.iload_n 1, 1) := by decide +kernel
theorem dX5_stateOf_13 : decode cX5_stateOf 13 = .ok (.invokestatic 65, 3) := by decide +kernel
theorem dX5_stateOf_16 : decode cX5_stateOf 16 = .ok (.ifCond .eq 5, 3) := by decide +kernel
theorem dX5_stateOf_19 : decode cX5_stateOf 19 = .ok (.iload_n 2, 1) := by decide +kernel
theorem dX5_stateOf_20 : decode cX5_stateOf 20 = .ok (.ireturn, 1) := by decide +kernel
theorem dX5_stateOf_21 : decode cX5_stateOf 21 = .ok (.iinc 2 1, 3) := by decide +kernel
theorem dX5_stateOf_24 : decode cX5_stateOf 24 = .ok (.goto (-22), 3) := by decide +kernel
theorem dX5_stateOf_27 : decode cX5_stateOf 27 = .ok (.iconst (-1), 1) := by decide +kernel
theorem dX5_stateOf_28 : decode cX5_stateOf 28 = .ok (.ireturn, 1) := by decide +kernel
theorem dX5_holds_0 : decode cX5_holds 0 = .ok (.aload_n 0, 1) := by decide +kernel
theorem dX5_holds_1 : decode cX5_holds 1 = .ok (.invokevirtual 69, 3) := by decide +kernel
theorem dX5_holds_4 : decode cX5_holds 4 = .ok (.iload_n 1, 1) := by decide +kernel
theorem dX5_holds_5 : decode cX5_holds 5 = .ok (.invokestatic 65, 3) := by decide +kernel
theorem dX5_holds_8 : decode cX5_holds 8 = .ok (.ireturn, 1) := by decide +kernel
theorem dX5_fills_0 : decode cX5_fills 0 = .ok (.aload_n 0, 1) := by decide +kernel
theorem dX5_fills_1 : decode cX5_fills 1 = .ok (.getfield 15, 3) := by decide +kernel
theorem dX5_fills_4 : decode cX5_fills 4 = .ok (.iload_n 2, 1) := by decide +kernel
theorem dX5_fills_5 : decode cX5_fills 5 = .ok (.if_icmp .ne 23, 3) := by decide +kernel
theorem dX5_fills_8 : decode cX5_fills 8 = .ok (.aload_n 0, 1) := by decide +kernel
theorem dX5_fills_9 : decode cX5_fills 9 = .ok (.getfield 18, 3) := by decide +kernel
theorem dX5_fills_12 : decode cX5_fills 12 = .ok (.iload_n 3, 1) := by decide +kernel
theorem dX5_fills_13 : decode cX5_fills 13 = .ok (.if_icmp .ne 15, 3) := by decide +kernel
theorem dX5_fills_16 : decode cX5_fills 16 = .ok (.aload_n 0, 1) := by decide +kernel
theorem dX5_fills_17 : decode cX5_fills 17 = .ok (.iload_n 1, 1) := by decide +kernel
theorem dX5_fills_18 : decode cX5_fills 18 = .ok (.invokevirtual 72, 3) := by decide +kernel
theorem dX5_fills_21 : decode cX5_fills 21 = .ok (.ifCond .eq 7, 3) := by decide +kernel
theorem dX5_fills_24 : decode cX5_fills 24 = .ok (.iconst 1, 1) := by decide +kernel
theorem dX5_fills_25 : decode cX5_fills 25 = .ok (.goto 4, 3) := by decide +kernel
theorem dX5_fills_28 : decode cX5_fills 28 = .ok (.iconst 0, 1) := by decide +kernel
theorem dX5_fills_29 : decode cX5_fills 29 = .ok (.ireturn, 1) := by decide +kernel
theorem dX5_isOf_0 : decode cX5_isOf 0 = .ok (.aload_n 0, 1) := by decide +kernel
theorem dX5_isOf_1 : decode cX5_isOf 1 = .ok (.getfield 9, 3) := by decide +kernel
theorem dX5_isOf_4 : decode cX5_isOf 4 = .ok (.iload_n 1, 1) := by decide +kernel
theorem dX5_isOf_5 : decode cX5_isOf 5 = .ok (.if_icmp .ne 20, 3) := by decide +kernel
theorem dX5_isOf_8 : decode cX5_isOf 8 = .ok (.iload_n 2, 1) := by decide +kernel
theorem dX5_isOf_9 : decode cX5_isOf 9 = .ok (.iconst (-1), 1) := by decide +kernel
theorem dX5_isOf_10 : decode cX5_isOf 10 = .ok (.if_icmp .eq 11, 3) := by decide +kernel
theorem dX5_isOf_13 : decode cX5_isOf 13 = .ok (.aload_n 0, 1) := by decide +kernel
theorem dX5_isOf_14 : decode cX5_isOf 14 = .ok (.getfield 15, 3) := by decide +kernel
theorem dX5_isOf_17 : decode cX5_isOf 17 = .ok (.iload_n 2, 1) := by decide +kernel
theorem dX5_isOf_18 : decode cX5_isOf 18 = .ok (.if_icmp .ne 7, 3) := by decide +kernel
theorem dX5_isOf_21 : decode cX5_isOf 21 = .ok (.iconst 1, 1) := by decide +kernel
theorem dX5_isOf_22 : decode cX5_isOf 22 = .ok (.goto 4, 3) := by decide +kernel
theorem dX5_isOf_25 : decode cX5_isOf 25 = .ok (.iconst 0, 1) := by decide +kernel
theorem dX5_isOf_26 : decode cX5_isOf 26 = .ok (.ireturn, 1) := by decide +kernel
theorem dX5_basis_0 : decode cX5_basis 0 = .ok (.aload_n 0, 1) := by decide +kernel
theorem dX5_basis_1 : decode cX5_basis 1 = .ok (.invokevirtual 69, 3) := by decide +kernel
theorem dX5_basis_4 : decode cX5_basis 4 = .ok (.invokestatic 76, 3) := by decide +kernel
theorem dX5_basis_7 : decode cX5_basis 7 = .ok (.ireturn, 1) := by decide +kernel
theorem dX5_good_0 : decode cX5_good 0 = .ok (.aload_n 0, 1) := by decide +kernel
theorem dX5_good_1 : decode cX5_good 1 = .ok (.getfield 37, 3) := by decide +kernel
theorem dX5_good_4 : decode cX5_good 4 = .ok (.aload_n 0, 1) := by decide +kernel
theorem dX5_good_5 : decode cX5_good 5 = .ok (.getfield 43, 3) := by decide +kernel
theorem dX5_good_8 : decode cX5_good 8 = .ok (.ior, 1) := by decide +kernel
theorem dX5_good_9 : decode cX5_good 9 = .ok (.invokestatic 76, 3) := by decide +kernel
theorem dX5_good_12 : decode cX5_good 12 = .ok (.ireturn, 1) := by decide +kernel
theorem dX5_isKeptWith_0 : decode cX5_isKeptWith 0 = .ok (.aload_n 0, 1) := by decide +kernel
theorem dX5_isKeptWith_1 : decode cX5_isKeptWith 1 = .ok (.invokevirtual 81, 3) := by decide +kernel
theorem dX5_isKeptWith_4 : decode cX5_isKeptWith 4 = .ok (.istore_n 2, 1) := by decide +kernel
theorem dX5_isKeptWith_5 : decode cX5_isKeptWith 5 = .ok (.iload_n 2, 1) := by decide +kernel
theorem dX5_isKeptWith_6 : decode cX5_isKeptWith 6 = .ok (.ifCond .le 16, 3) := by decide +kernel
theorem dX5_isKeptWith_9 : decode cX5_isKeptWith 9 = .ok (.iconst 5, 1) := by decide +kernel
theorem dX5_isKeptWith_10 : decode cX5_isKeptWith 10 = .ok (.iload_n 1, 1) := by decide +kernel
theorem dX5_isKeptWith_11 : decode cX5_isKeptWith 11 = .ok (.imul, 1) := by decide +kernel
theorem dX5_isKeptWith_12 : decode cX5_isKeptWith 12 = .ok (.iconst 4, 1) := by decide +kernel
theorem dX5_isKeptWith_13 : decode cX5_isKeptWith 13 = .ok (.iload_n 2, 1) := by decide +kernel
theorem dX5_isKeptWith_14 : decode cX5_isKeptWith 14 = .ok (.imul, 1) := by decide +kernel
theorem dX5_isKeptWith_15 : decode cX5_isKeptWith 15 = .ok (.if_icmp .lt 7, 3) := by decide +kernel
theorem dX5_isKeptWith_18 : decode cX5_isKeptWith 18 = .ok (.iconst 1, 1) := by decide +kernel
theorem dX5_isKeptWith_19 : decode cX5_isKeptWith 19 = .ok (.goto 4, 3) := by decide +kernel
theorem dX5_isKeptWith_22 : decode cX5_isKeptWith 22 = .ok (.iconst 0, 1) := by decide +kernel
theorem dX5_isKeptWith_23 : decode cX5_isKeptWith 23 = .ok (.ireturn, 1) := by decide +kernel
theorem dX5_isSafe_0 : decode cX5_isSafe 0 = .ok (.aload_n 0, 1) := by decide +kernel
theorem dX5_isSafe_1 : decode cX5_isSafe 1 = .ok (.aload_n 0, 1) := by decide +kernel
theorem dX5_isSafe_2 : decode cX5_isSafe 2 = .ok (.invokevirtual 84, 3) := by decide +kernel
theorem dX5_isSafe_5 : decode cX5_isSafe 5 = .ok (.invokevirtual 87, 3) := by decide +kernel
theorem dX5_isSafe_8 : decode cX5_isSafe 8 = .ok (.ireturn, 1) := by decide +kernel
theorem dX5_isLost_0 : decode cX5_isLost 0 = .ok (.aload_n 0, 1) := by decide +kernel
theorem dX5_isLost_1 : decode cX5_isLost 1 = .ok (.aload_n 0, 1) := by decide +kernel
theorem dX5_isLost_2 : decode cX5_isLost 2 = .ok (.invokevirtual 84, 3) := by decide +kernel
theorem dX5_isLost_5 : decode cX5_isLost 5 = .ok (.aload_n 0, 1) := by decide +kernel
theorem dX5_isLost_6 : decode cX5_isLost 6 = .ok (.invokevirtual 57, 3) := by decide +kernel
theorem dX5_isLost_9 : decode cX5_isLost 9 = .ok (.invokestatic 76, 3) := by decide +kernel
theorem dX5_isLost_12 : decode cX5_isLost 12 = .ok (.iadd, 1) := by decide +kernel
theorem dX5_isLost_13 : decode cX5_isLost 13 = .ok (.invokevirtual 87, 3) := by decide +kernel
theorem dX5_isLost_16 : decode cX5_isLost 16 = .ok (.ifCond .ne 7, 3) := by decide +kernel
theorem dX5_isLost_19 : decode cX5_isLost 19 = .ok (.iconst 1, 1) := by decide +kernel
theorem dX5_isLost_20 : decode cX5_isLost 20 = .ok (.goto 4, 3) := by decide +kernel
theorem dX5_isLost_23 : decode cX5_isLost 23 = .ok (.iconst 0, 1) := by decide +kernel
theorem dX5_isLost_24 : decode cX5_isLost 24 = .ok (.ireturn, 1) := by decide +kernel
theorem dX5_missesLeft_0 : decode cX5_missesLeft 0 = .ok (.aload_n 0, 1) := by decide +kernel
theorem dX5_missesLeft_1 : decode cX5_missesLeft 1 = .ok (.invokevirtual 90, 3) := by decide +kernel
theorem dX5_missesLeft_4 : decode cX5_missesLeft 4 = .ok (.ifCond .eq 5, 3) := by decide +kernel
theorem dX5_missesLeft_7 : decode cX5_missesLeft 7 = .ok (.iconst (-1), 1) := by decide +kernel
theorem dX5_missesLeft_8 : decode cX5_missesLeft 8 = .ok (.ireturn, 1) := by decide +kernel
theorem dX5_missesLeft_9 : decode cX5_missesLeft 9 = .ok (.aload_n 0, 1) := by decide +kernel
theorem dX5_missesLeft_10 : decode cX5_missesLeft 10 = .ok (.invokevirtual 57, 3) := by decide +kernel
theorem dX5_missesLeft_13 : decode cX5_missesLeft 13 = .ok (.invokestatic 76, 3) := by decide +kernel
theorem dX5_missesLeft_16 : decode cX5_missesLeft 16 = .ok (.istore_n 1, 1) := by decide +kernel
theorem dX5_missesLeft_17 : decode cX5_missesLeft 17 = .ok (.iconst 4, 1) := by decide +kernel
theorem dX5_missesLeft_18 : decode cX5_missesLeft 18 = .ok (.aload_n 0, 1) := by decide +kernel
theorem dX5_missesLeft_19 : decode cX5_missesLeft 19 = .ok (.invokevirtual 81, 3) := by decide +kernel
theorem dX5_missesLeft_22 : decode cX5_missesLeft 22 = .ok (.imul, 1) := by decide +kernel
theorem dX5_missesLeft_23 : decode cX5_missesLeft 23 = .ok (.iconst 4, 1) := by decide +kernel
theorem dX5_missesLeft_24 : decode cX5_missesLeft 24 = .ok (.iadd, 1) := by decide +kernel
theorem dX5_missesLeft_25 : decode cX5_missesLeft 25 = .ok (.iconst 5, 1) := by decide +kernel
theorem dX5_missesLeft_26 : decode cX5_missesLeft 26 = .ok (.idiv, 1) := by decide +kernel
theorem dX5_missesLeft_27 : decode cX5_missesLeft 27 = .ok (.istore_n 2, 1) := by decide +kernel
theorem dX5_missesLeft_28 : decode cX5_missesLeft 28 = .ok (.iload_n 1, 1) := by decide +kernel
theorem dX5_missesLeft_29 : decode cX5_missesLeft 29 = .ok (.aload_n 0, 1) := by decide +kernel
theorem dX5_missesLeft_30 : decode cX5_missesLeft 30 = .ok (.invokevirtual 84, 3) := by decide +kernel
theorem dX5_missesLeft_33 : decode cX5_missesLeft 33 = .ok (.iload_n 1, 1) := by decide +kernel
theorem dX5_missesLeft_34 : decode cX5_missesLeft 34 = .ok (.iadd, 1) := by decide +kernel
theorem dX5_missesLeft_35 : decode cX5_missesLeft 35 = .ok (.iload_n 2, 1) := by decide +kernel
theorem dX5_missesLeft_36 : decode cX5_missesLeft 36 = .ok (.isub, 1) := by decide +kernel
theorem dX5_missesLeft_37 : decode cX5_missesLeft 37 = .ok (.invokestatic 94, 3) := by decide +kernel
theorem dX5_missesLeft_40 : decode cX5_missesLeft 40 = .ok (.ireturn, 1) := by decide +kernel
theorem dX6_init_0 : decode cX6_init 0 = .ok (.aload_n 0, 1) := by decide +kernel
theorem dX6_init_1 : decode cX6_init 1 = .ok (.invokespecial 3, 3) := by decide +kernel
theorem dX6_init_4 : decode cX6_init 4 = .ok (.aload_n 0, 1) := by decide +kernel
theorem dX6_init_5 : decode cX6_init 5 = .ok (.sipush 2400, 3) := by decide +kernel
theorem dX6_init_8 : decode cX6_init 8 = .ok (.newarray .byte, 2) := by decide +kernel
theorem dX6_init_10 : decode cX6_init 10 = .ok (.putfield 9, 3) := by decide +kernel
theorem dX6_init_13 : decode cX6_init 13 = .ok (.aload_n 0, 1) := by decide +kernel
theorem dX6_init_14 : decode cX6_init 14 = .ok (.iconst 0, 1) := by decide +kernel
theorem dX6_init_15 : decode cX6_init 15 = .ok (.putfield 15, 3) := by decide +kernel
theorem dX6_init_18 : decode cX6_init 18 = .ok (.return_, 1) := by decide +kernel
theorem dX6_write_0 : decode cX6_write 0 = .ok (.aload_n 0, 1) := by decide +kernel
theorem dX6_write_1 : decode cX6_write 1 = .ok (.iconst 0, 1) := by decide +kernel
theorem dX6_write_2 : decode cX6_write 2 = .ok (.putfield 15, 3) := by decide +kernel
theorem dX6_write_5 : decode cX6_write 5 = .ok (.aload_n 0, 1) := by decide +kernel
theorem dX6_write_6 : decode cX6_write 6 = .ok (.ldc 19, 2) := by decide +kernel
theorem dX6_write_8 : decode cX6_write 8 = .ok (.invokevirtual 21, 3) := by decide +kernel
theorem dX6_write_11 : decode cX6_write 11 = .ok (.aload_n 0, 1) := by decide +kernel
theorem dX6_write_12 : decode cX6_write 12 = .ok (.aload_n 1, 1) := by decide +kernel
theorem dX6_write_13 : decode cX6_write 13 = .ok (.getfield 25, 3) := by decide +kernel
theorem dX6_write_16 : decode cX6_write 16 = .ok (.invokevirtual 28, 3) := by decide +kernel
theorem dX6_write_19 : decode cX6_write 19 = .ok (.aload_n 0, 1) := by decide +kernel
theorem dX6_write_20 : decode cX6_write 20 = .ok (.bipush 59, 2) := by decide +kernel
theorem dX6_write_22 : decode cX6_write 22 = .ok (.invokevirtual 32, 3) := by decide +kernel
theorem dX6_write_25 : decode cX6_write 25 = .ok (.iconst 0, 1) := by decide +kernel
theorem dX6_write_26 : decode cX6_write 26 = .ok (.istore_n 3, 1) := by decide +kernel
theorem dX6_write_27 : decode cX6_write 27 = .ok (.iload_n 3, 1) := by decide +kernel
theorem dX6_write_28 : decode cX6_write 28 = .ok (.bipush 24, 2) := by decide +kernel
theorem dX6_write_30 : decode cX6_write 30 = .ok (.if_icmp .ge 46, 3) := by decide +kernel
theorem dX6_write_33 : decode cX6_write 33 = .ok (.aload_n 1, 1) := by decide +kernel
theorem dX6_write_34 : decode cX6_write 34 = .ok (.getfield 36, 3) := by decide +kernel
theorem dX6_write_37 : decode cX6_write 37 = .ok (.iload_n 3, 1) := by decide +kernel
theorem dX6_write_38 : decode cX6_write 38 = .ok (.iaload, 1) := by decide +kernel
theorem dX6_write_39 : decode cX6_write 39 = .ok (.iconst 4, 1) := by decide +kernel
theorem dX6_write_40 : decode cX6_write 40 = .ok (.if_icmp .ne 13, 3) := by decide +kernel
theorem dX6_write_43 : decode cX6_write 43 = .ok (.aload_n 1, 1) := by decide +kernel
theorem dX6_write_44 : decode cX6_write 44 = .ok (.getfield 40, 3) := by decide +kernel
theorem dX6_write_47 : decode cX6_write 47 = .ok (.iload_n 3, 1) := by decide +kernel
theorem dX6_write_48 : decode cX6_write 48 = .ok (.iaload, 1) := by decide +kernel
theorem dX6_write_49 : decode cX6_write 49 = .ok (.iconst 4, 1) := by decide +kernel
theorem dX6_write_50 : decode cX6_write 50 = .ok (.if_icmp .eq 20, 3) := by decide +kernel
theorem dX6_write_53 : decode cX6_write 53 = .ok (.aload_n 0, 1) := by decide +kernel
theorem dX6_write_54 : decode cX6_write 54 = .ok (.iload_n 3, 1) := by decide +kernel
theorem dX6_write_55 : decode cX6_write 55 = .ok (.aload_n 1, 1) := by decide +kernel
theorem dX6_write_56 : decode cX6_write 56 = .ok (.getfield 36, 3) := by decide +kernel
theorem dX6_write_59 : decode cX6_write 59 = .ok (.iload_n 3, 1) := by decide +kernel
theorem dX6_write_60 : decode cX6_write 60 = .ok (.iaload, 1) := by decide +kernel
theorem dX6_write_61 : decode cX6_write 61 = .ok (.aload_n 1, 1) := by decide +kernel
theorem dX6_write_62 : decode cX6_write 62 = .ok (.getfield 40, 3) := by decide +kernel
theorem dX6_write_65 : decode cX6_write 65 = .ok (.iload_n 3, 1) := by decide +kernel
theorem dX6_write_66 : decode cX6_write 66 = .ok (.iaload, 1) := by decide +kernel
theorem dX6_write_67 : decode cX6_write 67 = .ok (.invokevirtual 43, 3) := by decide +kernel
theorem dX6_write_70 : decode cX6_write 70 = .ok (.iinc 3 1, 3) := by decide +kernel
theorem dX6_write_73 : decode cX6_write 73 = .ok (.goto (-46), 3) := by decide +kernel
theorem dX6_write_76 : decode cX6_write 76 = .ok (.iconst 0, 1) := by decide +kernel
theorem dX6_write_77 : decode cX6_write 77 = .ok (.istore_n 3, 1) := by decide +kernel
theorem dX6_write_78 : decode cX6_write 78 = .ok (.iload_n 3, 1) := by decide +kernel
theorem dX6_write_79 : decode cX6_write 79 = .ok (.aload_n 2, 1) := by decide +kernel
theorem dX6_write_80 : decode cX6_write 80 = .ok (.getfield 47, 3) := by decide +kernel
theorem dX6_write_83 : decode cX6_write 83 = .ok (.if_icmp .ge 27, 3) := by decide +kernel
theorem dX6_write_86 : decode cX6_write 86 = .ok (.aload_n 0, 1) := by decide +kernel
theorem dX6_write_87 : decode cX6_write 87 = .ok (.ldc 52, 2) := by decide +kernel
theorem dX6_write_89 : decode cX6_write 89 = .ok (.invokevirtual 21, 3) := by decide +kernel
theorem dX6_write_92 : decode cX6_write 92 = .ok (.aload_n 0, 1) := by decide +kernel
theorem dX6_write_93 : decode cX6_write 93 = .ok (.aload_n 2, 1) := by decide +kernel
theorem dX6_write_94 : decode cX6_write 94 = .ok (.iload_n 3, 1) := by decide +kernel
theorem dX6_write_95 : decode cX6_write 95 = .ok (.invokevirtual 54, 3) := by decide +kernel
theorem dX6_write_98 : decode cX6_write 98 = .ok (.aload_n 0, 1) := by decide +kernel
theorem dX6_write_99 : decode cX6_write 99 = .ok (.bipush 59, 2) := by decide +kernel
theorem dX6_write_101 : decode cX6_write 101 = .ok (.invokevirtual 32, 3) := by decide +kernel
theorem dX6_write_104 : decode cX6_write 104 = .ok (.iinc 3 1, 3) := by decide +kernel
theorem dX6_write_107 : decode cX6_write 107 = .ok (.goto (-29), 3) := by decide +kernel
theorem dX6_write_110 : decode cX6_write 110 = .ok (.iconst 0, 1) := by decide +kernel
theorem dX6_write_111 : decode cX6_write 111 = .ok (.istore_n 3, 1) := by decide +kernel
theorem dX6_write_112 : decode cX6_write 112 = .ok (.iload_n 3, 1) := by decide +kernel
theorem dX6_write_113 : decode cX6_write 113 = .ok (.aload_n 1, 1) := by decide +kernel
theorem dX6_write_114 : decode cX6_write 114 = .ok (.getfield 58, 3) := by decide +kernel
theorem dX6_write_117 : decode cX6_write 117 = .ok (.if_icmp .ge 20, 3) := by decide +kernel
theorem dX6_write_120 : decode cX6_write 120 = .ok (.aload_n 0, 1) := by decide +kernel
theorem dX6_write_121 : decode cX6_write 121 = .ok (.aload_n 1, 1) := by decide +kernel
theorem dX6_write_122 : decode cX6_write 122 = .ok (.getfield 61, 3) := by decide +kernel
theorem dX6_write_125 : decode cX6_write 125 = .ok (.iload_n 3, 1) := by decide +kernel
theorem dX6_write_126 : decode cX6_write 126 = .ok (.aaload, 1) := by decide +kernel
theorem dX6_write_127 : decode cX6_write 127 = .ok (.aload_n 2, 1) := by decide +kernel
theorem dX6_write_128 : decode cX6_write 128 = .ok (.invokevirtual 65, 3) := by decide +kernel
theorem dX6_write_131 : decode cX6_write 131 = .ok (.iinc 3 1, 3) := by decide +kernel
theorem dX6_write_134 : decode cX6_write 134 = .ok (.goto (-22), 3) := by decide +kernel
theorem dX6_write_137 : decode cX6_write 137 = .ok (.iconst 0, 1) := by decide +kernel
theorem dX6_write_138 : decode cX6_write 138 = .ok (.istore_n 3, 1) := by decide +kernel
theorem dX6_write_139 : decode cX6_write 139 = .ok (.iload_n 3, 1) := by decide +kernel
theorem dX6_write_140 : decode cX6_write 140 = .ok (.aload_n 1, 1) := by decide +kernel
theorem dX6_write_141 : decode cX6_write 141 = .ok (.getfield 69, 3) := by decide +kernel
theorem dX6_write_144 : decode cX6_write 144 = .ok (.if_icmp .ge 20, 3) := by decide +kernel
theorem dX6_write_147 : decode cX6_write 147 = .ok (.aload_n 0, 1) := by decide +kernel
theorem dX6_write_148 : decode cX6_write 148 = .ok (.aload_n 1, 1) := by decide +kernel
theorem dX6_write_149 : decode cX6_write 149 = .ok (.getfield 72, 3) := by decide +kernel
theorem dX6_write_152 : decode cX6_write 152 = .ok (.iload_n 3, 1) := by decide +kernel
theorem dX6_write_153 : decode cX6_write 153 = .ok (.aaload, 1) := by decide +kernel
theorem dX6_write_154 : decode cX6_write 154 = .ok (.aload_n 2, 1) := by decide +kernel
theorem dX6_write_155 : decode cX6_write 155 = .ok (.invokevirtual 76, 3) := by decide +kernel
theorem dX6_write_158 : decode cX6_write 158 = .ok (.iinc 3 1, 3) := by decide +kernel
theorem dX6_write_161 : decode cX6_write 161 = .ok (.goto (-22), 3) := by decide +kernel
theorem dX6_write_164 : decode cX6_write 164 = .ok (.aload_n 0, 1) := by decide +kernel
theorem dX6_write_165 : decode cX6_write 165 = .ok (.getfield 15, 3) := by decide +kernel
theorem dX6_write_168 : decode cX6_write 168 = .ok (.ireturn, 1) := by decide +kernel
theorem dX6_putLimit_0 : decode cX6_putLimit 0 = .ok (.aload_n 0, 1) := by decide +kernel
theorem dX6_putLimit_1 : decode cX6_putLimit 1 = .ok (.ldc 80, 2) := by decide +kernel
theorem dX6_putLimit_3 : decode cX6_putLimit 3 = .ok (.invokevirtual 21, 3) := by decide +kernel
theorem dX6_putLimit_6 : decode cX6_putLimit 6 = .ok (.aload_n 0, 1) := by decide +kernel
theorem dX6_putLimit_7 : decode cX6_putLimit 7 = .ok (.iload_n 1, 1) := by decide +kernel
theorem dX6_putLimit_8 : decode cX6_putLimit 8 = .ok (.invokevirtual 28, 3) := by decide +kernel
theorem dX6_putLimit_11 : decode cX6_putLimit 11 = .ok (.aload_n 0, 1) := by decide +kernel
theorem dX6_putLimit_12 : decode cX6_putLimit 12 = .ok (.iload_n 2, 1) := by decide +kernel
theorem dX6_putLimit_13 : decode cX6_putLimit 13 = .ok (.invokevirtual 28, 3) := by decide +kernel
theorem dX6_putLimit_16 : decode cX6_putLimit 16 = .ok (.aload_n 0, 1) := by decide +kernel
theorem dX6_putLimit_17 : decode cX6_putLimit 17 = .ok (.ldc 82, 2) := by decide +kernel
theorem dX6_putLimit_19 : decode cX6_putLimit 19 = .ok (.invokevirtual 21, 3) := by decide +kernel
theorem dX6_putLimit_22 : decode cX6_putLimit 22 = .ok (.aload_n 0, 1) := by decide +kernel
theorem dX6_putLimit_23 : decode cX6_putLimit 23 = .ok (.iload_n 3, 1) := by decide +kernel
theorem dX6_putLimit_24 : decode cX6_putLimit 24 = .ok (.invokevirtual 28, 3) := by decide +kernel
theorem dX6_putLimit_27 : decode cX6_putLimit 27 = .ok (.aload_n 0, 1) := by decide +kernel
theorem dX6_putLimit_28 : decode cX6_putLimit 28 = .ok (.bipush 59, 2) := by decide +kernel
theorem dX6_putLimit_30 : decode cX6_putLimit 30 = .ok (.invokevirtual 32, 3) := by decide +kernel
theorem dX6_putLimit_33 : decode cX6_putLimit 33 = .ok (.return_, 1) := by decide +kernel
theorem dX6_putSeries_0 : decode cX6_putSeries 0 = .ok (.aload_n 0, 1) := by decide +kernel
theorem dX6_putSeries_1 : decode cX6_putSeries 1 = .ok (.ldc 84, 2) := by decide +kernel
theorem dX6_putSeries_3 : decode cX6_putSeries 3 = .ok (.invokevirtual 21, 3) := by decide +kernel
theorem dX6_putSeries_6 : decode cX6_putSeries 6 = .ok (.aload_n 0, 1) := by decide +kernel
theorem dX6_putSeries_7 : decode cX6_putSeries 7 = .ok (.aload_n 2, 1) := by decide +kernel
theorem dX6_putSeries_8 : decode cX6_putSeries 8 = .ok (.aload_n 1, 1) := by decide +kernel
theorem dX6_putSeries_9 : decode cX6_putSeries 9 = .ok (.getfield 86, 3) := by decide +kernel
theorem dX6_putSeries_12 : decode cX6_putSeries 12 = .ok (.invokevirtual 54, 3) := by decide +kernel
theorem dX6_putSeries_15 : decode cX6_putSeries 15 = .ok (.aload_n 0, 1) := by decide +kernel
theorem dX6_putSeries_16 : decode cX6_putSeries 16 = .ok (.aload_n 1, 1) := by decide +kernel
theorem dX6_putSeries_17 : decode cX6_putSeries 17 = .ok (.getfield 90, 3) := by decide +kernel
theorem dX6_putSeries_20 : decode cX6_putSeries 20 = .ok (.aload_n 1, 1) := by decide +kernel
theorem dX6_putSeries_21 : decode cX6_putSeries 21 = .ok (.getfield 93, 3) := by decide +kernel
theorem dX6_putSeries_24 : decode cX6_putSeries 24 = .ok (.aload_n 1, 1) := by decide +kernel
theorem dX6_putSeries_25 : decode cX6_putSeries 25 = .ok (.getfield 96, 3) := by decide +kernel
theorem dX6_putSeries_28 : decode cX6_putSeries 28 = .ok (.invokevirtual 99, 3) := by decide +kernel
theorem dX6_putSeries_31 : decode cX6_putSeries 31 = .ok (.aload_n 0, 1) := by decide +kernel
theorem dX6_putSeries_32 : decode cX6_putSeries 32 = .ok (.aload_n 1, 1) := by decide +kernel
theorem dX6_putSeries_33 : decode cX6_putSeries 33 = .ok (.getfield 102, 3) := by decide +kernel
theorem dX6_putSeries_36 : decode cX6_putSeries 36 = .ok (.aload_n 1, 1) := by decide +kernel
theorem dX6_putSeries_37 : decode cX6_putSeries 37 = .ok (.getfield 105, 3) := by decide +kernel
theorem dX6_putSeries_40 : decode cX6_putSeries 40 = .ok (.invokevirtual 108, 3) := by decide +kernel
theorem dX6_putSeries_43 : decode cX6_putSeries 43 = .ok (.aload_n 1, 1) := by decide +kernel
theorem dX6_putSeries_44 : decode cX6_putSeries 44 = .ok (.getfield 112, 3) := by decide +kernel
theorem dX6_putSeries_47 : decode cX6_putSeries 47 = .ok (.ifCond .eq 9, 3) := by decide +kernel
theorem dX6_putSeries_50 : decode cX6_putSeries 50 = .ok (.aload_n 0, 1) := by decide +kernel
theorem dX6_putSeries_51 : decode cX6_putSeries 51 = .ok (.ldc 116, 2) := by decide +kernel
theorem dX6_putSeries_53 : decode cX6_putSeries 53 = .ok (.invokevirtual 21, 3) := by decide +kernel
theorem dX6_putSeries_56 : decode cX6_putSeries 56 = .ok (.aload_n 0, 1) := by decide +kernel
theorem dX6_putSeries_57 : decode cX6_putSeries 57 = .ok (.bipush 59, 2) := by decide +kernel
theorem dX6_putSeries_59 : decode cX6_putSeries 59 = .ok (.invokevirtual 32, 3) := by decide +kernel
theorem dX6_putSeries_62 : decode cX6_putSeries 62 = .ok (.return_, 1) := by decide +kernel
theorem dX6_putAsk_0 : decode cX6_putAsk 0 = .ok (.aload_n 0, 1) := by decide +kernel
theorem dX6_putAsk_1 : decode cX6_putAsk 1 = .ok (.ldc 118, 2) := by decide +kernel
theorem dX6_putAsk_3 : decode cX6_putAsk 3 = .ok (.invokevirtual 21, 3) := by decide +kernel
theorem dX6_putAsk_6 : decode cX6_putAsk 6 = .ok (.aload_n 0, 1) := by decide +kernel
theorem dX6_putAsk_7 : decode cX6_putAsk 7 = .ok (.aload_n 2, 1) := by decide +kernel
theorem dX6_putAsk_8 : decode cX6_putAsk 8 = .ok (.aload_n 1, 1) := by decide +kernel
theorem dX6_putAsk_9 : decode cX6_putAsk 9 = .ok (.getfield 120, 3) := by decide +kernel
theorem dX6_putAsk_12 : decode cX6_putAsk 12 = .ok (.invokevirtual 54, 3) := by decide +kernel
theorem dX6_putAsk_15 : decode cX6_putAsk 15 = .ok (.aload_n 0, 1) := by decide +kernel
theorem dX6_putAsk_16 : decode cX6_putAsk 16 = .ok (.aload_n 1, 1) := by decide +kernel
theorem dX6_putAsk_17 : decode cX6_putAsk 17 = .ok (.getfield 123, 3) := by decide +kernel
theorem dX6_putAsk_20 : decode cX6_putAsk 20 = .ok (.aload_n 1, 1) := by decide +kernel
theorem dX6_putAsk_21 : decode cX6_putAsk 21 = .ok (.getfield 124, 3) := by decide +kernel
theorem dX6_putAsk_24 : decode cX6_putAsk 24 = .ok (.aload_n 1, 1) := by decide +kernel
theorem dX6_putAsk_25 : decode cX6_putAsk 25 = .ok (.getfield 125, 3) := by decide +kernel
theorem dX6_putAsk_28 : decode cX6_putAsk 28 = .ok (.invokevirtual 99, 3) := by decide +kernel
theorem dX6_putAsk_31 : decode cX6_putAsk 31 = .ok (.aload_n 0, 1) := by decide +kernel
theorem dX6_putAsk_32 : decode cX6_putAsk 32 = .ok (.aload_n 1, 1) := by decide +kernel
theorem dX6_putAsk_33 : decode cX6_putAsk 33 = .ok (.getfield 126, 3) := by decide +kernel
theorem dX6_putAsk_36 : decode cX6_putAsk 36 = .ok (.aload_n 1, 1) := by decide +kernel
theorem dX6_putAsk_37 : decode cX6_putAsk 37 = .ok (.getfield 127, 3) := by decide +kernel
theorem dX6_putAsk_40 : decode cX6_putAsk 40 = .ok (.invokevirtual 108, 3) := by decide +kernel
theorem dX6_putAsk_43 : decode cX6_putAsk 43 = .ok (.aload_n 1, 1) := by decide +kernel
theorem dX6_putAsk_44 : decode cX6_putAsk 44 = .ok (.getfield 128, 3) := by decide +kernel
theorem dX6_putAsk_47 : decode cX6_putAsk 47 = .ok (.ifCond .le 17, 3) := by decide +kernel
theorem dX6_putAsk_50 : decode cX6_putAsk 50 = .ok (.aload_n 0, 1) := by decide +kernel
theorem dX6_putAsk_51 : decode cX6_putAsk 51 = .ok (.ldc 131, 2) := by decide +kernel
theorem dX6_putAsk_53 : decode cX6_putAsk 53 = .ok (.invokevirtual 21, 3) := by decide +kernel
theorem dX6_putAsk_56 : decode cX6_putAsk 56 = .ok (.aload_n 0, 1) := by decide +kernel
theorem dX6_putAsk_57 : decode cX6_putAsk 57 = .ok (.aload_n 1, 1) := by decide +kernel
theorem dX6_putAsk_58 : decode cX6_putAsk 58 = .ok (.getfield 128, 3) := by decide +kernel
theorem dX6_putAsk_61 : decode cX6_putAsk 61 = .ok (.invokevirtual 28, 3) := by decide +kernel
theorem dX6_putAsk_64 : decode cX6_putAsk 64 = .ok (.aload_n 0, 1) := by decide +kernel
theorem dX6_putAsk_65 : decode cX6_putAsk 65 = .ok (.bipush 59, 2) := by decide +kernel
theorem dX6_putAsk_67 : decode cX6_putAsk 67 = .ok (.invokevirtual 32, 3) := by decide +kernel
theorem dX6_putAsk_70 : decode cX6_putAsk 70 = .ok (.return_, 1) := by decide +kernel
theorem dX6_putPlace_0 : decode cX6_putPlace 0 = .ok (.aload_n 0, 1) := by decide +kernel
theorem dX6_putPlace_1 : decode cX6_putPlace 1 = .ok (.invokevirtual 132, 3) := by decide +kernel
theorem dX6_putPlace_4 : decode cX6_putPlace 4 = .ok (.iconst 0, 1) := by decide +kernel
theorem dX6_putPlace_5 : decode cX6_putPlace 5 = .ok (.istore 4, 2) := by decide +kernel
theorem dX6_putPlace_7 : decode cX6_putPlace 7 = .ok (.iload 4, 2) := by decide +kernel
theorem dX6_putPlace_9 : decode cX6_putPlace 9 = .ok (.iconst 3, 1) := by decide +kernel
theorem dX6_putPlace_10 : decode cX6_putPlace 10 = .ok (.if_icmp .ge 24, 3) := by decide +kernel
theorem dX6_putPlace_13 : decode cX6_putPlace 13 = .ok (.aload_n 0, 1) := by decide +kernel
theorem dX6_putPlace_14 : decode cX6_putPlace 14 = .ok (.ldc 135, 2) := by decide +kernel
theorem dX6_putPlace_16 : decode cX6_putPlace 16 = .ok (.iload_n 1, 1) := by decide +kernel
theorem dX6_putPlace_17 : decode cX6_putPlace 17 = .ok (.iconst 4, 1) := by decide +kernel
theorem dX6_putPlace_18 : decode cX6_putPlace 18 = .ok (.imul, 1) := by decide +kernel
theorem dX6_putPlace_19 : decode cX6_putPlace 19 = .ok (.iload 4, 2) := by decide +kernel
theorem dX6_putPlace_21 : decode cX6_putPlace 21 = .ok (.iadd, 1) := by decide +kernel
theorem dX6_putPlace_22 : decode cX6_putPlace 22 = .ok (.invokevirtual 137, 3) := by decide +kernel
theorem dX6_putPlace_25 : decode cX6_putPlace 25 = .ok (.invokevirtual 32, 3) := by decide +kernel
theorem dX6_putPlace_28 : decode cX6_putPlace 28 = .ok (.iinc 4 1, 3) := by decide +kernel
theorem dX6_putPlace_31 : decode cX6_putPlace 31 = .ok (.goto (-24), 3) := by decide +kernel
theorem dX6_putPlace_34 : decode cX6_putPlace 34 = .ok (.aload_n 0, 1) := by decide +kernel
theorem dX6_putPlace_35 : decode cX6_putPlace 35 = .ok (.iload_n 2, 1) := by decide +kernel
theorem dX6_putPlace_36 : decode cX6_putPlace 36 = .ok (.invokevirtual 28, 3) := by decide +kernel
theorem dX6_putPlace_39 : decode cX6_putPlace 39 = .ok (.aload_n 0, 1) := by decide +kernel
theorem dX6_putPlace_40 : decode cX6_putPlace 40 = .ok (.iload_n 3, 1) := by decide +kernel
theorem dX6_putPlace_41 : decode cX6_putPlace 41 = .ok (.ifCond .ne 8, 3) := by decide +kernel
theorem dX6_putPlace_44 : decode cX6_putPlace 44 = .ok (.ldc 82, 2) := by decide +kernel
theorem dX6_putPlace_46 : decode cX6_putPlace 46 = .ok (.goto 5, 3) := by decide +kernel
theorem dX6_putPlace_49 : decode cX6_putPlace 49 = .ok (.ldc 143, 2) := by decide +kernel
theorem dX6_putPlace_51 : decode cX6_putPlace 51 = .ok (.invokevirtual 21, 3) := by decide +kernel
theorem dX6_putPlace_54 : decode cX6_putPlace 54 = .ok (.return_, 1) := by decide +kernel
theorem dX6_putSpan_0 : decode cX6_putSpan 0 = .ok (.aload_n 0, 1) := by decide +kernel
theorem dX6_putSpan_1 : decode cX6_putSpan 1 = .ok (.iload_n 1, 1) := by decide +kernel
theorem dX6_putSpan_2 : decode cX6_putSpan 2 = .ok (.invokevirtual 28, 3) := by decide +kernel
theorem dX6_putSpan_5 : decode cX6_putSpan 5 = .ok (.aload_n 0, 1) := by decide +kernel
theorem dX6_putSpan_6 : decode cX6_putSpan 6 = .ok (.bipush 45, 2) := by decide +kernel
theorem dX6_putSpan_8 : decode cX6_putSpan 8 = .ok (.invokevirtual 32, 3) := by decide +kernel
theorem dX6_putSpan_11 : decode cX6_putSpan 11 = .ok (.aload_n 0, 1) := by decide +kernel
theorem dX6_putSpan_12 : decode cX6_putSpan 12 = .ok (.iload_n 2, 1) := by decide +kernel
theorem dX6_putSpan_13 : decode cX6_putSpan 13 = .ok (.invokevirtual 28, 3) := by decide +kernel
theorem dX6_putSpan_16 : decode cX6_putSpan 16 = .ok (.return_, 1) := by decide +kernel
theorem dX6_putName_0 : decode cX6_putName 0 = .ok (.aload_n 0, 1) := by decide +kernel
theorem dX6_putName_1 : decode cX6_putName 1 = .ok (.invokevirtual 132, 3) := by decide +kernel
theorem dX6_putName_4 : decode cX6_putName 4 = .ok (.iconst 0, 1) := by decide +kernel
theorem dX6_putName_5 : decode cX6_putName 5 = .ok (.istore_n 3, 1) := by decide +kernel
theorem dX6_putName_6 : decode cX6_putName 6 = .ok (.iload_n 3, 1) := by decide +kernel
theorem dX6_putName_7 : decode cX6_putName 7 = .ok (.bipush 6, 2) := by decide +kernel
theorem dX6_putName_9 : decode cX6_putName 9 = .ok (.if_icmp .ge 34, 3) := by decide +kernel
theorem dX6_putName_12 : decode cX6_putName 12 = .ok (.aload_n 1, 1) := by decide +kernel
theorem dX6_putName_13 : decode cX6_putName 13 = .ok (.iload_n 2, 1) := by decide +kernel
theorem dX6_putName_14 : decode cX6_putName 14 = .ok (.iload_n 3, 1) := by decide +kernel
theorem dX6_putName_15 : decode cX6_putName 15 = .ok (.invokevirtual 144, 3) := by decide +kernel
theorem dX6_putName_18 : decode cX6_putName 18 = .ok (.istore 4, 2) := by decide +kernel
theorem dX6_putName_20 : decode cX6_putName 20 = .ok (.iload 4, 2) := by decide +kernel
theorem dX6_putName_22 : decode cX6_putName 22 = .ok (.ifCond .le 15, 3) := by decide +kernel
theorem dX6_putName_25 : decode cX6_putName 25 = .ok (.aload_n 0, 1) := by decide +kernel
theorem dX6_putName_26 : decode cX6_putName 26 = .ok (.bipush 97, 2) := by decide +kernel
theorem dX6_putName_28 : decode cX6_putName 28 = .ok (.iload 4, 2) := by decide +kernel
theorem dX6_putName_30 : decode cX6_putName 30 = .ok (.iadd, 1) := by decide +kernel
theorem dX6_putName_31 : decode cX6_putName 31 = .ok (.iconst 1, 1) := by decide +kernel
theorem dX6_putName_32 : decode cX6_putName 32 = .ok (.isub, 1) := by decide +kernel
theorem dX6_putName_33 : decode cX6_putName 33 = .ok (.i2c, 1) := by decide +kernel
theorem dX6_putName_34 : decode cX6_putName 34 = .ok (.invokevirtual 32, 3) := by decide +kernel
theorem dX6_putName_37 : decode cX6_putName 37 = .ok (.iinc 3 1, 3) := by decide +kernel
theorem dX6_putName_40 : decode cX6_putName 40 = .ok (.goto (-34), 3) := by decide +kernel
theorem dX6_putName_43 : decode cX6_putName 43 = .ok (.return_, 1) := by decide +kernel
theorem dX6_putWord_0 : decode cX6_putWord 0 = .ok (.aload_n 0, 1) := by decide +kernel
theorem dX6_putWord_1 : decode cX6_putWord 1 = .ok (.invokevirtual 132, 3) := by decide +kernel
theorem dX6_putWord_4 : decode cX6_putWord 4 = .ok (.iconst 0, 1) := by decide +kernel
theorem dX6_putWord_5 : decode cX6_putWord 5 = .ok (.istore_n 2, 1) := by decide +kernel
theorem dX6_putWord_6 : decode cX6_putWord 6 = .ok (.iload_n 2, 1) := by decide +kernel
theorem dX6_putWord_7 : decode cX6_putWord 7 = .ok (.aload_n 1, 1) := by decide +kernel
theorem dX6_putWord_8 : decode cX6_putWord 8 = .ok (.invokevirtual 148, 3) := by decide +kernel
theorem dX6_putWord_11 : decode cX6_putWord 11 = .ok (.if_icmp .ge 18, 3) := by decide +kernel
theorem dX6_putWord_14 : decode cX6_putWord 14 = .ok (.aload_n 0, 1) := by decide +kernel
theorem dX6_putWord_15 : decode cX6_putWord 15 = .ok (.aload_n 1, 1) := by decide +kernel
theorem dX6_putWord_16 : decode cX6_putWord 16 = .ok (.iload_n 2, 1) := by decide +kernel
theorem dX6_putWord_17 : decode cX6_putWord 17 = .ok (.invokevirtual 137, 3) := by decide +kernel
theorem dX6_putWord_20 : decode cX6_putWord 20 = .ok (.invokevirtual 32, 3) := by decide +kernel
theorem dX6_putWord_23 : decode cX6_putWord 23 = .ok (.iinc 2 1, 3) := by decide +kernel
theorem dX6_putWord_26 : decode cX6_putWord 26 = .ok (.goto (-20), 3) := by decide +kernel
theorem dX6_putWord_29 : decode cX6_putWord 29 = .ok (.return_, 1) := by decide +kernel
theorem dX6_putNumber_0 : decode cX6_putNumber 0 = .ok (.aload_n 0, 1) := by decide +kernel
theorem dX6_putNumber_1 : decode cX6_putNumber 1 = .ok (.invokevirtual 132, 3) := by decide +kernel
theorem dX6_putNumber_4 : decode cX6_putNumber 4 = .ok (.iload_n 1, 1) := by decide +kernel
theorem dX6_putNumber_5 : decode cX6_putNumber 5 = .ok (.bipush 10, 2) := by decide +kernel
theorem dX6_putNumber_7 : decode cX6_putNumber 7 = .ok (.if_icmp .lt 18, 3) := by decide +kernel
theorem dX6_putNumber_10 : decode cX6_putNumber 10 = .ok (.aload_n 0, 1) := by decide +kernel
theorem dX6_putNumber_11 : decode cX6_putNumber 11 = .ok (.bipush 48, 2) := by decide +kernel
theorem dX6_putNumber_13 : decode cX6_putNumber 13 = .ok (.iload_n 1, 1) := by decide +kernel
theorem dX6_putNumber_14 : decode cX6_putNumber 14 = .ok (.bipush 10, 2) := by decide +kernel
theorem dX6_putNumber_16 : decode cX6_putNumber 16 = .ok (.idiv, 1) := by decide +kernel
theorem dX6_putNumber_17 : decode cX6_putNumber 17 = .ok (.bipush 10, 2) := by decide +kernel
theorem dX6_putNumber_19 : decode cX6_putNumber 19 = .ok (.irem, 1) := by decide +kernel
theorem dX6_putNumber_20 : decode cX6_putNumber 20 = .ok (.iadd, 1) := by decide +kernel
theorem dX6_putNumber_21 : decode cX6_putNumber 21 = .ok (.i2c, 1) := by decide +kernel
theorem dX6_putNumber_22 : decode cX6_putNumber 22 = .ok (.invokevirtual 32, 3) := by decide +kernel
theorem dX6_putNumber_25 : decode cX6_putNumber 25 = .ok (.aload_n 0, 1) := by decide +kernel
theorem dX6_putNumber_26 : decode cX6_putNumber 26 = .ok (.bipush 48, 2) := by decide +kernel
theorem dX6_putNumber_28 : decode cX6_putNumber 28 = .ok (.iload_n 1, 1) := by decide +kernel
theorem dX6_putNumber_29 : decode cX6_putNumber 29 = .ok (.bipush 10, 2) := by decide +kernel
theorem dX6_putNumber_31 : decode cX6_putNumber 31 = .ok (.irem, 1) := by decide +kernel
theorem dX6_putNumber_32 : decode cX6_putNumber 32 = .ok (.iadd, 1) := by decide +kernel
theorem dX6_putNumber_33 : decode cX6_putNumber 33 = .ok (.i2c, 1) := by decide +kernel
theorem dX6_putNumber_34 : decode cX6_putNumber 34 = .ok (.invokevirtual 32, 3) := by decide +kernel
theorem dX6_putNumber_37 : decode cX6_putNumber 37 = .ok (.return_, 1) := by decide +kernel
theorem dX6_putBlank_0 : decode cX6_putBlank 0 = .ok (.aload_n 0, 1) := by decide +kernel
theorem dX6_putBlank_1 : decode cX6_putBlank 1 = .ok (.getfield 15, 3) := by decide +kernel
theorem dX6_putBlank_4 : decode cX6_putBlank 4 = .ok (.ifCond .le 43, 3) := by decide +kernel
theorem dX6_putBlank_7 : decode cX6_putBlank 7 = .ok (.aload_n 0, 1) := by decide +kernel
theorem dX6_putBlank_8 : decode cX6_putBlank 8 = .ok (.getfield 9, 3) := by decide +kernel
theorem dX6_putBlank_11 : decode cX6_putBlank 11 = .ok (.aload_n 0, 1) := by decide +kernel
theorem dX6_putBlank_12 : decode cX6_putBlank 12 = .ok (.getfield 15, 3) := by decide +kernel
theorem dX6_putBlank_15 : decode cX6_putBlank 15 = .ok (.iconst 1, 1) := by decide +kernel
theorem dX6_putBlank_16 : decode cX6_putBlank 16 = .ok (.isub, 1) := by decide +kernel
theorem dX6_putBlank_17 : decode cX6_putBlank 17 = .ok (.baload, 1) := by decide +kernel
theorem dX6_putBlank_18 : decode cX6_putBlank 18 = .ok (.invokestatic 151, 3) := by decide +kernel
theorem dX6_putBlank_21 : decode cX6_putBlank 21 = .ok (.ifCond .ne 20, 3) := by decide +kernel
theorem dX6_putBlank_24 : decode cX6_putBlank 24 = .ok (.aload_n 0, 1) := by decide +kernel
theorem dX6_putBlank_25 : decode cX6_putBlank 25 = .ok (.getfield 9, 3) := by decide +kernel
theorem dX6_putBlank_28 : decode cX6_putBlank 28 = .ok (.aload_n 0, 1) := by decide +kernel
theorem dX6_putBlank_29 : decode cX6_putBlank 29 = .ok (.getfield 15, 3) := by decide +kernel
theorem dX6_putBlank_32 : decode cX6_putBlank 32 = .ok (.iconst 1, 1) := by decide +kernel
theorem dX6_putBlank_33 : decode cX6_putBlank 33 = .ok (.isub, 1) := by decide +kernel
theorem dX6_putBlank_34 : decode cX6_putBlank 34 = .ok (.baload, 1) := by decide +kernel
theorem dX6_putBlank_35 : decode cX6_putBlank 35 = .ok (.invokestatic 155, 3) := by decide +kernel
theorem dX6_putBlank_38 : decode cX6_putBlank 38 = .ok (.ifCond .eq 9, 3) := by decide +kernel
theorem dX6_putBlank_41 : decode cX6_putBlank 41 = .ok (.aload_n 0, 1) := by decide +kernel
theorem dX6_putBlank_42 : decode cX6_putBlank 42 = .ok (.bipush 32, 2) := by decide +kernel
theorem dX6_putBlank_44 : decode cX6_putBlank 44 = .ok (.invokevirtual 32, 3) := by decide +kernel
theorem dX6_putBlank_47 : decode cX6_putBlank 47 = .ok (.return_, 1) := by decide +kernel
theorem dX6_putSign_0 : decode cX6_putSign 0 = .ok (.aload_n 0, 1) := by decide +kernel
theorem dX6_putSign_1 : decode cX6_putSign 1 = .ok (.getfield 15, 3) := by decide +kernel
theorem dX6_putSign_4 : decode cX6_putSign 4 = .ok (.sipush 2400, 3) := by decide +kernel
theorem dX6_putSign_7 : decode cX6_putSign 7 = .ok (.if_icmp .ge 24, 3) := by decide +kernel
theorem dX6_putSign_10 : decode cX6_putSign 10 = .ok (.aload_n 0, 1) := by decide +kernel
theorem dX6_putSign_11 : decode cX6_putSign 11 = .ok (.getfield 9, 3) := by decide +kernel
theorem dX6_putSign_14 : decode cX6_putSign 14 = .ok (.aload_n 0, 1) := by decide +kernel
theorem dX6_putSign_15 : decode cX6_putSign 15 = .ok (.getfield 15, 3) := by decide +kernel
theorem dX6_putSign_18 : decode cX6_putSign 18 = .ok (.iload_n 1, 1) := by decide +kernel
theorem dX6_putSign_19 : decode cX6_putSign 19 = .ok (.i2b, 1) := by decide +kernel
theorem dX6_putSign_20 : decode cX6_putSign 20 = .ok (.bastore, 1) := by decide +kernel
theorem dX6_putSign_21 : decode cX6_putSign 21 = .ok (.aload_n 0, 1) := by decide +kernel
theorem dX6_putSign_22 : decode cX6_putSign 22 = .ok (.dup, 1) := by decide +kernel
theorem dX6_putSign_23 : decode cX6_putSign 23 = .ok (.getfield 15, 3) := by decide +kernel
theorem dX6_putSign_26 : decode cX6_putSign 26 = .ok (.iconst 1, 1) := by decide +kernel
theorem dX6_putSign_27 : decode cX6_putSign 27 = .ok (.iadd, 1) := by decide +kernel
theorem dX6_putSign_28 : decode cX6_putSign 28 = .ok (.putfield 15, 3) := by decide +kernel
theorem dX6_putSign_31 : decode cX6_putSign 31 = .ok (.return_, 1) := by decide +kernel
theorem dX7_init_0 : decode cX7_init 0 = .ok (.aload_n 0, 1) := by decide +kernel
theorem dX7_init_1 : decode cX7_init 1 = .ok (.invokespecial 1, 3) := by decide +kernel
theorem dX7_init_4 : decode cX7_init 4 = .ok (.aload_n 0, 1) := by decide +kernel
theorem dX7_init_5 : decode cX7_init 5 = .ok (.sipush 1200, 3) := by decide +kernel
theorem dX7_init_8 : decode cX7_init 8 = .ok (.newarray .byte, 2) := by decide +kernel
theorem dX7_init_10 : decode cX7_init 10 = .ok (.putfield 9, 3) := by decide +kernel
theorem dX7_init_13 : decode cX7_init 13 = .ok (.aload_n 0, 1) := by decide +kernel
theorem dX7_init_14 : decode cX7_init 14 = .ok (.iconst 0, 1) := by decide +kernel
theorem dX7_init_15 : decode cX7_init 15 = .ok (.putfield 13, 3) := by decide +kernel
theorem dX7_init_18 : decode cX7_init 18 = .ok (.aload_n 0, 1) := by decide +kernel
theorem dX7_init_19 : decode cX7_init 19 = .ok (.new 17, 3) := by decide +kernel
theorem dX7_init_22 : decode cX7_init 22 = .ok (.dup, 1) := by decide +kernel
theorem dX7_init_23 : decode cX7_init 23 = .ok (.invokespecial 19, 3) := by decide +kernel
theorem dX7_init_26 : decode cX7_init 26 = .ok (.putfield 20, 3) := by decide +kernel
theorem dX7_init_29 : decode cX7_init 29 = .ok (.aload_n 0, 1) := by decide +kernel
theorem dX7_init_30 : decode cX7_init 30 = .ok (.new 24, 3) := by decide +kernel
theorem dX7_init_33 : decode cX7_init 33 = .ok (.dup, 1) := by decide +kernel
theorem dX7_init_34 : decode cX7_init 34 = .ok (.invokespecial 26, 3) := by decide +kernel
theorem dX7_init_37 : decode cX7_init 37 = .ok (.putfield 27, 3) := by decide +kernel
theorem dX7_init_40 : decode cX7_init 40 = .ok (.aload_n 0, 1) := by decide +kernel
theorem dX7_init_41 : decode cX7_init 41 = .ok (.bipush 10, 2) := by decide +kernel
theorem dX7_init_43 : decode cX7_init 43 = .ok (.anewarray 17, 3) := by decide +kernel
theorem dX7_init_46 : decode cX7_init 46 = .ok (.putfield 31, 3) := by decide +kernel
theorem dX7_init_49 : decode cX7_init 49 = .ok (.aload_n 0, 1) := by decide +kernel
theorem dX7_init_50 : decode cX7_init 50 = .ok (.iconst 0, 1) := by decide +kernel
theorem dX7_init_51 : decode cX7_init 51 = .ok (.putfield 35, 3) := by decide +kernel
theorem dX7_init_54 : decode cX7_init 54 = .ok (.aload_n 0, 1) := by decide +kernel
theorem dX7_init_55 : decode cX7_init 55 = .ok (.new 38, 3) := by decide +kernel
theorem dX7_init_58 : decode cX7_init 58 = .ok (.dup, 1) := by decide +kernel
theorem dX7_init_59 : decode cX7_init 59 = .ok (.invokespecial 40, 3) := by decide +kernel
theorem dX7_init_62 : decode cX7_init 62 = .ok (.putfield 41, 3) := by decide +kernel
theorem dX7_init_65 : decode cX7_init 65 = .ok (.aload_n 0, 1) := by decide +kernel
theorem dX7_init_66 : decode cX7_init 66 = .ok (.iconst 0, 1) := by decide +kernel
theorem dX7_init_67 : decode cX7_init 67 = .ok (.putfield 45, 3) := by decide +kernel
theorem dX7_init_70 : decode cX7_init 70 = .ok (.aload_n 0, 1) := by decide +kernel
theorem dX7_init_71 : decode cX7_init 71 = .ok (.iconst (-1), 1) := by decide +kernel
theorem dX7_init_72 : decode cX7_init 72 = .ok (.putfield 48, 3) := by decide +kernel
theorem dX7_init_75 : decode cX7_init 75 = .ok (.aload_n 0, 1) := by decide +kernel
theorem dX7_init_76 : decode cX7_init 76 = .ok (.new 51, 3) := by decide +kernel
theorem dX7_init_79 : decode cX7_init 79 = .ok (.dup, 1) := by decide +kernel
theorem dX7_init_80 : decode cX7_init 80 = .ok (.invokespecial 53, 3) := by decide +kernel
theorem dX7_init_83 : decode cX7_init 83 = .ok (.putfield 54, 3) := by decide +kernel
theorem dX7_init_86 : decode cX7_init 86 = .ok (.aload_n 0, 1) := by decide +kernel
theorem dX7_init_87 : decode cX7_init 87 = .ok (.new 58, 3) := by decide +kernel
theorem dX7_init_90 : decode cX7_init 90 = .ok (.dup, 1) := by decide +kernel
theorem dX7_init_91 : decode cX7_init 91 = .ok (.invokespecial 60, 3) := by decide +kernel
theorem dX7_init_94 : decode cX7_init 94 = .ok (.putfield 61, 3) := by decide +kernel
theorem dX7_init_97 : decode cX7_init 97 = .ok (.iconst 0, 1) := by decide +kernel
theorem dX7_init_98 : decode cX7_init 98 = .ok (.istore_n 1, 1) := by decide +kernel
theorem dX7_init_99 : decode cX7_init 99 = .ok (.iload_n 1, 1) := by decide +kernel
theorem dX7_init_100 : decode cX7_init 100 = .ok (.bipush 10, 2) := by decide +kernel
theorem dX7_init_102 : decode cX7_init 102 = .ok (.if_icmp .ge 22, 3) := by decide +kernel
theorem dX7_init_105 : decode cX7_init 105 = .ok (.aload_n 0, 1) := by decide +kernel
theorem dX7_init_106 : decode cX7_init 106 = .ok (.getfield 31, 3) := by decide +kernel
theorem dX7_init_109 : decode cX7_init 109 = .ok (.iload_n 1, 1) := by decide +kernel
theorem dX7_init_110 : decode cX7_init 110 = .ok (.new 17, 3) := by decide +kernel
theorem dX7_init_113 : decode cX7_init 113 = .ok (.dup, 1) := by decide +kernel
theorem dX7_init_114 : decode cX7_init 114 = .ok (.invokespecial 19, 3) := by decide +kernel
theorem dX7_init_117 : decode cX7_init 117 = .ok (.aastore, 1) := by decide +kernel
theorem dX7_init_118 : decode cX7_init 118 = .ok (.iinc 1 1, 3) := by decide +kernel
theorem dX7_init_121 : decode cX7_init 121 = .ok (.goto (-22), 3) := by decide +kernel
theorem dX7_init_124 : decode cX7_init 124 = .ok (.return_, 1) := by decide +kernel
theorem dX7_feed_0 : decode cX7_feed 0 = .ok (.aload_n 0, 1) := by decide +kernel
theorem dX7_feed_1 : decode cX7_feed 1 = .ok (.getfield 13, 3) := by decide +kernel
theorem dX7_feed_4 : decode cX7_feed 4 = .ok (.bipush 20, 2) := by decide +kernel
theorem dX7_feed_6 : decode cX7_feed 6 = .ok (.iadd, 1) := by decide +kernel
theorem dX7_feed_7 : decode cX7_feed 7 = .ok (.sipush 1200, 3) := by decide +kernel
theorem dX7_feed_10 : decode cX7_feed 10 = .ok (.if_icmp .le 5, 3) := by decide +kernel
theorem dX7_feed_13 : decode cX7_feed 13 = .ok (.iconst (-1), 1) := by decide +kernel
theorem dX7_feed_14 : decode cX7_feed 14 = .ok (.ireturn, 1) := by decide +kernel
theorem dX7_feed_15 : decode cX7_feed 15 = .ok (.aload_n 0, 1) := by decide +kernel
theorem dX7_feed_16 : decode cX7_feed 16 = .ok (.iload_n 1, 1) := by decide +kernel
theorem dX7_feed_17 : decode cX7_feed 17 = .ok (.invokevirtual 65, 3) := by decide +kernel
theorem dX7_feed_20 : decode cX7_feed 20 = .ok (.aload_n 0, 1) := by decide +kernel
theorem dX7_feed_21 : decode cX7_feed 21 = .ok (.iload_n 2, 1) := by decide +kernel
theorem dX7_feed_22 : decode cX7_feed 22 = .ok (.invokevirtual 65, 3) := by decide +kernel
theorem dX7_feed_25 : decode cX7_feed 25 = .ok (.aload_n 0, 1) := by decide +kernel
theorem dX7_feed_26 : decode cX7_feed 26 = .ok (.iload_n 3, 1) := by decide +kernel
theorem dX7_feed_27 : decode cX7_feed 27 = .ok (.invokevirtual 65, 3) := by decide +kernel
theorem dX7_feed_30 : decode cX7_feed 30 = .ok (.aload_n 0, 1) := by decide +kernel
theorem dX7_feed_31 : decode cX7_feed 31 = .ok (.iload 4, 2) := by decide +kernel
theorem dX7_feed_33 : decode cX7_feed 33 = .ok (.invokevirtual 65, 3) := by decide +kernel
theorem dX7_feed_36 : decode cX7_feed 36 = .ok (.aload_n 0, 1) := by decide +kernel
theorem dX7_feed_37 : decode cX7_feed 37 = .ok (.iload 5, 2) := by decide +kernel
theorem dX7_feed_39 : decode cX7_feed 39 = .ok (.invokevirtual 65, 3) := by decide +kernel
theorem dX7_feed_42 : decode cX7_feed 42 = .ok (.aload_n 0, 1) := by decide +kernel
theorem dX7_feed_43 : decode cX7_feed 43 = .ok (.getfield 13, 3) := by decide +kernel
theorem dX7_feed_46 : decode cX7_feed 46 = .ok (.ireturn, 1) := by decide +kernel
theorem dX7_end_0 : decode cX7_end 0 = .ok (.iload_n 1, 1) := by decide +kernel
theorem dX7_end_1 : decode cX7_end 1 = .ok (.ifCond .lt 11, 3) := by decide +kernel
theorem dX7_end_4 : decode cX7_end 4 = .ok (.iload_n 1, 1) := by decide +kernel
theorem dX7_end_5 : decode cX7_end 5 = .ok (.aload_n 0, 1) := by decide +kernel
theorem dX7_end_6 : decode cX7_end 6 = .ok (.getfield 13, 3) := by decide +kernel
theorem dX7_end_9 : decode cX7_end 9 = .ok (.if_icmp .le 5, 3) := by decide +kernel
theorem dX7_end_12 : decode cX7_end 12 = .ok (.iconst (-1), 1) := by decide +kernel
theorem dX7_end_13 : decode cX7_end 13 = .ok (.ireturn, 1) := by decide +kernel
theorem dX7_end_14 : decode cX7_end 14 = .ok (.aload_n 0, 1) := by decide +kernel
theorem dX7_end_15 : decode cX7_end 15 = .ok (.iload_n 1, 1) := by decide +kernel
theorem dX7_end_16 : decode cX7_end 16 = .ok (.putfield 13, 3) := by decide +kernel
theorem dX7_end_19 : decode cX7_end 19 = .ok (.iload_n 1, 1) := by decide +kernel
theorem dX7_end_20 : decode cX7_end 20 = .ok (.ireturn, 1) := by decide +kernel
theorem dX7_text_0 : decode cX7_text 0 = .ok (.aload_n 0, 1) := by decide +kernel
theorem dX7_text_1 : decode cX7_text 1 = .ok (.getfield 41, 3) := by decide +kernel
theorem dX7_text_4 : decode cX7_text 4 = .ok (.aload_n 0, 1) := by decide +kernel
theorem dX7_text_5 : decode cX7_text 5 = .ok (.getfield 9, 3) := by decide +kernel
theorem dX7_text_8 : decode cX7_text 8 = .ok (.aload_n 0, 1) := by decide +kernel
theorem dX7_text_9 : decode cX7_text 9 = .ok (.getfield 13, 3) := by decide +kernel
theorem dX7_text_12 : decode cX7_text 12 = .ok (.invokevirtual 69, 3) := by decide +kernel
theorem dX7_text_15 : decode cX7_text 15 = .ok (.istore_n 1, 1) := by decide +kernel
theorem dX7_text_16 : decode cX7_text 16 = .ok (.aload_n 0, 1) := by decide +kernel
theorem dX7_text_17 : decode cX7_text 17 = .ok (.iconst 0, 1) := by decide +kernel
theorem dX7_text_18 : decode cX7_text 18 = .ok (.putfield 13, 3) := by decide +kernel
theorem dX7_text_21 : decode cX7_text 21 = .ok (.aload_n 0, 1) := by decide +kernel
theorem dX7_text_22 : decode cX7_text 22 = .ok (.aload_n 0, 1) := by decide +kernel
theorem dX7_text_23 : decode cX7_text 23 = .ok (.getfield 41, 3) := by decide +kernel
theorem dX7_text_26 : decode cX7_text 26 = .ok (.getfield 73, 3) := by decide +kernel
theorem dX7_text_29 : decode cX7_text 29 = .ok (.putfield 45, 3) := by decide +kernel
theorem dX7_text_32 : decode cX7_text 32 = .ok (.aload_n 0, 1) := by decide +kernel
theorem dX7_text_33 : decode cX7_text 33 = .ok (.aload_n 0, 1) := by decide +kernel
theorem dX7_text_34 : decode cX7_text 34 = .ok (.getfield 41, 3) := by decide +kernel
theorem dX7_text_37 : decode cX7_text 37 = .ok (.getfield 76, 3) := by decide +kernel
theorem dX7_text_40 : decode cX7_text 40 = .ok (.putfield 48, 3) := by decide +kernel
theorem dX7_text_43 : decode cX7_text 43 = .ok (.iload_n 1, 1) := by decide +kernel
theorem dX7_text_44 : decode cX7_text 44 = .ok (.ifCond .ne 6, 3) := by decide +kernel
theorem dX7_text_47 : decode cX7_text 47 = .ok (.bipush (-4), 2) := by decide +kernel
theorem dX7_text_49 : decode cX7_text 49 = .ok (.ireturn, 1) := by decide +kernel
theorem dX7_text_50 : decode cX7_text 50 = .ok (.aload_n 0, 1) := by decide +kernel
theorem dX7_text_51 : decode cX7_text 51 = .ok (.getfield 20, 3) := by decide +kernel
theorem dX7_text_54 : decode cX7_text 54 = .ok (.aload_n 0, 1) := by decide +kernel
theorem dX7_text_55 : decode cX7_text 55 = .ok (.getfield 41, 3) := by decide +kernel
theorem dX7_text_58 : decode cX7_text 58 = .ok (.getfield 79, 3) := by decide +kernel
theorem dX7_text_61 : decode cX7_text 61 = .ok (.invokevirtual 80, 3) := by decide +kernel
theorem dX7_text_64 : decode cX7_text 64 = .ok (.aload_n 0, 1) := by decide +kernel
theorem dX7_text_65 : decode cX7_text 65 = .ok (.getfield 27, 3) := by decide +kernel
theorem dX7_text_68 : decode cX7_text 68 = .ok (.aload_n 0, 1) := by decide +kernel
theorem dX7_text_69 : decode cX7_text 69 = .ok (.getfield 41, 3) := by decide +kernel
theorem dX7_text_72 : decode cX7_text 72 = .ok (.getfield 84, 3) := by decide +kernel
theorem dX7_text_75 : decode cX7_text 75 = .ok (.invokevirtual 85, 3) := by decide +kernel
theorem dX7_text_78 : decode cX7_text 78 = .ok (.aload_n 0, 1) := by decide +kernel
theorem dX7_text_79 : decode cX7_text 79 = .ok (.iconst 0, 1) := by decide +kernel
theorem dX7_text_80 : decode cX7_text 80 = .ok (.putfield 35, 3) := by decide +kernel
theorem dX7_text_83 : decode cX7_text 83 = .ok (.aload_n 0, 1) := by decide +kernel
theorem dX7_text_84 : decode cX7_text 84 = .ok (.getfield 41, 3) := by decide +kernel
theorem dX7_text_87 : decode cX7_text 87 = .ok (.getfield 88, 3) := by decide +kernel
theorem dX7_text_90 : decode cX7_text 90 = .ok (.ireturn, 1) := by decide +kernel
theorem dX7_fault_0 : decode cX7_fault 0 = .ok (.iload_n 1, 1) := by decide +kernel
theorem dX7_fault_1 : decode cX7_fault 1 = .ok (.ifCond .ne 8, 3) := by decide +kernel
theorem dX7_fault_4 : decode cX7_fault 4 = .ok (.aload_n 0, 1) := by decide +kernel
theorem dX7_fault_5 : decode cX7_fault 5 = .ok (.getfield 45, 3) := by decide +kernel
theorem dX7_fault_8 : decode cX7_fault 8 = .ok (.ireturn, 1) := by decide +kernel
theorem dX7_fault_9 : decode cX7_fault 9 = .ok (.iload_n 1, 1) := by decide +kernel
theorem dX7_fault_10 : decode cX7_fault 10 = .ok (.iconst 1, 1) := by decide +kernel
theorem dX7_fault_11 : decode cX7_fault 11 = .ok (.if_icmp .ne 10, 3) := by decide +kernel
theorem dX7_fault_14 : decode cX7_fault 14 = .ok (.aload_n 0, 1) := by decide +kernel
theorem dX7_fault_15 : decode cX7_fault 15 = .ok (.getfield 48, 3) := by decide +kernel
theorem dX7_fault_18 : decode cX7_fault 18 = .ok (.goto 4, 3) := by decide +kernel
theorem dX7_fault_21 : decode cX7_fault 21 = .ok (.iconst (-1), 1) := by decide +kernel
theorem dX7_fault_22 : decode cX7_fault 22 = .ok (.ireturn, 1) := by decide +kernel
theorem dX7_count_0 : decode cX7_count 0 = .ok (.iload_n 1, 1) := by decide +kernel
theorem dX7_count_1 : decode cX7_count 1 = .ok (.tableswitch 105 0 7 #[47, 55, 63, 71, 79, 87, 95, 100], 47) := by decide +kernel
theorem dX7_count_48 : decode cX7_count 48 = .ok (.aload_n 0, 1) := by decide +kernel
theorem dX7_count_49 : decode cX7_count 49 = .ok (.getfield 20, 3) := by decide +kernel
theorem dX7_count_52 : decode cX7_count 52 = .ok (.getfield 91, 3) := by decide +kernel
theorem dX7_count_55 : decode cX7_count 55 = .ok (.ireturn, 1) := by decide +kernel
theorem dX7_count_56 : decode cX7_count 56 = .ok (.aload_n 0, 1) := by decide +kernel
theorem dX7_count_57 : decode cX7_count 57 = .ok (.getfield 27, 3) := by decide +kernel
theorem dX7_count_60 : decode cX7_count 60 = .ok (.getfield 94, 3) := by decide +kernel
theorem dX7_count_63 : decode cX7_count 63 = .ok (.ireturn, 1) := by decide +kernel
theorem dX7_count_64 : decode cX7_count 64 = .ok (.aload_n 0, 1) := by decide +kernel
theorem dX7_count_65 : decode cX7_count 65 = .ok (.getfield 20, 3) := by decide +kernel
theorem dX7_count_68 : decode cX7_count 68 = .ok (.getfield 97, 3) := by decide +kernel
theorem dX7_count_71 : decode cX7_count 71 = .ok (.ireturn, 1) := by decide +kernel
theorem dX7_count_72 : decode cX7_count 72 = .ok (.aload_n 0, 1) := by decide +kernel
theorem dX7_count_73 : decode cX7_count 73 = .ok (.getfield 20, 3) := by decide +kernel
theorem dX7_count_76 : decode cX7_count 76 = .ok (.getfield 100, 3) := by decide +kernel
theorem dX7_count_79 : decode cX7_count 79 = .ok (.ireturn, 1) := by decide +kernel
theorem dX7_count_80 : decode cX7_count 80 = .ok (.aload_n 0, 1) := by decide +kernel
theorem dX7_count_81 : decode cX7_count 81 = .ok (.getfield 20, 3) := by decide +kernel
theorem dX7_count_84 : decode cX7_count 84 = .ok (.getfield 103, 3) := by decide +kernel
theorem dX7_count_87 : decode cX7_count 87 = .ok (.ireturn, 1) := by decide +kernel
theorem dX7_count_88 : decode cX7_count 88 = .ok (.aload_n 0, 1) := by decide +kernel
theorem dX7_count_89 : decode cX7_count 89 = .ok (.getfield 20, 3) := by decide +kernel
theorem dX7_count_92 : decode cX7_count 92 = .ok (.getfield 106, 3) := by decide +kernel
theorem dX7_count_95 : decode cX7_count 95 = .ok (.ireturn, 1) := by decide +kernel
theorem dX7_count_96 : decode cX7_count 96 = .ok (.aload_n 0, 1) := by decide +kernel
theorem dX7_count_97 : decode cX7_count 97 = .ok (.getfield 35, 3) := by decide +kernel
theorem dX7_count_100 : decode cX7_count 100 = .ok (.ireturn, 1) := by decide +kernel
theorem dX7_count_101 : decode cX7_count 101 = .ok (.aload_n 0, 1) := by decide +kernel
theorem dX7_count_102 : decode cX7_count 102 = .ok (.getfield 13, 3) := by decide +kernel
theorem dX7_count_105 : decode cX7_count 105 = .ok (.ireturn, 1) := by decide +kernel
theorem dX7_count_106 : decode cX7_count 106 = .ok (.iconst (-1), 1) := by decide +kernel
theorem dX7_count_107 : decode cX7_count 107 = .ok (.ireturn, 1) := by decide +kernel
theorem dX7_letter_0 : decode cX7_letter 0 = .ok (.aload_n 0, 1) := by decide +kernel
theorem dX7_letter_1 : decode cX7_letter 1 = .ok (.iload_n 1, 1) := by decide +kernel
theorem dX7_letter_2 : decode cX7_letter 2 = .ok (.invokevirtual 109, 3) := by decide +kernel
theorem dX7_letter_5 : decode cX7_letter 5 = .ok (.ifCond .eq 12, 3) := by decide +kernel
theorem dX7_letter_8 : decode cX7_letter 8 = .ok (.iload_n 2, 1) := by decide +kernel
theorem dX7_letter_9 : decode cX7_letter 9 = .ok (.iconst 0, 1) := by decide +kernel
theorem dX7_letter_10 : decode cX7_letter 10 = .ok (.iconst 5, 1) := by decide +kernel
theorem dX7_letter_11 : decode cX7_letter 11 = .ok (.invokestatic 113, 3) := by decide +kernel
theorem dX7_letter_14 : decode cX7_letter 14 = .ok (.ifCond .ne 6, 3) := by decide +kernel
theorem dX7_letter_17 : decode cX7_letter 17 = .ok (.bipush (-2), 2) := by decide +kernel
theorem dX7_letter_19 : decode cX7_letter 19 = .ok (.ireturn, 1) := by decide +kernel
theorem dX7_letter_20 : decode cX7_letter 20 = .ok (.aload_n 0, 1) := by decide +kernel
theorem dX7_letter_21 : decode cX7_letter 21 = .ok (.getfield 27, 3) := by decide +kernel
theorem dX7_letter_24 : decode cX7_letter 24 = .ok (.iload_n 1, 1) := by decide +kernel
theorem dX7_letter_25 : decode cX7_letter 25 = .ok (.iload_n 2, 1) := by decide +kernel
theorem dX7_letter_26 : decode cX7_letter 26 = .ok (.invokevirtual 117, 3) := by decide +kernel
theorem dX7_letter_29 : decode cX7_letter 29 = .ok (.ireturn, 1) := by decide +kernel
theorem dX7_find_0 : decode cX7_find 0 = .ok (.aload_n 0, 1) := by decide +kernel
theorem dX7_find_1 : decode cX7_find 1 = .ok (.getfield 13, 3) := by decide +kernel
theorem dX7_find_4 : decode cX7_find 4 = .ok (.istore_n 1, 1) := by decide +kernel
theorem dX7_find_5 : decode cX7_find 5 = .ok (.aload_n 0, 1) := by decide +kernel
theorem dX7_find_6 : decode cX7_find 6 = .ok (.iconst 0, 1) := by decide +kernel
theorem dX7_find_7 : decode cX7_find 7 = .ok (.putfield 13, 3) := by decide +kernel
theorem dX7_find_10 : decode cX7_find 10 = .ok (.aload_n 0, 1) := by decide +kernel
theorem dX7_find_11 : decode cX7_find 11 = .ok (.invokevirtual 121, 3) := by decide +kernel
theorem dX7_find_14 : decode cX7_find 14 = .ok (.ifCond .eq 13, 3) := by decide +kernel
theorem dX7_find_17 : decode cX7_find 17 = .ok (.iload_n 1, 1) := by decide +kernel
theorem dX7_find_18 : decode cX7_find 18 = .ok (.iconst 1, 1) := by decide +kernel
theorem dX7_find_19 : decode cX7_find 19 = .ok (.bipush 6, 2) := by decide +kernel
theorem dX7_find_21 : decode cX7_find 21 = .ok (.invokestatic 113, 3) := by decide +kernel
theorem dX7_find_24 : decode cX7_find 24 = .ok (.ifCond .ne 6, 3) := by decide +kernel
theorem dX7_find_27 : decode cX7_find 27 = .ok (.bipush (-2), 2) := by decide +kernel
theorem dX7_find_29 : decode cX7_find 29 = .ok (.ireturn, 1) := by decide +kernel
theorem dX7_find_30 : decode cX7_find 30 = .ok (.iconst 0, 1) := by decide +kernel
theorem dX7_find_31 : decode cX7_find 31 = .ok (.istore_n 2, 1) := by decide +kernel
theorem dX7_find_32 : decode cX7_find 32 = .ok (.iload_n 2, 1) := by decide +kernel
theorem dX7_find_33 : decode cX7_find 33 = .ok (.iload_n 1, 1) := by decide +kernel
theorem dX7_find_34 : decode cX7_find 34 = .ok (.if_icmp .ge 24, 3) := by decide +kernel
theorem dX7_find_37 : decode cX7_find 37 = .ok (.aload_n 0, 1) := by decide +kernel
theorem dX7_find_38 : decode cX7_find 38 = .ok (.getfield 9, 3) := by decide +kernel
theorem dX7_find_41 : decode cX7_find 41 = .ok (.iload_n 2, 1) := by decide +kernel
theorem dX7_find_42 : decode cX7_find 42 = .ok (.baload, 1) := by decide +kernel
theorem dX7_find_43 : decode cX7_find 43 = .ok (.invokestatic 125, 3) := by decide +kernel
theorem dX7_find_46 : decode cX7_find 46 = .ok (.ifCond .ne 6, 3) := by decide +kernel
theorem dX7_find_49 : decode cX7_find 49 = .ok (.bipush (-2), 2) := by decide +kernel
theorem dX7_find_51 : decode cX7_find 51 = .ok (.ireturn, 1) := by decide +kernel
theorem dX7_find_52 : decode cX7_find 52 = .ok (.iinc 2 1, 3) := by decide +kernel
theorem dX7_find_55 : decode cX7_find 55 = .ok (.goto (-23), 3) := by decide +kernel
theorem dX7_find_58 : decode cX7_find 58 = .ok (.aload_n 0, 1) := by decide +kernel
theorem dX7_find_59 : decode cX7_find 59 = .ok (.getfield 27, 3) := by decide +kernel
theorem dX7_find_62 : decode cX7_find 62 = .ok (.aload_n 0, 1) := by decide +kernel
theorem dX7_find_63 : decode cX7_find 63 = .ok (.getfield 9, 3) := by decide +kernel
theorem dX7_find_66 : decode cX7_find 66 = .ok (.iconst 0, 1) := by decide +kernel
theorem dX7_find_67 : decode cX7_find 67 = .ok (.iload_n 1, 1) := by decide +kernel
theorem dX7_find_68 : decode cX7_find 68 = .ok (.invokevirtual 128, 3) := by decide +kernel
theorem dX7_find_71 : decode cX7_find 71 = .ok (.ireturn, 1) := by decide +kernel
theorem dX7_series_0 : decode cX7_series 0 = .ok (.aload_n 0, 1) := by decide +kernel
theorem dX7_series_1 : decode cX7_series 1 = .ok (.iload_n 1, 1) := by decide +kernel
theorem dX7_series_2 : decode cX7_series 2 = .ok (.invokevirtual 132, 3) := by decide +kernel
theorem dX7_series_5 : decode cX7_series 5 = .ok (.ifCond .ne 6, 3) := by decide +kernel
theorem dX7_series_8 : decode cX7_series 8 = .ok (.bipush (-2), 2) := by decide +kernel
theorem dX7_series_10 : decode cX7_series 10 = .ok (.ireturn, 1) := by decide +kernel
theorem dX7_series_11 : decode cX7_series 11 = .ok (.aload_n 0, 1) := by decide +kernel
theorem dX7_series_12 : decode cX7_series 12 = .ok (.getfield 20, 3) := by decide +kernel
theorem dX7_series_15 : decode cX7_series 15 = .ok (.getfield 135, 3) := by decide +kernel
theorem dX7_series_18 : decode cX7_series 18 = .ok (.iload_n 1, 1) := by decide +kernel
theorem dX7_series_19 : decode cX7_series 19 = .ok (.aaload, 1) := by decide +kernel
theorem dX7_series_20 : decode cX7_series 20 = .ok (.astore_n 3, 1) := by decide +kernel
theorem dX7_series_21 : decode cX7_series 21 = .ok (.iload_n 2, 1) := by decide +kernel
theorem dX7_series_22 : decode cX7_series 22 = .ok (.tableswitch 76 0 5 #[38, 43, 48, 53, 58, 71], 38) := by decide +kernel
theorem dX7_series_60 : decode cX7_series 60 = .ok (.aload_n 3, 1) := by decide +kernel
theorem dX7_series_61 : decode cX7_series 61 = .ok (.getfield 139, 3) := by decide +kernel
theorem dX7_series_64 : decode cX7_series 64 = .ok (.ireturn, 1) := by decide +kernel
theorem dX7_series_65 : decode cX7_series 65 = .ok (.aload_n 3, 1) := by decide +kernel
theorem dX7_series_66 : decode cX7_series 66 = .ok (.getfield 144, 3) := by decide +kernel
theorem dX7_series_69 : decode cX7_series 69 = .ok (.ireturn, 1) := by decide +kernel
theorem dX7_series_70 : decode cX7_series 70 = .ok (.aload_n 3, 1) := by decide +kernel
theorem dX7_series_71 : decode cX7_series 71 = .ok (.getfield 147, 3) := by decide +kernel
theorem dX7_series_74 : decode cX7_series 74 = .ok (.ireturn, 1) := by decide +kernel
theorem dX7_series_75 : decode cX7_series 75 = .ok (.aload_n 3, 1) := by decide +kernel
theorem dX7_series_76 : decode cX7_series 76 = .ok (.getfield 150, 3) := by decide +kernel
theorem dX7_series_79 : decode cX7_series 79 = .ok (.ireturn, 1) := by decide +kernel
theorem dX7_series_80 : decode cX7_series 80 = .ok (.aload_n 3, 1) := by decide +kernel
theorem dX7_series_81 : decode cX7_series 81 = .ok (.getfield 153, 3) := by decide +kernel
theorem dX7_series_84 : decode cX7_series 84 = .ok (.ifCond .eq 7, 3) := by decide +kernel
theorem dX7_series_87 : decode cX7_series 87 = .ok (.iconst 1, 1) := by decide +kernel
theorem dX7_series_88 : decode cX7_series 88 = .ok (.goto 4, 3) := by decide +kernel
theorem dX7_series_91 : decode cX7_series 91 = .ok (.iconst 0, 1) := by decide +kernel
theorem dX7_series_92 : decode cX7_series 92 = .ok (.ireturn, 1) := by decide +kernel
theorem dX7_series_93 : decode cX7_series 93 = .ok (.aload_n 3, 1) := by decide +kernel
theorem dX7_series_94 : decode cX7_series 94 = .ok (.getfield 157, 3) := by decide +kernel
theorem dX7_series_97 : decode cX7_series 97 = .ok (.ireturn, 1) := by decide +kernel
theorem dX7_series_98 : decode cX7_series 98 = .ok (.bipush (-2), 2) := by decide +kernel
theorem dX7_series_100 : decode cX7_series 100 = .ok (.ireturn, 1) := by decide +kernel
theorem dX7_weeks_0 : decode cX7_weeks 0 = .ok (.aload_n 0, 1) := by decide +kernel
theorem dX7_weeks_1 : decode cX7_weeks 1 = .ok (.iload_n 1, 1) := by decide +kernel
theorem dX7_weeks_2 : decode cX7_weeks 2 = .ok (.invokevirtual 132, 3) := by decide +kernel
theorem dX7_weeks_5 : decode cX7_weeks 5 = .ok (.ifCond .eq 10, 3) := by decide +kernel
theorem dX7_weeks_8 : decode cX7_weeks 8 = .ok (.iload_n 2, 1) := by decide +kernel
theorem dX7_weeks_9 : decode cX7_weeks 9 = .ok (.invokestatic 160, 3) := by decide +kernel
theorem dX7_weeks_12 : decode cX7_weeks 12 = .ok (.ifCond .ne 6, 3) := by decide +kernel
theorem dX7_weeks_15 : decode cX7_weeks 15 = .ok (.bipush (-2), 2) := by decide +kernel
theorem dX7_weeks_17 : decode cX7_weeks 17 = .ok (.ireturn, 1) := by decide +kernel
theorem dX7_weeks_18 : decode cX7_weeks 18 = .ok (.aload_n 0, 1) := by decide +kernel
theorem dX7_weeks_19 : decode cX7_weeks 19 = .ok (.getfield 20, 3) := by decide +kernel
theorem dX7_weeks_22 : decode cX7_weeks 22 = .ok (.getfield 135, 3) := by decide +kernel
theorem dX7_weeks_25 : decode cX7_weeks 25 = .ok (.iload_n 1, 1) := by decide +kernel
theorem dX7_weeks_26 : decode cX7_weeks 26 = .ok (.aaload, 1) := by decide +kernel
theorem dX7_weeks_27 : decode cX7_weeks 27 = .ok (.iload_n 2, 1) := by decide +kernel
theorem dX7_weeks_28 : decode cX7_weeks 28 = .ok (.invokevirtual 163, 3) := by decide +kernel
theorem dX7_weeks_31 : decode cX7_weeks 31 = .ok (.ireturn, 1) := by decide +kernel
theorem dX7_week_0 : decode cX7_week 0 = .ok (.aload_n 0, 1) := by decide +kernel
theorem dX7_week_1 : decode cX7_week 1 = .ok (.iload_n 1, 1) := by decide +kernel
theorem dX7_week_2 : decode cX7_week 2 = .ok (.invokevirtual 132, 3) := by decide +kernel
theorem dX7_week_5 : decode cX7_week 5 = .ok (.ifCond .eq 11, 3) := by decide +kernel
theorem dX7_week_8 : decode cX7_week 8 = .ok (.aload_n 0, 1) := by decide +kernel
theorem dX7_week_9 : decode cX7_week 9 = .ok (.iload_n 2, 1) := by decide +kernel
theorem dX7_week_10 : decode cX7_week 10 = .ok (.invokevirtual 167, 3) := by decide +kernel
theorem dX7_week_13 : decode cX7_week 13 = .ok (.ifCond .ne 6, 3) := by decide +kernel
theorem dX7_week_16 : decode cX7_week 16 = .ok (.bipush (-2), 2) := by decide +kernel
theorem dX7_week_18 : decode cX7_week 18 = .ok (.ireturn, 1) := by decide +kernel
theorem dX7_week_19 : decode cX7_week 19 = .ok (.aload_n 0, 1) := by decide +kernel
theorem dX7_week_20 : decode cX7_week 20 = .ok (.getfield 20, 3) := by decide +kernel
theorem dX7_week_23 : decode cX7_week 23 = .ok (.getfield 135, 3) := by decide +kernel
theorem dX7_week_26 : decode cX7_week 26 = .ok (.iload_n 1, 1) := by decide +kernel
theorem dX7_week_27 : decode cX7_week 27 = .ok (.aaload, 1) := by decide +kernel
theorem dX7_week_28 : decode cX7_week 28 = .ok (.iload_n 2, 1) := by decide +kernel
theorem dX7_week_29 : decode cX7_week 29 = .ok (.invokevirtual 170, 3) := by decide +kernel
theorem dX7_week_32 : decode cX7_week 32 = .ok (.ireturn, 1) := by decide +kernel
theorem dX7_asked_0 : decode cX7_asked 0 = .ok (.aload_n 0, 1) := by decide +kernel
theorem dX7_asked_1 : decode cX7_asked 1 = .ok (.iload_n 1, 1) := by decide +kernel
theorem dX7_asked_2 : decode cX7_asked 2 = .ok (.invokevirtual 173, 3) := by decide +kernel
theorem dX7_asked_5 : decode cX7_asked 5 = .ok (.ifCond .ne 6, 3) := by decide +kernel
theorem dX7_asked_8 : decode cX7_asked 8 = .ok (.bipush (-2), 2) := by decide +kernel
theorem dX7_asked_10 : decode cX7_asked 10 = .ok (.ireturn, 1) := by decide +kernel
theorem dX7_asked_11 : decode cX7_asked 11 = .ok (.aload_n 0, 1) := by decide +kernel
theorem dX7_asked_12 : decode cX7_asked 12 = .ok (.getfield 20, 3) := by decide +kernel
theorem dX7_asked_15 : decode cX7_asked 15 = .ok (.getfield 176, 3) := by decide +kernel
theorem dX7_asked_18 : decode cX7_asked 18 = .ok (.iload_n 1, 1) := by decide +kernel
theorem dX7_asked_19 : decode cX7_asked 19 = .ok (.aaload, 1) := by decide +kernel
theorem dX7_asked_20 : decode cX7_asked 20 = .ok (.astore_n 3, 1) := by decide +kernel
theorem dX7_asked_21 : decode cX7_asked 21 = .ok (.iload_n 2, 1) := by decide +kernel
theorem dX7_asked_22 : decode cX7_asked 22 = .ok (.tableswitch 77 0 6 #[42, 47, 52, 57, 62, 67, 72], 42) := by decide +kernel
theorem dX7_asked_64 : decode cX7_asked 64 = .ok (.aload_n 3, 1) := by decide +kernel
theorem dX7_asked_65 : decode cX7_asked 65 = .ok (.getfield 180, 3) := by decide +kernel
theorem dX7_asked_68 : decode cX7_asked 68 = .ok (.ireturn, 1) := by decide +kernel
theorem dX7_asked_69 : decode cX7_asked 69 = .ok (.aload_n 3, 1) := by decide +kernel
theorem dX7_asked_70 : decode cX7_asked 70 = .ok (.getfield 183, 3) := by decide +kernel
theorem dX7_asked_73 : decode cX7_asked 73 = .ok (.ireturn, 1) := by decide +kernel
theorem dX7_asked_74 : decode cX7_asked 74 = .ok (.aload_n 3, 1) := by decide +kernel
theorem dX7_asked_75 : decode cX7_asked 75 = .ok (.getfield 184, 3) := by decide +kernel
theorem dX7_asked_78 : decode cX7_asked 78 = .ok (.ireturn, 1) := by decide +kernel
theorem dX7_asked_79 : decode cX7_asked 79 = .ok (.aload_n 3, 1) := by decide +kernel
theorem dX7_asked_80 : decode cX7_asked 80 = .ok (.getfield 185, 3) := by decide +kernel
theorem dX7_asked_83 : decode cX7_asked 83 = .ok (.ireturn, 1) := by decide +kernel
theorem dX7_asked_84 : decode cX7_asked 84 = .ok (.aload_n 3, 1) := by decide +kernel
theorem dX7_asked_85 : decode cX7_asked 85 = .ok (.getfield 186, 3) := by decide +kernel
theorem dX7_asked_88 : decode cX7_asked 88 = .ok (.ireturn, 1) := by decide +kernel
theorem dX7_asked_89 : decode cX7_asked 89 = .ok (.aload_n 3, 1) := by decide +kernel
theorem dX7_asked_90 : decode cX7_asked 90 = .ok (.getfield 189, 3) := by decide +kernel
theorem dX7_asked_93 : decode cX7_asked 93 = .ok (.ireturn, 1) := by decide +kernel
theorem dX7_asked_94 : decode cX7_asked 94 = .ok (.aload_n 3, 1) := by decide +kernel
theorem dX7_asked_95 : decode cX7_asked 95 = .ok (.getfield 192, 3) := by decide +kernel
theorem dX7_asked_98 : decode cX7_asked 98 = .ok (.ireturn, 1) := by decide +kernel
theorem dX7_asked_99 : decode cX7_asked 99 = .ok (.bipush (-2), 2) := by decide +kernel
theorem dX7_asked_101 : decode cX7_asked 101 = .ok (.ireturn, 1) := by decide +kernel
theorem dX7_limitOf_0 : decode cX7_limitOf 0 = .ok (.aload_n 0, 1) := by decide +kernel
theorem dX7_limitOf_1 : decode cX7_limitOf 1 = .ok (.iload_n 1, 1) := by decide +kernel
theorem dX7_limitOf_2 : decode cX7_limitOf 2 = .ok (.invokevirtual 195, 3) := by decide +kernel
theorem dX7_limitOf_5 : decode cX7_limitOf 5 = .ok (.ifCond .eq 12, 3) := by decide +kernel
theorem dX7_limitOf_8 : decode cX7_limitOf 8 = .ok (.iload_n 2, 1) := by decide +kernel
theorem dX7_limitOf_9 : decode cX7_limitOf 9 = .ok (.iconst 0, 1) := by decide +kernel
theorem dX7_limitOf_10 : decode cX7_limitOf 10 = .ok (.iconst 1, 1) := by decide +kernel
theorem dX7_limitOf_11 : decode cX7_limitOf 11 = .ok (.invokestatic 113, 3) := by decide +kernel
theorem dX7_limitOf_14 : decode cX7_limitOf 14 = .ok (.ifCond .ne 6, 3) := by decide +kernel
theorem dX7_limitOf_17 : decode cX7_limitOf 17 = .ok (.bipush (-2), 2) := by decide +kernel
theorem dX7_limitOf_19 : decode cX7_limitOf 19 = .ok (.ireturn, 1) := by decide +kernel
theorem dX7_limitOf_20 : decode cX7_limitOf 20 = .ok (.iload_n 2, 1) := by decide +kernel
theorem dX7_limitOf_21 : decode cX7_limitOf 21 = .ok (.ifCond .ne 15, 3) := by decide +kernel
theorem dX7_limitOf_24 : decode cX7_limitOf 24 = .ok (.aload_n 0, 1) := by decide +kernel
theorem dX7_limitOf_25 : decode cX7_limitOf 25 = .ok (.getfield 20, 3) := by decide +kernel
theorem dX7_limitOf_28 : decode cX7_limitOf 28 = .ok (.getfield 198, 3) := by decide +kernel
theorem dX7_limitOf_31 : decode cX7_limitOf 31 = .ok (.iload_n 1, 1) := by decide +kernel
theorem dX7_limitOf_32 : decode cX7_limitOf 32 = .ok (.iaload, 1) := by decide +kernel
theorem dX7_limitOf_33 : decode cX7_limitOf 33 = .ok (.goto 12, 3) := by decide +kernel
theorem dX7_limitOf_36 : decode cX7_limitOf 36 = .ok (.aload_n 0, 1) := by decide +kernel
theorem dX7_limitOf_37 : decode cX7_limitOf 37 = .ok (.getfield 20, 3) := by decide +kernel
theorem dX7_limitOf_40 : decode cX7_limitOf 40 = .ok (.getfield 202, 3) := by decide +kernel
theorem dX7_limitOf_43 : decode cX7_limitOf 43 = .ok (.iload_n 1, 1) := by decide +kernel
theorem dX7_limitOf_44 : decode cX7_limitOf 44 = .ok (.iaload, 1) := by decide +kernel
theorem dX7_limitOf_45 : decode cX7_limitOf 45 = .ok (.ireturn, 1) := by decide +kernel
theorem dX7_load_0 : decode cX7_load 0 = .ok (.aload_n 0, 1) := by decide +kernel
theorem dX7_load_1 : decode cX7_load 1 = .ok (.iload_n 1, 1) := by decide +kernel
theorem dX7_load_2 : decode cX7_load 2 = .ok (.iload_n 2, 1) := by decide +kernel
theorem dX7_load_3 : decode cX7_load 3 = .ok (.iload_n 3, 1) := by decide +kernel
theorem dX7_load_4 : decode cX7_load 4 = .ok (.invokevirtual 205, 3) := by decide +kernel
theorem dX7_load_7 : decode cX7_load 7 = .ok (.ifCond .eq 13, 3) := by decide +kernel
theorem dX7_load_10 : decode cX7_load 10 = .ok (.iload 4, 2) := by decide +kernel
theorem dX7_load_12 : decode cX7_load 12 = .ok (.iconst 0, 1) := by decide +kernel
theorem dX7_load_13 : decode cX7_load 13 = .ok (.iconst 2, 1) := by decide +kernel
theorem dX7_load_14 : decode cX7_load 14 = .ok (.invokestatic 113, 3) := by decide +kernel
theorem dX7_load_17 : decode cX7_load 17 = .ok (.ifCond .ne 6, 3) := by decide +kernel
theorem dX7_load_20 : decode cX7_load 20 = .ok (.bipush (-2), 2) := by decide +kernel
theorem dX7_load_22 : decode cX7_load 22 = .ok (.ireturn, 1) := by decide +kernel
theorem dX7_load_23 : decode cX7_load 23 = .ok (.iload 4, 2) := by decide +kernel
theorem dX7_load_25 : decode cX7_load 25 = .ok (.ifCond .ne 14, 3) := by decide +kernel
theorem dX7_load_28 : decode cX7_load 28 = .ok (.aload_n 0, 1) := by decide +kernel
theorem dX7_load_29 : decode cX7_load 29 = .ok (.getfield 20, 3) := by decide +kernel
theorem dX7_load_32 : decode cX7_load 32 = .ok (.iload_n 1, 1) := by decide +kernel
theorem dX7_load_33 : decode cX7_load 33 = .ok (.iload_n 2, 1) := by decide +kernel
theorem dX7_load_34 : decode cX7_load 34 = .ok (.iload_n 3, 1) := by decide +kernel
theorem dX7_load_35 : decode cX7_load 35 = .ok (.invokevirtual 208, 3) := by decide +kernel
theorem dX7_load_38 : decode cX7_load 38 = .ok (.ireturn, 1) := by decide +kernel
theorem dX7_load_39 : decode cX7_load 39 = .ok (.aload_n 0, 1) := by decide +kernel
theorem dX7_load_40 : decode cX7_load 40 = .ok (.getfield 20, 3) := by decide +kernel
theorem dX7_load_43 : decode cX7_load 43 = .ok (.iload_n 1, 1) := by decide +kernel
theorem dX7_load_44 : decode cX7_load 44 = .ok (.iload_n 2, 1) := by decide +kernel
theorem dX7_load_45 : decode cX7_load 45 = .ok (.iload_n 3, 1) := by decide +kernel
theorem dX7_load_46 : decode cX7_load 46 = .ok (.invokevirtual 212, 3) := by decide +kernel
theorem dX7_load_49 : decode cX7_load 49 = .ok (.istore 5, 2) := by decide +kernel
theorem dX7_load_51 : decode cX7_load 51 = .ok (.iload 4, 2) := by decide +kernel
theorem dX7_load_53 : decode cX7_load 53 = .ok (.iconst 1, 1) := by decide +kernel
theorem dX7_load_54 : decode cX7_load 54 = .ok (.if_icmp .ne 8, 3) := by decide +kernel
theorem dX7_load_57 : decode cX7_load 57 = .ok (.iload 5, 2) := by decide +kernel
theorem dX7_load_59 : decode cX7_load 59 = .ok (.goto 16, 3) := by decide +kernel
theorem dX7_load_62 : decode cX7_load 62 = .ok (.aload_n 0, 1) := by decide +kernel
theorem dX7_load_63 : decode cX7_load 63 = .ok (.getfield 20, 3) := by decide +kernel
theorem dX7_load_66 : decode cX7_load 66 = .ok (.iload_n 1, 1) := by decide +kernel
theorem dX7_load_67 : decode cX7_load 67 = .ok (.iload_n 2, 1) := by decide +kernel
theorem dX7_load_68 : decode cX7_load 68 = .ok (.iload_n 3, 1) := by decide +kernel
theorem dX7_load_69 : decode cX7_load 69 = .ok (.invokevirtual 208, 3) := by decide +kernel
theorem dX7_load_72 : decode cX7_load 72 = .ok (.iload 5, 2) := by decide +kernel
theorem dX7_load_74 : decode cX7_load 74 = .ok (.isub, 1) := by decide +kernel
theorem dX7_load_75 : decode cX7_load 75 = .ok (.ireturn, 1) := by decide +kernel
theorem dX7_at_0 : decode cX7_at 0 = .ok (.aload_n 0, 1) := by decide +kernel
theorem dX7_at_1 : decode cX7_at 1 = .ok (.iload_n 1, 1) := by decide +kernel
theorem dX7_at_2 : decode cX7_at 2 = .ok (.iload_n 2, 1) := by decide +kernel
theorem dX7_at_3 : decode cX7_at 3 = .ok (.iload_n 3, 1) := by decide +kernel
theorem dX7_at_4 : decode cX7_at 4 = .ok (.invokevirtual 205, 3) := by decide +kernel
theorem dX7_at_7 : decode cX7_at 7 = .ok (.ifCond .eq 8, 3) := by decide +kernel
theorem dX7_at_10 : decode cX7_at 10 = .ok (.iload 4, 2) := by decide +kernel
theorem dX7_at_12 : decode cX7_at 12 = .ok (.ifCond .ge 6, 3) := by decide +kernel
theorem dX7_at_15 : decode cX7_at 15 = .ok (.bipush (-2), 2) := by decide +kernel
theorem dX7_at_17 : decode cX7_at 17 = .ok (.ireturn, 1) := by decide +kernel
theorem dX7_at_18 : decode cX7_at 18 = .ok (.iload 4, 2) := by decide +kernel
theorem dX7_at_20 : decode cX7_at 20 = .ok (.istore 5, 2) := by decide +kernel
theorem dX7_at_22 : decode cX7_at 22 = .ok (.iconst 0, 1) := by decide +kernel
theorem dX7_at_23 : decode cX7_at 23 = .ok (.istore 6, 2) := by decide +kernel
theorem dX7_at_25 : decode cX7_at 25 = .ok (.iload 6, 2) := by decide +kernel
theorem dX7_at_27 : decode cX7_at 27 = .ok (.aload_n 0, 1) := by decide +kernel
theorem dX7_at_28 : decode cX7_at 28 = .ok (.getfield 20, 3) := by decide +kernel
theorem dX7_at_31 : decode cX7_at 31 = .ok (.getfield 97, 3) := by decide +kernel
theorem dX7_at_34 : decode cX7_at 34 = .ok (.if_icmp .ge 39, 3) := by decide +kernel
theorem dX7_at_37 : decode cX7_at 37 = .ok (.aload_n 0, 1) := by decide +kernel
theorem dX7_at_38 : decode cX7_at 38 = .ok (.getfield 20, 3) := by decide +kernel
theorem dX7_at_41 : decode cX7_at 41 = .ok (.getfield 135, 3) := by decide +kernel
theorem dX7_at_44 : decode cX7_at 44 = .ok (.iload 6, 2) := by decide +kernel
theorem dX7_at_46 : decode cX7_at 46 = .ok (.aaload, 1) := by decide +kernel
theorem dX7_at_47 : decode cX7_at 47 = .ok (.iload_n 1, 1) := by decide +kernel
theorem dX7_at_48 : decode cX7_at 48 = .ok (.iload_n 2, 1) := by decide +kernel
theorem dX7_at_49 : decode cX7_at 49 = .ok (.iload_n 3, 1) := by decide +kernel
theorem dX7_at_50 : decode cX7_at 50 = .ok (.invokevirtual 215, 3) := by decide +kernel
theorem dX7_at_53 : decode cX7_at 53 = .ok (.ifCond .eq 14, 3) := by decide +kernel
theorem dX7_at_56 : decode cX7_at 56 = .ok (.iload 5, 2) := by decide +kernel
theorem dX7_at_58 : decode cX7_at 58 = .ok (.ifCond .ne 6, 3) := by decide +kernel
theorem dX7_at_61 : decode cX7_at 61 = .ok (.iload 6, 2) := by decide +kernel
theorem dX7_at_63 : decode cX7_at 63 = .ok (.ireturn, 1) := by decide +kernel
theorem dX7_at_64 : decode cX7_at 64 = .ok (.iinc 5 (-1), 3) := by decide +kernel
theorem dX7_at_67 : decode cX7_at 67 = .ok (.iinc 6 1, 3) := by decide +kernel
theorem dX7_at_70 : decode cX7_at 70 = .ok (.goto (-45), 3) := by decide +kernel
theorem dX7_at_73 : decode cX7_at 73 = .ok (.iconst (-1), 1) := by decide +kernel
theorem dX7_at_74 : decode cX7_at 74 = .ok (.ireturn, 1) := by decide +kernel
theorem dX7_room_0 : decode cX7_room 0 = .ok (.aload_n 0, 1) := by decide +kernel
theorem dX7_room_1 : decode cX7_room 1 = .ok (.iload_n 1, 1) := by decide +kernel
theorem dX7_room_2 : decode cX7_room 2 = .ok (.iload_n 2, 1) := by decide +kernel
theorem dX7_room_3 : decode cX7_room 3 = .ok (.iload_n 3, 1) := by decide +kernel
theorem dX7_room_4 : decode cX7_room 4 = .ok (.invokevirtual 205, 3) := by decide +kernel
theorem dX7_room_7 : decode cX7_room 7 = .ok (.ifCond .eq 11, 3) := by decide +kernel
theorem dX7_room_10 : decode cX7_room 10 = .ok (.iload 4, 2) := by decide +kernel
theorem dX7_room_12 : decode cX7_room 12 = .ok (.invokestatic 218, 3) := by decide +kernel
theorem dX7_room_15 : decode cX7_room 15 = .ok (.ifCond .ne 6, 3) := by decide +kernel
theorem dX7_room_18 : decode cX7_room 18 = .ok (.bipush (-2), 2) := by decide +kernel
theorem dX7_room_20 : decode cX7_room 20 = .ok (.ireturn, 1) := by decide +kernel
theorem dX7_room_21 : decode cX7_room 21 = .ok (.aload_n 0, 1) := by decide +kernel
theorem dX7_room_22 : decode cX7_room 22 = .ok (.getfield 20, 3) := by decide +kernel
theorem dX7_room_25 : decode cX7_room 25 = .ok (.getfield 198, 3) := by decide +kernel
theorem dX7_room_28 : decode cX7_room 28 = .ok (.iload_n 3, 1) := by decide +kernel
theorem dX7_room_29 : decode cX7_room 29 = .ok (.iaload, 1) := by decide +kernel
theorem dX7_room_30 : decode cX7_room 30 = .ok (.aload_n 0, 1) := by decide +kernel
theorem dX7_room_31 : decode cX7_room 31 = .ok (.getfield 20, 3) := by decide +kernel
theorem dX7_room_34 : decode cX7_room 34 = .ok (.iload_n 1, 1) := by decide +kernel
theorem dX7_room_35 : decode cX7_room 35 = .ok (.iload_n 2, 1) := by decide +kernel
theorem dX7_room_36 : decode cX7_room 36 = .ok (.iload_n 3, 1) := by decide +kernel
theorem dX7_room_37 : decode cX7_room 37 = .ok (.invokevirtual 208, 3) := by decide +kernel
theorem dX7_room_40 : decode cX7_room 40 = .ok (.isub, 1) := by decide +kernel
theorem dX7_room_41 : decode cX7_room 41 = .ok (.istore 5, 2) := by decide +kernel
theorem dX7_room_43 : decode cX7_room 43 = .ok (.iload 4, 2) := by decide +kernel
theorem dX7_room_45 : decode cX7_room 45 = .ok (.ifCond .ne 30, 3) := by decide +kernel
theorem dX7_room_48 : decode cX7_room 48 = .ok (.iload 5, 2) := by decide +kernel
theorem dX7_room_50 : decode cX7_room 50 = .ok (.aload_n 0, 1) := by decide +kernel
theorem dX7_room_51 : decode cX7_room 51 = .ok (.getfield 20, 3) := by decide +kernel
theorem dX7_room_54 : decode cX7_room 54 = .ok (.getfield 202, 3) := by decide +kernel
theorem dX7_room_57 : decode cX7_room 57 = .ok (.iload_n 3, 1) := by decide +kernel
theorem dX7_room_58 : decode cX7_room 58 = .ok (.iaload, 1) := by decide +kernel
theorem dX7_room_59 : decode cX7_room 59 = .ok (.aload_n 0, 1) := by decide +kernel
theorem dX7_room_60 : decode cX7_room 60 = .ok (.getfield 20, 3) := by decide +kernel
theorem dX7_room_63 : decode cX7_room 63 = .ok (.iload_n 1, 1) := by decide +kernel
theorem dX7_room_64 : decode cX7_room 64 = .ok (.iload_n 2, 1) := by decide +kernel
theorem dX7_room_65 : decode cX7_room 65 = .ok (.iload_n 3, 1) := by decide +kernel
theorem dX7_room_66 : decode cX7_room 66 = .ok (.invokevirtual 212, 3) := by decide +kernel
theorem dX7_room_69 : decode cX7_room 69 = .ok (.isub, 1) := by decide +kernel
theorem dX7_room_70 : decode cX7_room 70 = .ok (.invokestatic 221, 3) := by decide +kernel
theorem dX7_room_73 : decode cX7_room 73 = .ok (.istore 5, 2) := by decide +kernel
theorem dX7_room_75 : decode cX7_room 75 = .ok (.iload 5, 2) := by decide +kernel
theorem dX7_room_77 : decode cX7_room 77 = .ok (.iconst 0, 1) := by decide +kernel
theorem dX7_room_78 : decode cX7_room 78 = .ok (.invokestatic 226, 3) := by decide +kernel
theorem dX7_room_81 : decode cX7_room 81 = .ok (.ireturn, 1) := by decide +kernel
theorem dX7_use_0 : decode cX7_use 0 = .ok (.aload_n 0, 1) := by decide +kernel
theorem dX7_use_1 : decode cX7_use 1 = .ok (.iload_n 1, 1) := by decide +kernel
theorem dX7_use_2 : decode cX7_use 2 = .ok (.invokevirtual 132, 3) := by decide +kernel
theorem dX7_use_5 : decode cX7_use 5 = .ok (.ifCond .eq 12, 3) := by decide +kernel
theorem dX7_use_8 : decode cX7_use 8 = .ok (.iload_n 2, 1) := by decide +kernel
theorem dX7_use_9 : decode cX7_use 9 = .ok (.iconst 0, 1) := by decide +kernel
theorem dX7_use_10 : decode cX7_use 10 = .ok (.iconst 1, 1) := by decide +kernel
theorem dX7_use_11 : decode cX7_use 11 = .ok (.invokestatic 113, 3) := by decide +kernel
theorem dX7_use_14 : decode cX7_use 14 = .ok (.ifCond .ne 6, 3) := by decide +kernel
theorem dX7_use_17 : decode cX7_use 17 = .ok (.bipush (-2), 2) := by decide +kernel
theorem dX7_use_19 : decode cX7_use 19 = .ok (.ireturn, 1) := by decide +kernel
theorem dX7_use_20 : decode cX7_use 20 = .ok (.iload_n 2, 1) := by decide +kernel
theorem dX7_use_21 : decode cX7_use 21 = .ok (.ifCond .ne 18, 3) := by decide +kernel
theorem dX7_use_24 : decode cX7_use 24 = .ok (.aload_n 0, 1) := by decide +kernel
theorem dX7_use_25 : decode cX7_use 25 = .ok (.getfield 20, 3) := by decide +kernel
theorem dX7_use_28 : decode cX7_use 28 = .ok (.getfield 135, 3) := by decide +kernel
theorem dX7_use_31 : decode cX7_use 31 = .ok (.iload_n 1, 1) := by decide +kernel
theorem dX7_use_32 : decode cX7_use 32 = .ok (.aaload, 1) := by decide +kernel
theorem dX7_use_33 : decode cX7_use 33 = .ok (.invokevirtual 229, 3) := by decide +kernel
theorem dX7_use_36 : decode cX7_use 36 = .ok (.goto 15, 3) := by decide +kernel
theorem dX7_use_39 : decode cX7_use 39 = .ok (.aload_n 0, 1) := by decide +kernel
theorem dX7_use_40 : decode cX7_use 40 = .ok (.getfield 20, 3) := by decide +kernel
theorem dX7_use_43 : decode cX7_use 43 = .ok (.getfield 135, 3) := by decide +kernel
theorem dX7_use_46 : decode cX7_use 46 = .ok (.iload_n 1, 1) := by decide +kernel
theorem dX7_use_47 : decode cX7_use 47 = .ok (.aaload, 1) := by decide +kernel
theorem dX7_use_48 : decode cX7_use 48 = .ok (.invokevirtual 233, 3) := by decide +kernel
theorem dX7_use_51 : decode cX7_use 51 = .ok (.ireturn, 1) := by decide +kernel
theorem dX7_stands_0 : decode cX7_stands 0 = .ok (.aload_n 0, 1) := by decide +kernel
theorem dX7_stands_1 : decode cX7_stands 1 = .ok (.iload_n 1, 1) := by decide +kernel
theorem dX7_stands_2 : decode cX7_stands 2 = .ok (.invokevirtual 132, 3) := by decide +kernel
theorem dX7_stands_5 : decode cX7_stands 5 = .ok (.ifCond .ne 6, 3) := by decide +kernel
theorem dX7_stands_8 : decode cX7_stands 8 = .ok (.bipush (-2), 2) := by decide +kernel
theorem dX7_stands_10 : decode cX7_stands 10 = .ok (.ireturn, 1) := by decide +kernel
theorem dX7_stands_11 : decode cX7_stands 11 = .ok (.aload_n 0, 1) := by decide +kernel
theorem dX7_stands_12 : decode cX7_stands 12 = .ok (.getfield 20, 3) := by decide +kernel
theorem dX7_stands_15 : decode cX7_stands 15 = .ok (.getfield 135, 3) := by decide +kernel
theorem dX7_stands_18 : decode cX7_stands 18 = .ok (.iload_n 1, 1) := by decide +kernel
theorem dX7_stands_19 : decode cX7_stands 19 = .ok (.aaload, 1) := by decide +kernel
theorem dX7_stands_20 : decode cX7_stands 20 = .ok (.astore_n 2, 1) := by decide +kernel
theorem dX7_stands_21 : decode cX7_stands 21 = .ok (.aload_n 2, 1) := by decide +kernel
theorem dX7_stands_22 : decode cX7_stands 22 = .ok (.invokevirtual 236, 3) := by decide +kernel
theorem dX7_stands_25 : decode cX7_stands 25 = .ok (.ifCond .eq 5, 3) := by decide +kernel
theorem dX7_stands_28 : decode cX7_stands 28 = .ok (.iconst 1, 1) := by decide +kernel
theorem dX7_stands_29 : decode cX7_stands 29 = .ok (.ireturn, 1) := by decide +kernel
theorem dX7_stands_30 : decode cX7_stands 30 = .ok (.aload_n 2, 1) := by decide +kernel
theorem dX7_stands_31 : decode cX7_stands 31 = .ok (.invokevirtual 239, 3) := by decide +kernel
theorem dX7_stands_34 : decode cX7_stands 34 = .ok (.ifCond .eq 7, 3) := by decide +kernel
theorem dX7_stands_37 : decode cX7_stands 37 = .ok (.iconst 2, 1) := by decide +kernel
theorem dX7_stands_38 : decode cX7_stands 38 = .ok (.goto 4, 3) := by decide +kernel
theorem dX7_stands_41 : decode cX7_stands 41 = .ok (.iconst 0, 1) := by decide +kernel
theorem dX7_stands_42 : decode cX7_stands 42 = .ok (.ireturn, 1) := by decide +kernel
theorem dX7_spare_0 : decode cX7_spare 0 = .ok (.aload_n 0, 1) := by decide +kernel
theorem dX7_spare_1 : decode cX7_spare 1 = .ok (.iload_n 1, 1) := by decide +kernel
theorem dX7_spare_2 : decode cX7_spare 2 = .ok (.invokevirtual 132, 3) := by decide +kernel
theorem dX7_spare_5 : decode cX7_spare 5 = .ok (.ifCond .ne 6, 3) := by decide +kernel
theorem dX7_spare_8 : decode cX7_spare 8 = .ok (.bipush (-2), 2) := by decide +kernel
theorem dX7_spare_10 : decode cX7_spare 10 = .ok (.ireturn, 1) := by decide +kernel
theorem dX7_spare_11 : decode cX7_spare 11 = .ok (.aload_n 0, 1) := by decide +kernel
theorem dX7_spare_12 : decode cX7_spare 12 = .ok (.getfield 20, 3) := by decide +kernel
theorem dX7_spare_15 : decode cX7_spare 15 = .ok (.getfield 135, 3) := by decide +kernel
theorem dX7_spare_18 : decode cX7_spare 18 = .ok (.iload_n 1, 1) := by decide +kernel
theorem dX7_spare_19 : decode cX7_spare 19 = .ok (.aaload, 1) := by decide +kernel
theorem dX7_spare_20 : decode cX7_spare 20 = .ok (.invokevirtual 242, 3) := by decide +kernel
theorem dX7_spare_23 : decode cX7_spare 23 = .ok (.ireturn, 1) := by decide +kernel
theorem dX7_of_0 : decode cX7_of 0 = .ok (.aload_n 0, 1) := by decide +kernel
theorem dX7_of_1 : decode cX7_of 1 = .ok (.iload_n 1, 1) := by decide +kernel
theorem dX7_of_2 : decode cX7_of 2 = .ok (.invokevirtual 109, 3) := by decide +kernel
theorem dX7_of_5 : decode cX7_of 5 = .ok (.ifCond .eq 16, 3) := by decide +kernel
theorem dX7_of_8 : decode cX7_of 8 = .ok (.iload_n 2, 1) := by decide +kernel
theorem dX7_of_9 : decode cX7_of 9 = .ok (.iconst (-1), 1) := by decide +kernel
theorem dX7_of_10 : decode cX7_of 10 = .ok (.if_icmp .eq 14, 3) := by decide +kernel
theorem dX7_of_13 : decode cX7_of 13 = .ok (.aload_n 0, 1) := by decide +kernel
theorem dX7_of_14 : decode cX7_of 14 = .ok (.iload_n 2, 1) := by decide +kernel
theorem dX7_of_15 : decode cX7_of 15 = .ok (.invokevirtual 245, 3) := by decide +kernel
theorem dX7_of_18 : decode cX7_of 18 = .ok (.ifCond .ne 6, 3) := by decide +kernel
theorem dX7_of_21 : decode cX7_of 21 = .ok (.bipush (-2), 2) := by decide +kernel
theorem dX7_of_23 : decode cX7_of 23 = .ok (.ireturn, 1) := by decide +kernel
theorem dX7_of_24 : decode cX7_of 24 = .ok (.iconst 0, 1) := by decide +kernel
theorem dX7_of_25 : decode cX7_of 25 = .ok (.istore_n 3, 1) := by decide +kernel
theorem dX7_of_26 : decode cX7_of 26 = .ok (.iconst 0, 1) := by decide +kernel
theorem dX7_of_27 : decode cX7_of 27 = .ok (.istore 4, 2) := by decide +kernel
theorem dX7_of_29 : decode cX7_of 29 = .ok (.iload 4, 2) := by decide +kernel
theorem dX7_of_31 : decode cX7_of 31 = .ok (.aload_n 0, 1) := by decide +kernel
theorem dX7_of_32 : decode cX7_of 32 = .ok (.getfield 20, 3) := by decide +kernel
theorem dX7_of_35 : decode cX7_of 35 = .ok (.getfield 97, 3) := by decide +kernel
theorem dX7_of_38 : decode cX7_of 38 = .ok (.if_icmp .ge 34, 3) := by decide +kernel
theorem dX7_of_41 : decode cX7_of 41 = .ok (.aload_n 0, 1) := by decide +kernel
theorem dX7_of_42 : decode cX7_of 42 = .ok (.getfield 20, 3) := by decide +kernel
theorem dX7_of_45 : decode cX7_of 45 = .ok (.getfield 135, 3) := by decide +kernel
theorem dX7_of_48 : decode cX7_of 48 = .ok (.iload 4, 2) := by decide +kernel
theorem dX7_of_50 : decode cX7_of 50 = .ok (.aaload, 1) := by decide +kernel
theorem dX7_of_51 : decode cX7_of 51 = .ok (.iload_n 1, 1) := by decide +kernel
theorem dX7_of_52 : decode cX7_of 52 = .ok (.iload_n 2, 1) := by decide +kernel
theorem dX7_of_53 : decode cX7_of 53 = .ok (.invokevirtual 248, 3) := by decide +kernel
theorem dX7_of_56 : decode cX7_of 56 = .ok (.ifCond .eq 10, 3) := by decide +kernel
theorem dX7_of_59 : decode cX7_of 59 = .ok (.iload_n 3, 1) := by decide +kernel
theorem dX7_of_60 : decode cX7_of 60 = .ok (.iconst 1, 1) := by decide +kernel
theorem dX7_of_61 : decode cX7_of 61 = .ok (.iload 4, 2) := by decide +kernel
theorem dX7_of_63 : decode cX7_of 63 = .ok (.ishl, 1) := by decide +kernel
theorem dX7_of_64 : decode cX7_of 64 = .ok (.ior, 1) := by decide +kernel
theorem dX7_of_65 : decode cX7_of 65 = .ok (.istore_n 3, 1) := by decide +kernel
theorem dX7_of_66 : decode cX7_of 66 = .ok (.iinc 4 1, 3) := by decide +kernel
theorem dX7_of_69 : decode cX7_of 69 = .ok (.goto (-40), 3) := by decide +kernel
theorem dX7_of_72 : decode cX7_of 72 = .ok (.iload_n 3, 1) := by decide +kernel
theorem dX7_of_73 : decode cX7_of 73 = .ok (.ireturn, 1) := by decide +kernel
theorem dX7_entrant_0 : decode cX7_entrant 0 = .ok (.aload_n 0, 1) := by decide +kernel
theorem dX7_entrant_1 : decode cX7_entrant 1 = .ok (.iload_n 1, 1) := by decide +kernel
theorem dX7_entrant_2 : decode cX7_entrant 2 = .ok (.invokevirtual 109, 3) := by decide +kernel
theorem dX7_entrant_5 : decode cX7_entrant 5 = .ok (.ifCond .eq 11, 3) := by decide +kernel
theorem dX7_entrant_8 : decode cX7_entrant 8 = .ok (.aload_n 0, 1) := by decide +kernel
theorem dX7_entrant_9 : decode cX7_entrant 9 = .ok (.iload_n 2, 1) := by decide +kernel
theorem dX7_entrant_10 : decode cX7_entrant 10 = .ok (.invokevirtual 245, 3) := by decide +kernel
theorem dX7_entrant_13 : decode cX7_entrant 13 = .ok (.ifCond .ne 6, 3) := by decide +kernel
theorem dX7_entrant_16 : decode cX7_entrant 16 = .ok (.bipush (-2), 2) := by decide +kernel
theorem dX7_entrant_18 : decode cX7_entrant 18 = .ok (.ireturn, 1) := by decide +kernel
theorem dX7_entrant_19 : decode cX7_entrant 19 = .ok (.aload_n 0, 1) := by decide +kernel
theorem dX7_entrant_20 : decode cX7_entrant 20 = .ok (.getfield 20, 3) := by decide +kernel
theorem dX7_entrant_23 : decode cX7_entrant 23 = .ok (.iload_n 1, 1) := by decide +kernel
theorem dX7_entrant_24 : decode cX7_entrant 24 = .ok (.iload_n 2, 1) := by decide +kernel
theorem dX7_entrant_25 : decode cX7_entrant 25 = .ok (.invokevirtual 252, 3) := by decide +kernel
theorem dX7_entrant_28 : decode cX7_entrant 28 = .ok (.iconst 2, 1) := by decide +kernel
theorem dX7_entrant_29 : decode cX7_entrant 29 = .ok (.if_icmp .ge 7, 3) := by decide +kernel
theorem dX7_entrant_32 : decode cX7_entrant 32 = .ok (.iconst 1, 1) := by decide +kernel
theorem dX7_entrant_33 : decode cX7_entrant 33 = .ok (.goto 4, 3) := by decide +kernel
theorem dX7_entrant_36 : decode cX7_entrant 36 = .ok (.iconst 0, 1) := by decide +kernel
theorem dX7_entrant_37 : decode cX7_entrant 37 = .ok (.ireturn, 1) := by decide +kernel
theorem dX7_sum_0 : decode cX7_sum 0 = .ok (.aload_n 0, 1) := by decide +kernel
theorem dX7_sum_1 : decode cX7_sum 1 = .ok (.iload_n 1, 1) := by decide +kernel
theorem dX7_sum_2 : decode cX7_sum 2 = .ok (.invokevirtual 109, 3) := by decide +kernel
theorem dX7_sum_5 : decode cX7_sum 5 = .ok (.ifCond .eq 10, 3) := by decide +kernel
theorem dX7_sum_8 : decode cX7_sum 8 = .ok (.iload_n 2, 1) := by decide +kernel
theorem dX7_sum_9 : decode cX7_sum 9 = .ok (.invokestatic 160, 3) := by decide +kernel
theorem dX7_sum_12 : decode cX7_sum 12 = .ok (.ifCond .ne 6, 3) := by decide +kernel
theorem dX7_sum_15 : decode cX7_sum 15 = .ok (.bipush (-2), 2) := by decide +kernel
theorem dX7_sum_17 : decode cX7_sum 17 = .ok (.ireturn, 1) := by decide +kernel
theorem dX7_sum_18 : decode cX7_sum 18 = .ok (.iconst 0, 1) := by decide +kernel
theorem dX7_sum_19 : decode cX7_sum 19 = .ok (.istore_n 3, 1) := by decide +kernel
theorem dX7_sum_20 : decode cX7_sum 20 = .ok (.iconst 0, 1) := by decide +kernel
theorem dX7_sum_21 : decode cX7_sum 21 = .ok (.istore 4, 2) := by decide +kernel
theorem dX7_sum_23 : decode cX7_sum 23 = .ok (.iload 4, 2) := by decide +kernel
theorem dX7_sum_25 : decode cX7_sum 25 = .ok (.aload_n 0, 1) := by decide +kernel
theorem dX7_sum_26 : decode cX7_sum 26 = .ok (.getfield 20, 3) := by decide +kernel
theorem dX7_sum_29 : decode cX7_sum 29 = .ok (.getfield 97, 3) := by decide +kernel
theorem dX7_sum_32 : decode cX7_sum 32 = .ok (.if_icmp .ge 46, 3) := by decide +kernel
theorem dX7_sum_35 : decode cX7_sum 35 = .ok (.aload_n 0, 1) := by decide +kernel
theorem dX7_sum_36 : decode cX7_sum 36 = .ok (.getfield 20, 3) := by decide +kernel
theorem dX7_sum_39 : decode cX7_sum 39 = .ok (.getfield 135, 3) := by decide +kernel
theorem dX7_sum_42 : decode cX7_sum 42 = .ok (.iload 4, 2) := by decide +kernel
theorem dX7_sum_44 : decode cX7_sum 44 = .ok (.aaload, 1) := by decide +kernel
theorem dX7_sum_45 : decode cX7_sum 45 = .ok (.getfield 139, 3) := by decide +kernel
theorem dX7_sum_48 : decode cX7_sum 48 = .ok (.iload_n 1, 1) := by decide +kernel
theorem dX7_sum_49 : decode cX7_sum 49 = .ok (.if_icmp .ne 23, 3) := by decide +kernel
theorem dX7_sum_52 : decode cX7_sum 52 = .ok (.iload_n 3, 1) := by decide +kernel
theorem dX7_sum_53 : decode cX7_sum 53 = .ok (.aload_n 0, 1) := by decide +kernel
theorem dX7_sum_54 : decode cX7_sum 54 = .ok (.getfield 20, 3) := by decide +kernel
theorem dX7_sum_57 : decode cX7_sum 57 = .ok (.getfield 135, 3) := by decide +kernel
theorem dX7_sum_60 : decode cX7_sum 60 = .ok (.iload 4, 2) := by decide +kernel
theorem dX7_sum_62 : decode cX7_sum 62 = .ok (.aaload, 1) := by decide +kernel
theorem dX7_sum_63 : decode cX7_sum 63 = .ok (.iload_n 2, 1) := by decide +kernel
theorem dX7_sum_64 : decode cX7_sum 64 = .ok (.invokevirtual 163, 3) := by decide +kernel
theorem dX7_sum_67 : decode cX7_sum 67 = .ok (.invokestatic 255, 3) := by decide +kernel
theorem dX7_sum_70 : decode cX7_sum 70 = .ok (.iadd, 1) := by decide +kernel
theorem dX7_sum_71 : decode cX7_sum 71 = .ok (.istore_n 3, 1) := by decide +kernel
theorem dX7_sum_72 : decode cX7_sum 72 = .ok (.iinc 4 1, 3) := by decide +kernel
theorem dX7_sum_75 : decode cX7_sum 75 = .ok (.goto (-52), 3) := by decide +kernel
theorem dX7_sum_78 : decode cX7_sum 78 = .ok (.iload_n 3, 1) := by decide +kernel
theorem dX7_sum_79 : decode cX7_sum 79 = .ok (.ireturn, 1) := by decide +kernel
theorem dX7_best_0 : decode cX7_best 0 = .ok (.aload_n 0, 1) := by decide +kernel
theorem dX7_best_1 : decode cX7_best 1 = .ok (.invokevirtual 121, 3) := by decide +kernel
theorem dX7_best_4 : decode cX7_best 4 = .ok (.ifCond .eq 7, 3) := by decide +kernel
theorem dX7_best_7 : decode cX7_best 7 = .ok (.iload_n 1, 1) := by decide +kernel
theorem dX7_best_8 : decode cX7_best 8 = .ok (.ifCond .ge 6, 3) := by decide +kernel
theorem dX7_best_11 : decode cX7_best 11 = .ok (.bipush (-2), 2) := by decide +kernel
theorem dX7_best_13 : decode cX7_best 13 = .ok (.ireturn, 1) := by decide +kernel
theorem dX7_best_14 : decode cX7_best 14 = .ok (.iconst 0, 1) := by decide +kernel
theorem dX7_best_15 : decode cX7_best 15 = .ok (.istore_n 2, 1) := by decide +kernel
theorem dX7_best_16 : decode cX7_best 16 = .ok (.iload_n 2, 1) := by decide +kernel
theorem dX7_best_17 : decode cX7_best 17 = .ok (.aload_n 0, 1) := by decide +kernel
theorem dX7_best_18 : decode cX7_best 18 = .ok (.getfield 27, 3) := by decide +kernel
theorem dX7_best_21 : decode cX7_best 21 = .ok (.getfield 94, 3) := by decide +kernel
theorem dX7_best_24 : decode cX7_best 24 = .ok (.if_icmp .ge 58, 3) := by decide +kernel
theorem dX7_best_27 : decode cX7_best 27 = .ok (.iconst 0, 1) := by decide +kernel
theorem dX7_best_28 : decode cX7_best 28 = .ok (.istore_n 3, 1) := by decide +kernel
theorem dX7_best_29 : decode cX7_best 29 = .ok (.iconst 0, 1) := by decide +kernel
theorem dX7_best_30 : decode cX7_best 30 = .ok (.istore 4, 2) := by decide +kernel
theorem dX7_best_32 : decode cX7_best 32 = .ok (.iload 4, 2) := by decide +kernel
theorem dX7_best_34 : decode cX7_best 34 = .ok (.aload_n 0, 1) := by decide +kernel
theorem dX7_best_35 : decode cX7_best 35 = .ok (.getfield 27, 3) := by decide +kernel
theorem dX7_best_38 : decode cX7_best 38 = .ok (.getfield 94, 3) := by decide +kernel
theorem dX7_best_41 : decode cX7_best 41 = .ok (.if_icmp .ge 28, 3) := by decide +kernel
theorem dX7_best_44 : decode cX7_best 44 = .ok (.iload 4, 2) := by decide +kernel
theorem dX7_best_46 : decode cX7_best 46 = .ok (.iload_n 2, 1) := by decide +kernel
theorem dX7_best_47 : decode cX7_best 47 = .ok (.if_icmp .eq 16, 3) := by decide +kernel
theorem dX7_best_50 : decode cX7_best 50 = .ok (.aload_n 0, 1) := by decide +kernel
theorem dX7_best_51 : decode cX7_best 51 = .ok (.iload 4, 2) := by decide +kernel
theorem dX7_best_53 : decode cX7_best 53 = .ok (.iload_n 2, 1) := by decide +kernel
theorem dX7_best_54 : decode cX7_best 54 = .ok (.invokevirtual 260, 3) := by decide +kernel
theorem dX7_best_57 : decode cX7_best 57 = .ok (.ifCond .eq 6, 3) := by decide +kernel
theorem dX7_best_60 : decode cX7_best 60 = .ok (.iinc 3 1, 3) := by decide +kernel
theorem dX7_best_63 : decode cX7_best 63 = .ok (.iinc 4 1, 3) := by decide +kernel
theorem dX7_best_66 : decode cX7_best 66 = .ok (.goto (-34), 3) := by decide +kernel
theorem dX7_best_69 : decode cX7_best 69 = .ok (.iload_n 3, 1) := by decide +kernel
theorem dX7_best_70 : decode cX7_best 70 = .ok (.iload_n 1, 1) := by decide +kernel
theorem dX7_best_71 : decode cX7_best 71 = .ok (.if_icmp .ne 5, 3) := by decide +kernel
theorem dX7_best_74 : decode cX7_best 74 = .ok (.iload_n 2, 1) := by decide +kernel
theorem dX7_best_75 : decode cX7_best 75 = .ok (.ireturn, 1) := by decide +kernel
theorem dX7_best_76 : decode cX7_best 76 = .ok (.iinc 2 1, 3) := by decide +kernel
theorem dX7_best_79 : decode cX7_best 79 = .ok (.goto (-63), 3) := by decide +kernel
theorem dX7_best_82 : decode cX7_best 82 = .ok (.iconst (-1), 1) := by decide +kernel
theorem dX7_best_83 : decode cX7_best 83 = .ok (.ireturn, 1) := by decide +kernel
theorem dX7_most_0 : decode cX7_most 0 = .ok (.aload_n 0, 1) := by decide +kernel
theorem dX7_most_1 : decode cX7_most 1 = .ok (.iload_n 1, 1) := by decide +kernel
theorem dX7_most_2 : decode cX7_most 2 = .ok (.invokevirtual 245, 3) := by decide +kernel
theorem dX7_most_5 : decode cX7_most 5 = .ok (.ifCond .eq 7, 3) := by decide +kernel
theorem dX7_most_8 : decode cX7_most 8 = .ok (.iload_n 2, 1) := by decide +kernel
theorem dX7_most_9 : decode cX7_most 9 = .ok (.ifCond .ge 6, 3) := by decide +kernel
theorem dX7_most_12 : decode cX7_most 12 = .ok (.bipush (-2), 2) := by decide +kernel
theorem dX7_most_14 : decode cX7_most 14 = .ok (.ireturn, 1) := by decide +kernel
theorem dX7_most_15 : decode cX7_most 15 = .ok (.iconst 0, 1) := by decide +kernel
theorem dX7_most_16 : decode cX7_most 16 = .ok (.istore_n 3, 1) := by decide +kernel
theorem dX7_most_17 : decode cX7_most 17 = .ok (.iload_n 3, 1) := by decide +kernel
theorem dX7_most_18 : decode cX7_most 18 = .ok (.aload_n 0, 1) := by decide +kernel
theorem dX7_most_19 : decode cX7_most 19 = .ok (.getfield 27, 3) := by decide +kernel
theorem dX7_most_22 : decode cX7_most 22 = .ok (.getfield 94, 3) := by decide +kernel
theorem dX7_most_25 : decode cX7_most 25 = .ok (.if_icmp .ge 87, 3) := by decide +kernel
theorem dX7_most_28 : decode cX7_most 28 = .ok (.aload_n 0, 1) := by decide +kernel
theorem dX7_most_29 : decode cX7_most 29 = .ok (.getfield 20, 3) := by decide +kernel
theorem dX7_most_32 : decode cX7_most 32 = .ok (.iload_n 3, 1) := by decide +kernel
theorem dX7_most_33 : decode cX7_most 33 = .ok (.iload_n 1, 1) := by decide +kernel
theorem dX7_most_34 : decode cX7_most 34 = .ok (.invokevirtual 263, 3) := by decide +kernel
theorem dX7_most_37 : decode cX7_most 37 = .ok (.istore 4, 2) := by decide +kernel
theorem dX7_most_39 : decode cX7_most 39 = .ok (.iconst 0, 1) := by decide +kernel
theorem dX7_most_40 : decode cX7_most 40 = .ok (.istore 5, 2) := by decide +kernel
theorem dX7_most_42 : decode cX7_most 42 = .ok (.iconst 0, 1) := by decide +kernel
theorem dX7_most_43 : decode cX7_most 43 = .ok (.istore 6, 2) := by decide +kernel
theorem dX7_most_45 : decode cX7_most 45 = .ok (.iload 6, 2) := by decide +kernel
theorem dX7_most_47 : decode cX7_most 47 = .ok (.aload_n 0, 1) := by decide +kernel
theorem dX7_most_48 : decode cX7_most 48 = .ok (.getfield 27, 3) := by decide +kernel
theorem dX7_most_51 : decode cX7_most 51 = .ok (.getfield 94, 3) := by decide +kernel
theorem dX7_most_54 : decode cX7_most 54 = .ok (.if_icmp .ge 44, 3) := by decide +kernel
theorem dX7_most_57 : decode cX7_most 57 = .ok (.aload_n 0, 1) := by decide +kernel
theorem dX7_most_58 : decode cX7_most 58 = .ok (.getfield 20, 3) := by decide +kernel
theorem dX7_most_61 : decode cX7_most 61 = .ok (.iload 6, 2) := by decide +kernel
theorem dX7_most_63 : decode cX7_most 63 = .ok (.iload_n 1, 1) := by decide +kernel
theorem dX7_most_64 : decode cX7_most 64 = .ok (.invokevirtual 263, 3) := by decide +kernel
theorem dX7_most_67 : decode cX7_most 67 = .ok (.istore 7, 2) := by decide +kernel
theorem dX7_most_69 : decode cX7_most 69 = .ok (.iload 7, 2) := by decide +kernel
theorem dX7_most_71 : decode cX7_most 71 = .ok (.iload 4, 2) := by decide +kernel
theorem dX7_most_73 : decode cX7_most 73 = .ok (.if_icmp .gt 16, 3) := by decide +kernel
theorem dX7_most_76 : decode cX7_most 76 = .ok (.iload 7, 2) := by decide +kernel
theorem dX7_most_78 : decode cX7_most 78 = .ok (.iload 4, 2) := by decide +kernel
theorem dX7_most_80 : decode cX7_most 80 = .ok (.if_icmp .ne 12, 3) := by decide +kernel
theorem dX7_most_83 : decode cX7_most 83 = .ok (.iload 6, 2) := by decide +kernel
theorem dX7_most_85 : decode cX7_most 85 = .ok (.iload_n 3, 1) := by decide +kernel
theorem dX7_most_86 : decode cX7_most 86 = .ok (.if_icmp .ge 6, 3) := by decide +kernel
theorem dX7_most_89 : decode cX7_most 89 = .ok (.iinc 5 1, 3) := by decide +kernel
theorem dX7_most_92 : decode cX7_most 92 = .ok (.iinc 6 1, 3) := by decide +kernel
theorem dX7_most_95 : decode cX7_most 95 = .ok (.goto (-50), 3) := by decide +kernel
theorem dX7_most_98 : decode cX7_most 98 = .ok (.iload 5, 2) := by decide +kernel
theorem dX7_most_100 : decode cX7_most 100 = .ok (.iload_n 2, 1) := by decide +kernel
theorem dX7_most_101 : decode cX7_most 101 = .ok (.if_icmp .ne 5, 3) := by decide +kernel
theorem dX7_most_104 : decode cX7_most 104 = .ok (.iload_n 3, 1) := by decide +kernel
theorem dX7_most_105 : decode cX7_most 105 = .ok (.ireturn, 1) := by decide +kernel
theorem dX7_most_106 : decode cX7_most 106 = .ok (.iinc 3 1, 3) := by decide +kernel
theorem dX7_most_109 : decode cX7_most 109 = .ok (.goto (-92), 3) := by decide +kernel
theorem dX7_most_112 : decode cX7_most 112 = .ok (.iconst (-1), 1) := by decide +kernel
theorem dX7_most_113 : decode cX7_most 113 = .ok (.ireturn, 1) := by decide +kernel
theorem dX7_rate_0 : decode cX7_rate 0 = .ok (.aload_n 0, 1) := by decide +kernel
theorem dX7_rate_1 : decode cX7_rate 1 = .ok (.iload_n 1, 1) := by decide +kernel
theorem dX7_rate_2 : decode cX7_rate 2 = .ok (.invokevirtual 132, 3) := by decide +kernel
theorem dX7_rate_5 : decode cX7_rate 5 = .ok (.ifCond .ne 6, 3) := by decide +kernel
theorem dX7_rate_8 : decode cX7_rate 8 = .ok (.bipush (-2), 2) := by decide +kernel
theorem dX7_rate_10 : decode cX7_rate 10 = .ok (.ireturn, 1) := by decide +kernel
theorem dX7_rate_11 : decode cX7_rate 11 = .ok (.aload_n 0, 1) := by decide +kernel
theorem dX7_rate_12 : decode cX7_rate 12 = .ok (.getfield 20, 3) := by decide +kernel
theorem dX7_rate_15 : decode cX7_rate 15 = .ok (.getfield 135, 3) := by decide +kernel
theorem dX7_rate_18 : decode cX7_rate 18 = .ok (.iload_n 1, 1) := by decide +kernel
theorem dX7_rate_19 : decode cX7_rate 19 = .ok (.aaload, 1) := by decide +kernel
theorem dX7_rate_20 : decode cX7_rate 20 = .ok (.invokevirtual 229, 3) := by decide +kernel
theorem dX7_rate_23 : decode cX7_rate 23 = .ok (.istore_n 2, 1) := by decide +kernel
theorem dX7_rate_24 : decode cX7_rate 24 = .ok (.iload_n 2, 1) := by decide +kernel
theorem dX7_rate_25 : decode cX7_rate 25 = .ok (.ifCond .le 23, 3) := by decide +kernel
theorem dX7_rate_28 : decode cX7_rate 28 = .ok (.bipush 100, 2) := by decide +kernel
theorem dX7_rate_30 : decode cX7_rate 30 = .ok (.aload_n 0, 1) := by decide +kernel
theorem dX7_rate_31 : decode cX7_rate 31 = .ok (.getfield 20, 3) := by decide +kernel
theorem dX7_rate_34 : decode cX7_rate 34 = .ok (.getfield 135, 3) := by decide +kernel
theorem dX7_rate_37 : decode cX7_rate 37 = .ok (.iload_n 1, 1) := by decide +kernel
theorem dX7_rate_38 : decode cX7_rate 38 = .ok (.aaload, 1) := by decide +kernel
theorem dX7_rate_39 : decode cX7_rate 39 = .ok (.invokevirtual 233, 3) := by decide +kernel
theorem dX7_rate_42 : decode cX7_rate 42 = .ok (.imul, 1) := by decide +kernel
theorem dX7_rate_43 : decode cX7_rate 43 = .ok (.iload_n 2, 1) := by decide +kernel
theorem dX7_rate_44 : decode cX7_rate 44 = .ok (.idiv, 1) := by decide +kernel
theorem dX7_rate_45 : decode cX7_rate 45 = .ok (.goto 4, 3) := by decide +kernel
theorem dX7_rate_48 : decode cX7_rate 48 = .ok (.iconst (-1), 1) := by decide +kernel
theorem dX7_rate_49 : decode cX7_rate 49 = .ok (.ireturn, 1) := by decide +kernel
theorem dX7_longest_0 : decode cX7_longest 0 = .ok (.aload_n 0, 1) := by decide +kernel
theorem dX7_longest_1 : decode cX7_longest 1 = .ok (.iload_n 1, 1) := by decide +kernel
theorem dX7_longest_2 : decode cX7_longest 2 = .ok (.invokevirtual 132, 3) := by decide +kernel
theorem dX7_longest_5 : decode cX7_longest 5 = .ok (.ifCond .ne 6, 3) := by decide +kernel
theorem dX7_longest_8 : decode cX7_longest 8 = .ok (.bipush (-2), 2) := by decide +kernel
theorem dX7_longest_10 : decode cX7_longest 10 = .ok (.ireturn, 1) := by decide +kernel
theorem dX7_longest_11 : decode cX7_longest 11 = .ok (.aload_n 0, 1) := by decide +kernel
theorem dX7_longest_12 : decode cX7_longest 12 = .ok (.getfield 20, 3) := by decide +kernel
theorem dX7_longest_15 : decode cX7_longest 15 = .ok (.getfield 135, 3) := by decide +kernel
theorem dX7_longest_18 : decode cX7_longest 18 = .ok (.iload_n 1, 1) := by decide +kernel
theorem dX7_longest_19 : decode cX7_longest 19 = .ok (.aaload, 1) := by decide +kernel
theorem dX7_longest_20 : decode cX7_longest 20 = .ok (.getfield 266, 3) := by decide +kernel
theorem dX7_longest_23 : decode cX7_longest 23 = .ok (.istore_n 2, 1) := by decide +kernel
theorem dX7_longest_24 : decode cX7_longest 24 = .ok (.iconst 0, 1) := by decide +kernel
theorem dX7_longest_25 : decode cX7_longest 25 = .ok (.istore_n 3, 1) := by decide +kernel
theorem dX7_longest_26 : decode cX7_longest 26 = .ok (.iconst 0, 1) := by decide +kernel
theorem dX7_longest_27 : decode cX7_longest 27 = .ok (.istore 4, 2) := by decide +kernel
theorem dX7_longest_29 : decode cX7_longest 29 = .ok (.iconst 0, 1) := by decide +kernel
theorem dX7_longest_30 : decode cX7_longest 30 = .ok (.istore 5, 2) := by decide +kernel
theorem dX7_longest_32 : decode cX7_longest 32 = .ok (.iload 5, 2) := by decide +kernel
theorem dX7_longest_34 : decode cX7_longest 34 = .ok (.aload_n 0, 1) := by decide +kernel
theorem dX7_longest_35 : decode cX7_longest 35 = .ok (.getfield 20, 3) := by decide +kernel
theorem dX7_longest_38 : decode cX7_longest 38 = .ok (.getfield 91, 3) := by decide +kernel
theorem dX7_longest_41 : decode cX7_longest 41 = .ok (.if_icmp .ge 35, 3) := by decide +kernel
theorem dX7_longest_44 : decode cX7_longest 44 = .ok (.iload_n 2, 1) := by decide +kernel
theorem dX7_longest_45 : decode cX7_longest 45 = .ok (.iload 5, 2) := by decide +kernel
theorem dX7_longest_47 : decode cX7_longest 47 = .ok (.invokestatic 269, 3) := by decide +kernel
theorem dX7_longest_50 : decode cX7_longest 50 = .ok (.ifCond .eq 10, 3) := by decide +kernel
theorem dX7_longest_53 : decode cX7_longest 53 = .ok (.iload 4, 2) := by decide +kernel
theorem dX7_longest_55 : decode cX7_longest 55 = .ok (.iconst 1, 1) := by decide +kernel
theorem dX7_longest_56 : decode cX7_longest 56 = .ok (.iadd, 1) := by decide +kernel
theorem dX7_longest_57 : decode cX7_longest 57 = .ok (.goto 4, 3) := by decide +kernel
theorem dX7_longest_60 : decode cX7_longest 60 = .ok (.iconst 0, 1) := by decide +kernel
theorem dX7_longest_61 : decode cX7_longest 61 = .ok (.istore 4, 2) := by decide +kernel
theorem dX7_longest_63 : decode cX7_longest 63 = .ok (.iload_n 3, 1) := by decide +kernel
theorem dX7_longest_64 : decode cX7_longest 64 = .ok (.iload 4, 2) := by decide +kernel
theorem dX7_longest_66 : decode cX7_longest 66 = .ok (.invokestatic 226, 3) := by decide +kernel
theorem dX7_longest_69 : decode cX7_longest 69 = .ok (.istore_n 3, 1) := by decide +kernel
theorem dX7_longest_70 : decode cX7_longest 70 = .ok (.iinc 5 1, 3) := by decide +kernel
theorem dX7_longest_73 : decode cX7_longest 73 = .ok (.goto (-41), 3) := by decide +kernel
theorem dX7_longest_76 : decode cX7_longest 76 = .ok (.iload_n 3, 1) := by decide +kernel
theorem dX7_longest_77 : decode cX7_longest 77 = .ok (.ireturn, 1) := by decide +kernel
theorem dX7_kept_0 : decode cX7_kept 0 = .ok (.aload_n 0, 1) := by decide +kernel
theorem dX7_kept_1 : decode cX7_kept 1 = .ok (.invokevirtual 121, 3) := by decide +kernel
theorem dX7_kept_4 : decode cX7_kept 4 = .ok (.ifCond .eq 12, 3) := by decide +kernel
theorem dX7_kept_7 : decode cX7_kept 7 = .ok (.iload_n 1, 1) := by decide +kernel
theorem dX7_kept_8 : decode cX7_kept 8 = .ok (.iconst 0, 1) := by decide +kernel
theorem dX7_kept_9 : decode cX7_kept 9 = .ok (.iconst 1, 1) := by decide +kernel
theorem dX7_kept_10 : decode cX7_kept 10 = .ok (.invokestatic 113, 3) := by decide +kernel
theorem dX7_kept_13 : decode cX7_kept 13 = .ok (.ifCond .ne 6, 3) := by decide +kernel
theorem dX7_kept_16 : decode cX7_kept 16 = .ok (.bipush (-2), 2) := by decide +kernel
theorem dX7_kept_18 : decode cX7_kept 18 = .ok (.ireturn, 1) := by decide +kernel
theorem dX7_kept_19 : decode cX7_kept 19 = .ok (.iconst 0, 1) := by decide +kernel
theorem dX7_kept_20 : decode cX7_kept 20 = .ok (.istore_n 2, 1) := by decide +kernel
theorem dX7_kept_21 : decode cX7_kept 21 = .ok (.iconst 0, 1) := by decide +kernel
theorem dX7_kept_22 : decode cX7_kept 22 = .ok (.istore_n 3, 1) := by decide +kernel
theorem dX7_kept_23 : decode cX7_kept 23 = .ok (.iload_n 3, 1) := by decide +kernel
theorem dX7_kept_24 : decode cX7_kept 24 = .ok (.aload_n 0, 1) := by decide +kernel
theorem dX7_kept_25 : decode cX7_kept 25 = .ok (.getfield 20, 3) := by decide +kernel
theorem dX7_kept_28 : decode cX7_kept 28 = .ok (.getfield 97, 3) := by decide +kernel
theorem dX7_kept_31 : decode cX7_kept 31 = .ok (.if_icmp .ge 49, 3) := by decide +kernel
theorem dX7_kept_34 : decode cX7_kept 34 = .ok (.aload_n 0, 1) := by decide +kernel
theorem dX7_kept_35 : decode cX7_kept 35 = .ok (.getfield 20, 3) := by decide +kernel
theorem dX7_kept_38 : decode cX7_kept 38 = .ok (.getfield 135, 3) := by decide +kernel
theorem dX7_kept_41 : decode cX7_kept 41 = .ok (.iload_n 3, 1) := by decide +kernel
theorem dX7_kept_42 : decode cX7_kept 42 = .ok (.aaload, 1) := by decide +kernel
theorem dX7_kept_43 : decode cX7_kept 43 = .ok (.astore 4, 2) := by decide +kernel
theorem dX7_kept_45 : decode cX7_kept 45 = .ok (.iload_n 1, 1) := by decide +kernel
theorem dX7_kept_46 : decode cX7_kept 46 = .ok (.ifCond .ne 14, 3) := by decide +kernel
theorem dX7_kept_49 : decode cX7_kept 49 = .ok (.aload 4, 2) := by decide +kernel
theorem dX7_kept_51 : decode cX7_kept 51 = .ok (.invokevirtual 236, 3) := by decide +kernel
theorem dX7_kept_54 : decode cX7_kept 54 = .ok (.ifCond .eq 20, 3) := by decide +kernel
theorem dX7_kept_57 : decode cX7_kept 57 = .ok (.goto 11, 3) := by decide +kernel
theorem dX7_kept_60 : decode cX7_kept 60 = .ok (.aload 4, 2) := by decide +kernel
theorem dX7_kept_62 : decode cX7_kept 62 = .ok (.invokevirtual 239, 3) := by decide +kernel
theorem dX7_kept_65 : decode cX7_kept 65 = .ok (.ifCond .eq 9, 3) := by decide +kernel
theorem dX7_kept_68 : decode cX7_kept 68 = .ok (.iload_n 2, 1) := by decide +kernel
theorem dX7_kept_69 : decode cX7_kept 69 = .ok (.iconst 1, 1) := by decide +kernel
theorem dX7_kept_70 : decode cX7_kept 70 = .ok (.iload_n 3, 1) := by decide +kernel
theorem dX7_kept_71 : decode cX7_kept 71 = .ok (.ishl, 1) := by decide +kernel
theorem dX7_kept_72 : decode cX7_kept 72 = .ok (.ior, 1) := by decide +kernel
theorem dX7_kept_73 : decode cX7_kept 73 = .ok (.istore_n 2, 1) := by decide +kernel
theorem dX7_kept_74 : decode cX7_kept 74 = .ok (.iinc 3 1, 3) := by decide +kernel
theorem dX7_kept_77 : decode cX7_kept 77 = .ok (.goto (-54), 3) := by decide +kernel
theorem dX7_kept_80 : decode cX7_kept 80 = .ok (.iload_n 2, 1) := by decide +kernel
theorem dX7_kept_81 : decode cX7_kept 81 = .ok (.ireturn, 1) := by decide +kernel
theorem dX7_common_0 : decode cX7_common 0 = .ok (.aload_n 0, 1) := by decide +kernel
theorem dX7_common_1 : decode cX7_common 1 = .ok (.iload_n 1, 1) := by decide +kernel
theorem dX7_common_2 : decode cX7_common 2 = .ok (.invokevirtual 132, 3) := by decide +kernel
theorem dX7_common_5 : decode cX7_common 5 = .ok (.ifCond .eq 11, 3) := by decide +kernel
theorem dX7_common_8 : decode cX7_common 8 = .ok (.aload_n 0, 1) := by decide +kernel
theorem dX7_common_9 : decode cX7_common 9 = .ok (.iload_n 2, 1) := by decide +kernel
theorem dX7_common_10 : decode cX7_common 10 = .ok (.invokevirtual 132, 3) := by decide +kernel
theorem dX7_common_13 : decode cX7_common 13 = .ok (.ifCond .ne 6, 3) := by decide +kernel
theorem dX7_common_16 : decode cX7_common 16 = .ok (.bipush (-2), 2) := by decide +kernel
theorem dX7_common_18 : decode cX7_common 18 = .ok (.ireturn, 1) := by decide +kernel
theorem dX7_common_19 : decode cX7_common 19 = .ok (.aload_n 0, 1) := by decide +kernel
theorem dX7_common_20 : decode cX7_common 20 = .ok (.getfield 20, 3) := by decide +kernel
theorem dX7_common_23 : decode cX7_common 23 = .ok (.getfield 135, 3) := by decide +kernel
theorem dX7_common_26 : decode cX7_common 26 = .ok (.iload_n 1, 1) := by decide +kernel
theorem dX7_common_27 : decode cX7_common 27 = .ok (.aaload, 1) := by decide +kernel
theorem dX7_common_28 : decode cX7_common 28 = .ok (.astore_n 3, 1) := by decide +kernel
theorem dX7_common_29 : decode cX7_common 29 = .ok (.aload_n 0, 1) := by decide +kernel
theorem dX7_common_30 : decode cX7_common 30 = .ok (.getfield 20, 3) := by decide +kernel
theorem dX7_common_33 : decode cX7_common 33 = .ok (.getfield 135, 3) := by decide +kernel
theorem dX7_common_36 : decode cX7_common 36 = .ok (.iload_n 2, 1) := by decide +kernel
theorem dX7_common_37 : decode cX7_common 37 = .ok (.aaload, 1) := by decide +kernel
theorem dX7_common_38 : decode cX7_common 38 = .ok (.astore 4, 2) := by decide +kernel
theorem dX7_common_40 : decode cX7_common 40 = .ok (.aload_n 3, 1) := by decide +kernel
theorem dX7_common_41 : decode cX7_common 41 = .ok (.getfield 144, 3) := by decide +kernel
theorem dX7_common_44 : decode cX7_common 44 = .ok (.aload 4, 2) := by decide +kernel
theorem dX7_common_46 : decode cX7_common 46 = .ok (.getfield 144, 3) := by decide +kernel
theorem dX7_common_49 : decode cX7_common 49 = .ok (.if_icmp .ne 15, 3) := by decide +kernel
theorem dX7_common_52 : decode cX7_common 52 = .ok (.aload_n 3, 1) := by decide +kernel
theorem dX7_common_53 : decode cX7_common 53 = .ok (.getfield 147, 3) := by decide +kernel
theorem dX7_common_56 : decode cX7_common 56 = .ok (.aload 4, 2) := by decide +kernel
theorem dX7_common_58 : decode cX7_common 58 = .ok (.getfield 147, 3) := by decide +kernel
theorem dX7_common_61 : decode cX7_common 61 = .ok (.if_icmp .eq 5, 3) := by decide +kernel
theorem dX7_common_64 : decode cX7_common 64 = .ok (.iconst 0, 1) := by decide +kernel
theorem dX7_common_65 : decode cX7_common 65 = .ok (.ireturn, 1) := by decide +kernel
theorem dX7_common_66 : decode cX7_common 66 = .ok (.aload_n 3, 1) := by decide +kernel
theorem dX7_common_67 : decode cX7_common 67 = .ok (.invokevirtual 272, 3) := by decide +kernel
theorem dX7_common_70 : decode cX7_common 70 = .ok (.aload 4, 2) := by decide +kernel
theorem dX7_common_72 : decode cX7_common 72 = .ok (.invokevirtual 272, 3) := by decide +kernel
theorem dX7_common_75 : decode cX7_common 75 = .ok (.iand, 1) := by decide +kernel
theorem dX7_common_76 : decode cX7_common 76 = .ok (.invokestatic 255, 3) := by decide +kernel
theorem dX7_common_79 : decode cX7_common 79 = .ok (.ireturn, 1) := by decide +kernel
theorem dX7_pairs_0 : decode cX7_pairs 0 = .ok (.aload_n 0, 1) := by decide +kernel
theorem dX7_pairs_1 : decode cX7_pairs 1 = .ok (.iload_n 1, 1) := by decide +kernel
theorem dX7_pairs_2 : decode cX7_pairs 2 = .ok (.invokevirtual 109, 3) := by decide +kernel
theorem dX7_pairs_5 : decode cX7_pairs 5 = .ok (.ifCond .eq 21, 3) := by decide +kernel
theorem dX7_pairs_8 : decode cX7_pairs 8 = .ok (.aload_n 0, 1) := by decide +kernel
theorem dX7_pairs_9 : decode cX7_pairs 9 = .ok (.iload_n 2, 1) := by decide +kernel
theorem dX7_pairs_10 : decode cX7_pairs 10 = .ok (.invokevirtual 245, 3) := by decide +kernel
theorem dX7_pairs_13 : decode cX7_pairs 13 = .ok (.ifCond .eq 13, 3) := by decide +kernel
theorem dX7_pairs_16 : decode cX7_pairs 16 = .ok (.iload_n 3, 1) := by decide +kernel
theorem dX7_pairs_17 : decode cX7_pairs 17 = .ok (.iconst 0, 1) := by decide +kernel
theorem dX7_pairs_18 : decode cX7_pairs 18 = .ok (.bipush 23, 2) := by decide +kernel
theorem dX7_pairs_20 : decode cX7_pairs 20 = .ok (.invokestatic 113, 3) := by decide +kernel
theorem dX7_pairs_23 : decode cX7_pairs 23 = .ok (.ifCond .ne 6, 3) := by decide +kernel
theorem dX7_pairs_26 : decode cX7_pairs 26 = .ok (.bipush (-2), 2) := by decide +kernel
theorem dX7_pairs_28 : decode cX7_pairs 28 = .ok (.ireturn, 1) := by decide +kernel
theorem dX7_pairs_29 : decode cX7_pairs 29 = .ok (.iconst 0, 1) := by decide +kernel
theorem dX7_pairs_30 : decode cX7_pairs 30 = .ok (.istore 4, 2) := by decide +kernel
theorem dX7_pairs_32 : decode cX7_pairs 32 = .ok (.iconst 0, 1) := by decide +kernel
theorem dX7_pairs_33 : decode cX7_pairs 33 = .ok (.istore 5, 2) := by decide +kernel
theorem dX7_pairs_35 : decode cX7_pairs 35 = .ok (.iload 5, 2) := by decide +kernel
theorem dX7_pairs_37 : decode cX7_pairs 37 = .ok (.aload_n 0, 1) := by decide +kernel
theorem dX7_pairs_38 : decode cX7_pairs 38 = .ok (.getfield 20, 3) := by decide +kernel
theorem dX7_pairs_41 : decode cX7_pairs 41 = .ok (.getfield 97, 3) := by decide +kernel
theorem dX7_pairs_44 : decode cX7_pairs 44 = .ok (.if_icmp .ge 51, 3) := by decide +kernel
theorem dX7_pairs_47 : decode cX7_pairs 47 = .ok (.aload_n 0, 1) := by decide +kernel
theorem dX7_pairs_48 : decode cX7_pairs 48 = .ok (.getfield 20, 3) := by decide +kernel
theorem dX7_pairs_51 : decode cX7_pairs 51 = .ok (.getfield 135, 3) := by decide +kernel
theorem dX7_pairs_54 : decode cX7_pairs 54 = .ok (.iload 5, 2) := by decide +kernel
theorem dX7_pairs_56 : decode cX7_pairs 56 = .ok (.aaload, 1) := by decide +kernel
theorem dX7_pairs_57 : decode cX7_pairs 57 = .ok (.astore 6, 2) := by decide +kernel
theorem dX7_pairs_59 : decode cX7_pairs 59 = .ok (.aload 6, 2) := by decide +kernel
theorem dX7_pairs_61 : decode cX7_pairs 61 = .ok (.iload_n 1, 1) := by decide +kernel
theorem dX7_pairs_62 : decode cX7_pairs 62 = .ok (.iload_n 2, 1) := by decide +kernel
theorem dX7_pairs_63 : decode cX7_pairs 63 = .ok (.invokevirtual 248, 3) := by decide +kernel
theorem dX7_pairs_66 : decode cX7_pairs 66 = .ok (.ifCond .eq 23, 3) := by decide +kernel
theorem dX7_pairs_69 : decode cX7_pairs 69 = .ok (.aload 6, 2) := by decide +kernel
theorem dX7_pairs_71 : decode cX7_pairs 71 = .ok (.getfield 150, 3) := by decide +kernel
theorem dX7_pairs_74 : decode cX7_pairs 74 = .ok (.ifCond .ne 15, 3) := by decide +kernel
theorem dX7_pairs_77 : decode cX7_pairs 77 = .ok (.iload 4, 2) := by decide +kernel
theorem dX7_pairs_79 : decode cX7_pairs 79 = .ok (.aload_n 0, 1) := by decide +kernel
theorem dX7_pairs_80 : decode cX7_pairs 80 = .ok (.aload 6, 2) := by decide +kernel
theorem dX7_pairs_82 : decode cX7_pairs 82 = .ok (.iload_n 3, 1) := by decide +kernel
theorem dX7_pairs_83 : decode cX7_pairs 83 = .ok (.invokevirtual 275, 3) := by decide +kernel
theorem dX7_pairs_86 : decode cX7_pairs 86 = .ok (.iadd, 1) := by decide +kernel
theorem dX7_pairs_87 : decode cX7_pairs 87 = .ok (.istore 4, 2) := by decide +kernel
theorem dX7_pairs_89 : decode cX7_pairs 89 = .ok (.iinc 5 1, 3) := by decide +kernel
theorem dX7_pairs_92 : decode cX7_pairs 92 = .ok (.goto (-57), 3) := by decide +kernel
theorem dX7_pairs_95 : decode cX7_pairs 95 = .ok (.iload 4, 2) := by decide +kernel
theorem dX7_pairs_97 : decode cX7_pairs 97 = .ok (.ireturn, 1) := by decide +kernel
theorem dX7_peak_0 : decode cX7_peak 0 = .ok (.aload_n 0, 1) := by decide +kernel
theorem dX7_peak_1 : decode cX7_peak 1 = .ok (.invokevirtual 121, 3) := by decide +kernel
theorem dX7_peak_4 : decode cX7_peak 4 = .ok (.ifCond .eq 12, 3) := by decide +kernel
theorem dX7_peak_7 : decode cX7_peak 7 = .ok (.iload_n 1, 1) := by decide +kernel
theorem dX7_peak_8 : decode cX7_peak 8 = .ok (.iconst 0, 1) := by decide +kernel
theorem dX7_peak_9 : decode cX7_peak 9 = .ok (.iconst 1, 1) := by decide +kernel
theorem dX7_peak_10 : decode cX7_peak 10 = .ok (.invokestatic 113, 3) := by decide +kernel
theorem dX7_peak_13 : decode cX7_peak 13 = .ok (.ifCond .ne 6, 3) := by decide +kernel
theorem dX7_peak_16 : decode cX7_peak 16 = .ok (.bipush (-2), 2) := by decide +kernel
theorem dX7_peak_18 : decode cX7_peak 18 = .ok (.ireturn, 1) := by decide +kernel
theorem dX7_peak_19 : decode cX7_peak 19 = .ok (.aload_n 0, 1) := by decide +kernel
theorem dX7_peak_20 : decode cX7_peak 20 = .ok (.getfield 20, 3) := by decide +kernel
theorem dX7_peak_23 : decode cX7_peak 23 = .ok (.invokevirtual 279, 3) := by decide +kernel
theorem dX7_peak_26 : decode cX7_peak 26 = .ok (.ifCond .eq 5, 3) := by decide +kernel
theorem dX7_peak_29 : decode cX7_peak 29 = .ok (.iconst (-1), 1) := by decide +kernel
theorem dX7_peak_30 : decode cX7_peak 30 = .ok (.ireturn, 1) := by decide +kernel
theorem dX7_peak_31 : decode cX7_peak 31 = .ok (.iconst 0, 1) := by decide +kernel
theorem dX7_peak_32 : decode cX7_peak 32 = .ok (.istore_n 2, 1) := by decide +kernel
theorem dX7_peak_33 : decode cX7_peak 33 = .ok (.sipush 1000, 3) := by decide +kernel
theorem dX7_peak_36 : decode cX7_peak 36 = .ok (.aload_n 0, 1) := by decide +kernel
theorem dX7_peak_37 : decode cX7_peak 37 = .ok (.getfield 20, 3) := by decide +kernel
theorem dX7_peak_40 : decode cX7_peak 40 = .ok (.getfield 103, 3) := by decide +kernel
theorem dX7_peak_43 : decode cX7_peak 43 = .ok (.imul, 1) := by decide +kernel
theorem dX7_peak_44 : decode cX7_peak 44 = .ok (.istore_n 3, 1) := by decide +kernel
theorem dX7_peak_45 : decode cX7_peak 45 = .ok (.aload_n 0, 1) := by decide +kernel
theorem dX7_peak_46 : decode cX7_peak 46 = .ok (.getfield 20, 3) := by decide +kernel
theorem dX7_peak_49 : decode cX7_peak 49 = .ok (.getfield 103, 3) := by decide +kernel
theorem dX7_peak_52 : decode cX7_peak 52 = .ok (.istore 4, 2) := by decide +kernel
theorem dX7_peak_54 : decode cX7_peak 54 = .ok (.iload 4, 2) := by decide +kernel
theorem dX7_peak_56 : decode cX7_peak 56 = .ok (.aload_n 0, 1) := by decide +kernel
theorem dX7_peak_57 : decode cX7_peak 57 = .ok (.getfield 20, 3) := by decide +kernel
theorem dX7_peak_60 : decode cX7_peak 60 = .ok (.getfield 91, 3) := by decide +kernel
theorem dX7_peak_63 : decode cX7_peak 63 = .ok (.if_icmp .ge 120, 3) := by decide +kernel
theorem dX7_peak_66 : decode cX7_peak 66 = .ok (.iconst 0, 1) := by decide +kernel
theorem dX7_peak_67 : decode cX7_peak 67 = .ok (.istore 5, 2) := by decide +kernel
theorem dX7_peak_69 : decode cX7_peak 69 = .ok (.iload 5, 2) := by decide +kernel
theorem dX7_peak_71 : decode cX7_peak 71 = .ok (.aload_n 0, 1) := by decide +kernel
theorem dX7_peak_72 : decode cX7_peak 72 = .ok (.getfield 20, 3) := by decide +kernel
theorem dX7_peak_75 : decode cX7_peak 75 = .ok (.getfield 97, 3) := by decide +kernel
theorem dX7_peak_78 : decode cX7_peak 78 = .ok (.if_icmp .ge 99, 3) := by decide +kernel
theorem dX7_peak_81 : decode cX7_peak 81 = .ok (.aload_n 0, 1) := by decide +kernel
theorem dX7_peak_82 : decode cX7_peak 82 = .ok (.getfield 20, 3) := by decide +kernel
theorem dX7_peak_85 : decode cX7_peak 85 = .ok (.getfield 135, 3) := by decide +kernel
theorem dX7_peak_88 : decode cX7_peak 88 = .ok (.iload 5, 2) := by decide +kernel
theorem dX7_peak_90 : decode cX7_peak 90 = .ok (.aaload, 1) := by decide +kernel
theorem dX7_peak_91 : decode cX7_peak 91 = .ok (.astore 6, 2) := by decide +kernel
theorem dX7_peak_93 : decode cX7_peak 93 = .ok (.aload 6, 2) := by decide +kernel
theorem dX7_peak_95 : decode cX7_peak 95 = .ok (.iload 4, 2) := by decide +kernel
theorem dX7_peak_97 : decode cX7_peak 97 = .ok (.invokevirtual 282, 3) := by decide +kernel
theorem dX7_peak_100 : decode cX7_peak 100 = .ok (.ifCond .eq 71, 3) := by decide +kernel
theorem dX7_peak_103 : decode cX7_peak 103 = .ok (.aload_n 0, 1) := by decide +kernel
theorem dX7_peak_104 : decode cX7_peak 104 = .ok (.getfield 20, 3) := by decide +kernel
theorem dX7_peak_107 : decode cX7_peak 107 = .ok (.iload 4, 2) := by decide +kernel
theorem dX7_peak_109 : decode cX7_peak 109 = .ok (.aload 6, 2) := by decide +kernel
theorem dX7_peak_111 : decode cX7_peak 111 = .ok (.getfield 144, 3) := by decide +kernel
theorem dX7_peak_114 : decode cX7_peak 114 = .ok (.aload 6, 2) := by decide +kernel
theorem dX7_peak_116 : decode cX7_peak 116 = .ok (.getfield 147, 3) := by decide +kernel
theorem dX7_peak_119 : decode cX7_peak 119 = .ok (.invokevirtual 208, 3) := by decide +kernel
theorem dX7_peak_122 : decode cX7_peak 122 = .ok (.istore 7, 2) := by decide +kernel
theorem dX7_peak_124 : decode cX7_peak 124 = .ok (.sipush 1000, 3) := by decide +kernel
theorem dX7_peak_127 : decode cX7_peak 127 = .ok (.iload 4, 2) := by decide +kernel
theorem dX7_peak_129 : decode cX7_peak 129 = .ok (.imul, 1) := by decide +kernel
theorem dX7_peak_130 : decode cX7_peak 130 = .ok (.bipush 100, 2) := by decide +kernel
theorem dX7_peak_132 : decode cX7_peak 132 = .ok (.aload 6, 2) := by decide +kernel
theorem dX7_peak_134 : decode cX7_peak 134 = .ok (.getfield 144, 3) := by decide +kernel
theorem dX7_peak_137 : decode cX7_peak 137 = .ok (.imul, 1) := by decide +kernel
theorem dX7_peak_138 : decode cX7_peak 138 = .ok (.iadd, 1) := by decide +kernel
theorem dX7_peak_139 : decode cX7_peak 139 = .ok (.aload 6, 2) := by decide +kernel
theorem dX7_peak_141 : decode cX7_peak 141 = .ok (.getfield 147, 3) := by decide +kernel
theorem dX7_peak_144 : decode cX7_peak 144 = .ok (.iadd, 1) := by decide +kernel
theorem dX7_peak_145 : decode cX7_peak 145 = .ok (.istore 8, 2) := by decide +kernel
theorem dX7_peak_147 : decode cX7_peak 147 = .ok (.iload 7, 2) := by decide +kernel
theorem dX7_peak_149 : decode cX7_peak 149 = .ok (.iload_n 2, 1) := by decide +kernel
theorem dX7_peak_150 : decode cX7_peak 150 = .ok (.if_icmp .gt 15, 3) := by decide +kernel
theorem dX7_peak_153 : decode cX7_peak 153 = .ok (.iload 7, 2) := by decide +kernel
theorem dX7_peak_155 : decode cX7_peak 155 = .ok (.iload_n 2, 1) := by decide +kernel
theorem dX7_peak_156 : decode cX7_peak 156 = .ok (.if_icmp .ne 15, 3) := by decide +kernel
theorem dX7_peak_159 : decode cX7_peak 159 = .ok (.iload 8, 2) := by decide +kernel
theorem dX7_peak_161 : decode cX7_peak 161 = .ok (.iload_n 3, 1) := by decide +kernel
theorem dX7_peak_162 : decode cX7_peak 162 = .ok (.if_icmp .ge 9, 3) := by decide +kernel
theorem dX7_peak_165 : decode cX7_peak 165 = .ok (.iload 7, 2) := by decide +kernel
theorem dX7_peak_167 : decode cX7_peak 167 = .ok (.istore_n 2, 1) := by decide +kernel
theorem dX7_peak_168 : decode cX7_peak 168 = .ok (.iload 8, 2) := by decide +kernel
theorem dX7_peak_170 : decode cX7_peak 170 = .ok (.istore_n 3, 1) := by decide +kernel
theorem dX7_peak_171 : decode cX7_peak 171 = .ok (.iinc 5 1, 3) := by decide +kernel
theorem dX7_peak_174 : decode cX7_peak 174 = .ok (.goto (-105), 3) := by decide +kernel
theorem dX7_peak_177 : decode cX7_peak 177 = .ok (.iinc 4 1, 3) := by decide +kernel
theorem dX7_peak_180 : decode cX7_peak 180 = .ok (.goto (-126), 3) := by decide +kernel
theorem dX7_peak_183 : decode cX7_peak 183 = .ok (.iload_n 1, 1) := by decide +kernel
theorem dX7_peak_184 : decode cX7_peak 184 = .ok (.ifCond .ne 7, 3) := by decide +kernel
theorem dX7_peak_187 : decode cX7_peak 187 = .ok (.iload_n 2, 1) := by decide +kernel
theorem dX7_peak_188 : decode cX7_peak 188 = .ok (.goto 4, 3) := by decide +kernel
theorem dX7_peak_191 : decode cX7_peak 191 = .ok (.iload_n 3, 1) := by decide +kernel
theorem dX7_peak_192 : decode cX7_peak 192 = .ok (.ireturn, 1) := by decide +kernel
theorem dX7_full_0 : decode cX7_full 0 = .ok (.aload_n 0, 1) := by decide +kernel
theorem dX7_full_1 : decode cX7_full 1 = .ok (.iload_n 1, 1) := by decide +kernel
theorem dX7_full_2 : decode cX7_full 2 = .ok (.invokevirtual 245, 3) := by decide +kernel
theorem dX7_full_5 : decode cX7_full 5 = .ok (.ifCond .ne 6, 3) := by decide +kernel
theorem dX7_full_8 : decode cX7_full 8 = .ok (.bipush (-2), 2) := by decide +kernel
theorem dX7_full_10 : decode cX7_full 10 = .ok (.ireturn, 1) := by decide +kernel
theorem dX7_full_11 : decode cX7_full 11 = .ok (.iconst 0, 1) := by decide +kernel
theorem dX7_full_12 : decode cX7_full 12 = .ok (.istore_n 2, 1) := by decide +kernel
theorem dX7_full_13 : decode cX7_full 13 = .ok (.iconst 0, 1) := by decide +kernel
theorem dX7_full_14 : decode cX7_full 14 = .ok (.istore_n 3, 1) := by decide +kernel
theorem dX7_full_15 : decode cX7_full 15 = .ok (.iload_n 3, 1) := by decide +kernel
theorem dX7_full_16 : decode cX7_full 16 = .ok (.bipush 24, 2) := by decide +kernel
theorem dX7_full_18 : decode cX7_full 18 = .ok (.if_icmp .ge 47, 3) := by decide +kernel
theorem dX7_full_21 : decode cX7_full 21 = .ok (.aload_n 0, 1) := by decide +kernel
theorem dX7_full_22 : decode cX7_full 22 = .ok (.getfield 20, 3) := by decide +kernel
theorem dX7_full_25 : decode cX7_full 25 = .ok (.iload_n 1, 1) := by decide +kernel
theorem dX7_full_26 : decode cX7_full 26 = .ok (.iload_n 3, 1) := by decide +kernel
theorem dX7_full_27 : decode cX7_full 27 = .ok (.aload_n 0, 1) := by decide +kernel
theorem dX7_full_28 : decode cX7_full 28 = .ok (.getfield 20, 3) := by decide +kernel
theorem dX7_full_31 : decode cX7_full 31 = .ok (.getfield 198, 3) := by decide +kernel
theorem dX7_full_34 : decode cX7_full 34 = .ok (.iload_n 3, 1) := by decide +kernel
theorem dX7_full_35 : decode cX7_full 35 = .ok (.iaload, 1) := by decide +kernel
theorem dX7_full_36 : decode cX7_full 36 = .ok (.iconst 0, 1) := by decide +kernel
theorem dX7_full_37 : decode cX7_full 37 = .ok (.iconst 0, 1) := by decide +kernel
theorem dX7_full_38 : decode cX7_full 38 = .ok (.invokevirtual 285, 3) := by decide +kernel
theorem dX7_full_41 : decode cX7_full 41 = .ok (.istore 4, 2) := by decide +kernel
theorem dX7_full_43 : decode cX7_full 43 = .ok (.iload_n 2, 1) := by decide +kernel
theorem dX7_full_44 : decode cX7_full 44 = .ok (.iload 4, 2) := by decide +kernel
theorem dX7_full_46 : decode cX7_full 46 = .ok (.aload_n 0, 1) := by decide +kernel
theorem dX7_full_47 : decode cX7_full 47 = .ok (.getfield 20, 3) := by decide +kernel
theorem dX7_full_50 : decode cX7_full 50 = .ok (.invokevirtual 289, 3) := by decide +kernel
theorem dX7_full_53 : decode cX7_full 53 = .ok (.iand, 1) := by decide +kernel
theorem dX7_full_54 : decode cX7_full 54 = .ok (.invokestatic 255, 3) := by decide +kernel
theorem dX7_full_57 : decode cX7_full 57 = .ok (.iadd, 1) := by decide +kernel
theorem dX7_full_58 : decode cX7_full 58 = .ok (.istore_n 2, 1) := by decide +kernel
theorem dX7_full_59 : decode cX7_full 59 = .ok (.iinc 3 1, 3) := by decide +kernel
theorem dX7_full_62 : decode cX7_full 62 = .ok (.goto (-47), 3) := by decide +kernel
theorem dX7_full_65 : decode cX7_full 65 = .ok (.iload_n 2, 1) := by decide +kernel
theorem dX7_full_66 : decode cX7_full 66 = .ok (.ireturn, 1) := by decide +kernel
theorem dX7_idle_0 : decode cX7_idle 0 = .ok (.aload_n 0, 1) := by decide +kernel
theorem dX7_idle_1 : decode cX7_idle 1 = .ok (.iload_n 1, 1) := by decide +kernel
theorem dX7_idle_2 : decode cX7_idle 2 = .ok (.invokevirtual 245, 3) := by decide +kernel
theorem dX7_idle_5 : decode cX7_idle 5 = .ok (.ifCond .ne 6, 3) := by decide +kernel
theorem dX7_idle_8 : decode cX7_idle 8 = .ok (.bipush (-2), 2) := by decide +kernel
theorem dX7_idle_10 : decode cX7_idle 10 = .ok (.ireturn, 1) := by decide +kernel
theorem dX7_idle_11 : decode cX7_idle 11 = .ok (.iconst 0, 1) := by decide +kernel
theorem dX7_idle_12 : decode cX7_idle 12 = .ok (.istore_n 2, 1) := by decide +kernel
theorem dX7_idle_13 : decode cX7_idle 13 = .ok (.iconst 0, 1) := by decide +kernel
theorem dX7_idle_14 : decode cX7_idle 14 = .ok (.istore_n 3, 1) := by decide +kernel
theorem dX7_idle_15 : decode cX7_idle 15 = .ok (.iload_n 3, 1) := by decide +kernel
theorem dX7_idle_16 : decode cX7_idle 16 = .ok (.bipush 24, 2) := by decide +kernel
theorem dX7_idle_18 : decode cX7_idle 18 = .ok (.if_icmp .ge 42, 3) := by decide +kernel
theorem dX7_idle_21 : decode cX7_idle 21 = .ok (.aload_n 0, 1) := by decide +kernel
theorem dX7_idle_22 : decode cX7_idle 22 = .ok (.getfield 20, 3) := by decide +kernel
theorem dX7_idle_25 : decode cX7_idle 25 = .ok (.iload_n 1, 1) := by decide +kernel
theorem dX7_idle_26 : decode cX7_idle 26 = .ok (.iload_n 3, 1) := by decide +kernel
theorem dX7_idle_27 : decode cX7_idle 27 = .ok (.iconst 1, 1) := by decide +kernel
theorem dX7_idle_28 : decode cX7_idle 28 = .ok (.iconst 0, 1) := by decide +kernel
theorem dX7_idle_29 : decode cX7_idle 29 = .ok (.iconst 0, 1) := by decide +kernel
theorem dX7_idle_30 : decode cX7_idle 30 = .ok (.invokevirtual 285, 3) := by decide +kernel
theorem dX7_idle_33 : decode cX7_idle 33 = .ok (.istore 4, 2) := by decide +kernel
theorem dX7_idle_35 : decode cX7_idle 35 = .ok (.iload 4, 2) := by decide +kernel
theorem dX7_idle_37 : decode cX7_idle 37 = .ok (.aload_n 0, 1) := by decide +kernel
theorem dX7_idle_38 : decode cX7_idle 38 = .ok (.getfield 20, 3) := by decide +kernel
theorem dX7_idle_41 : decode cX7_idle 41 = .ok (.invokevirtual 289, 3) := by decide +kernel
theorem dX7_idle_44 : decode cX7_idle 44 = .ok (.iand, 1) := by decide +kernel
theorem dX7_idle_45 : decode cX7_idle 45 = .ok (.ifCond .ne 9, 3) := by decide +kernel
theorem dX7_idle_48 : decode cX7_idle 48 = .ok (.iload_n 2, 1) := by decide +kernel
theorem dX7_idle_49 : decode cX7_idle 49 = .ok (.iconst 1, 1) := by decide +kernel
theorem dX7_idle_50 : decode cX7_idle 50 = .ok (.iload_n 3, 1) := by decide +kernel
theorem dX7_idle_51 : decode cX7_idle 51 = .ok (.ishl, 1) := by decide +kernel
theorem dX7_idle_52 : decode cX7_idle 52 = .ok (.ior, 1) := by decide +kernel
theorem dX7_idle_53 : decode cX7_idle 53 = .ok (.istore_n 2, 1) := by decide +kernel
theorem dX7_idle_54 : decode cX7_idle 54 = .ok (.iinc 3 1, 3) := by decide +kernel
theorem dX7_idle_57 : decode cX7_idle 57 = .ok (.goto (-42), 3) := by decide +kernel
theorem dX7_idle_60 : decode cX7_idle 60 = .ok (.iload_n 2, 1) := by decide +kernel
theorem dX7_idle_61 : decode cX7_idle 61 = .ok (.ireturn, 1) := by decide +kernel
theorem dX7_fitting_0 : decode cX7_fitting 0 = .ok (.aload_n 0, 1) := by decide +kernel
theorem dX7_fitting_1 : decode cX7_fitting 1 = .ok (.iload_n 1, 1) := by decide +kernel
theorem dX7_fitting_2 : decode cX7_fitting 2 = .ok (.invokevirtual 245, 3) := by decide +kernel
theorem dX7_fitting_5 : decode cX7_fitting 5 = .ok (.ifCond .eq 33, 3) := by decide +kernel
theorem dX7_fitting_8 : decode cX7_fitting 8 = .ok (.iload_n 2, 1) := by decide +kernel
theorem dX7_fitting_9 : decode cX7_fitting 9 = .ok (.invokestatic 218, 3) := by decide +kernel
theorem dX7_fitting_12 : decode cX7_fitting 12 = .ok (.ifCond .eq 26, 3) := by decide +kernel
theorem dX7_fitting_15 : decode cX7_fitting 15 = .ok (.aload_n 0, 1) := by decide +kernel
theorem dX7_fitting_16 : decode cX7_fitting 16 = .ok (.iload_n 3, 1) := by decide +kernel
theorem dX7_fitting_17 : decode cX7_fitting 17 = .ok (.invokevirtual 167, 3) := by decide +kernel
theorem dX7_fitting_20 : decode cX7_fitting 20 = .ok (.ifCond .eq 18, 3) := by decide +kernel
theorem dX7_fitting_23 : decode cX7_fitting 23 = .ok (.aload_n 0, 1) := by decide +kernel
theorem dX7_fitting_24 : decode cX7_fitting 24 = .ok (.iload 4, 2) := by decide +kernel
theorem dX7_fitting_26 : decode cX7_fitting 26 = .ok (.invokevirtual 167, 3) := by decide +kernel
theorem dX7_fitting_29 : decode cX7_fitting 29 = .ok (.ifCond .eq 9, 3) := by decide +kernel
theorem dX7_fitting_32 : decode cX7_fitting 32 = .ok (.iload 4, 2) := by decide +kernel
theorem dX7_fitting_34 : decode cX7_fitting 34 = .ok (.iload_n 3, 1) := by decide +kernel
theorem dX7_fitting_35 : decode cX7_fitting 35 = .ok (.if_icmp .ge 6, 3) := by decide +kernel
theorem dX7_fitting_38 : decode cX7_fitting 38 = .ok (.bipush (-2), 2) := by decide +kernel
theorem dX7_fitting_40 : decode cX7_fitting 40 = .ok (.ireturn, 1) := by decide +kernel
theorem dX7_fitting_41 : decode cX7_fitting 41 = .ok (.iload_n 3, 1) := by decide +kernel
theorem dX7_fitting_42 : decode cX7_fitting 42 = .ok (.iload 4, 2) := by decide +kernel
theorem dX7_fitting_44 : decode cX7_fitting 44 = .ok (.invokestatic 292, 3) := by decide +kernel
theorem dX7_fitting_47 : decode cX7_fitting 47 = .ok (.istore 5, 2) := by decide +kernel
theorem dX7_fitting_49 : decode cX7_fitting 49 = .ok (.iconst 0, 1) := by decide +kernel
theorem dX7_fitting_50 : decode cX7_fitting 50 = .ok (.istore 6, 2) := by decide +kernel
theorem dX7_fitting_52 : decode cX7_fitting 52 = .ok (.iconst 0, 1) := by decide +kernel
theorem dX7_fitting_53 : decode cX7_fitting 53 = .ok (.istore 7, 2) := by decide +kernel
theorem dX7_fitting_55 : decode cX7_fitting 55 = .ok (.iload 7, 2) := by decide +kernel
theorem dX7_fitting_57 : decode cX7_fitting 57 = .ok (.bipush 24, 2) := by decide +kernel
theorem dX7_fitting_59 : decode cX7_fitting 59 = .ok (.if_icmp .ge 35, 3) := by decide +kernel
theorem dX7_fitting_62 : decode cX7_fitting 62 = .ok (.aload_n 0, 1) := by decide +kernel
