theorem dX7_fitting_63 : decode cX7_fitting 63 = .ok (.getfield 20, 3) := by decide +kernel
theorem dX7_fitting_66 : decode cX7_fitting 66 = .ok (.iload_n 1, 1) := by decide +kernel
theorem dX7_fitting_67 : decode cX7_fitting 67 = .ok (.iload 7, 2) := by decide +kernel
theorem dX7_fitting_69 : decode cX7_fitting 69 = .ok (.iload_n 2, 1) := by decide +kernel
theorem dX7_fitting_70 : decode cX7_fitting 70 = .ok (.iload 5, 2) := by decide +kernel
theorem dX7_fitting_72 : decode cX7_fitting 72 = .ok (.iconst 0, 1) := by decide +kernel
theorem dX7_fitting_73 : decode cX7_fitting 73 = .ok (.invokevirtual 295, 3) := by decide +kernel
theorem dX7_fitting_76 : decode cX7_fitting 76 = .ok (.ifCond .eq 12, 3) := by decide +kernel
theorem dX7_fitting_79 : decode cX7_fitting 79 = .ok (.iload 6, 2) := by decide +kernel
theorem dX7_fitting_81 : decode cX7_fitting 81 = .ok (.iconst 1, 1) := by decide +kernel
theorem dX7_fitting_82 : decode cX7_fitting 82 = .ok (.iload 7, 2) := by decide +kernel
theorem dX7_fitting_84 : decode cX7_fitting 84 = .ok (.ishl, 1) := by decide +kernel
theorem dX7_fitting_85 : decode cX7_fitting 85 = .ok (.ior, 1) := by decide +kernel
theorem dX7_fitting_86 : decode cX7_fitting 86 = .ok (.istore 6, 2) := by decide +kernel
theorem dX7_fitting_88 : decode cX7_fitting 88 = .ok (.iinc 7 1, 3) := by decide +kernel
theorem dX7_fitting_91 : decode cX7_fitting 91 = .ok (.goto (-36), 3) := by decide +kernel
theorem dX7_fitting_94 : decode cX7_fitting 94 = .ok (.iload 6, 2) := by decide +kernel
theorem dX7_fitting_96 : decode cX7_fitting 96 = .ok (.ireturn, 1) := by decide +kernel
theorem dX7_fits_0 : decode cX7_fits 0 = .ok (.aload_n 0, 1) := by decide +kernel
theorem dX7_fits_1 : decode cX7_fits 1 = .ok (.iload_n 1, 1) := by decide +kernel
theorem dX7_fits_2 : decode cX7_fits 2 = .ok (.invokevirtual 173, 3) := by decide +kernel
theorem dX7_fits_5 : decode cX7_fits 5 = .ok (.ifCond .ne 6, 3) := by decide +kernel
theorem dX7_fits_8 : decode cX7_fits 8 = .ok (.bipush (-2), 2) := by decide +kernel
theorem dX7_fits_10 : decode cX7_fits 10 = .ok (.ireturn, 1) := by decide +kernel
theorem dX7_fits_11 : decode cX7_fits 11 = .ok (.aload_n 0, 1) := by decide +kernel
theorem dX7_fits_12 : decode cX7_fits 12 = .ok (.getfield 20, 3) := by decide +kernel
theorem dX7_fits_15 : decode cX7_fits 15 = .ok (.getfield 176, 3) := by decide +kernel
theorem dX7_fits_18 : decode cX7_fits 18 = .ok (.iload_n 1, 1) := by decide +kernel
theorem dX7_fits_19 : decode cX7_fits 19 = .ok (.aaload, 1) := by decide +kernel
theorem dX7_fits_20 : decode cX7_fits 20 = .ok (.astore_n 2, 1) := by decide +kernel
theorem dX7_fits_21 : decode cX7_fits 21 = .ok (.aload_n 2, 1) := by decide +kernel
theorem dX7_fits_22 : decode cX7_fits 22 = .ok (.getfield 189, 3) := by decide +kernel
theorem dX7_fits_25 : decode cX7_fits 25 = .ok (.aload_n 0, 1) := by decide +kernel
theorem dX7_fits_26 : decode cX7_fits 26 = .ok (.getfield 20, 3) := by decide +kernel
theorem dX7_fits_29 : decode cX7_fits 29 = .ok (.getfield 103, 3) := by decide +kernel
theorem dX7_fits_32 : decode cX7_fits 32 = .ok (.if_icmp .ge 5, 3) := by decide +kernel
theorem dX7_fits_35 : decode cX7_fits 35 = .ok (.iconst (-1), 1) := by decide +kernel
theorem dX7_fits_36 : decode cX7_fits 36 = .ok (.ireturn, 1) := by decide +kernel
theorem dX7_fits_37 : decode cX7_fits 37 = .ok (.aload_n 0, 1) := by decide +kernel
theorem dX7_fits_38 : decode cX7_fits 38 = .ok (.getfield 20, 3) := by decide +kernel
theorem dX7_fits_41 : decode cX7_fits 41 = .ok (.aload_n 2, 1) := by decide +kernel
theorem dX7_fits_42 : decode cX7_fits 42 = .ok (.aload_n 2, 1) := by decide +kernel
theorem dX7_fits_43 : decode cX7_fits 43 = .ok (.getfield 184, 3) := by decide +kernel
theorem dX7_fits_46 : decode cX7_fits 46 = .ok (.iconst 0, 1) := by decide +kernel
theorem dX7_fits_47 : decode cX7_fits 47 = .ok (.invokevirtual 299, 3) := by decide +kernel
theorem dX7_fits_50 : decode cX7_fits 50 = .ok (.ifCond .eq 7, 3) := by decide +kernel
theorem dX7_fits_53 : decode cX7_fits 53 = .ok (.iconst 1, 1) := by decide +kernel
theorem dX7_fits_54 : decode cX7_fits 54 = .ok (.goto 4, 3) := by decide +kernel
theorem dX7_fits_57 : decode cX7_fits 57 = .ok (.iconst 0, 1) := by decide +kernel
theorem dX7_fits_58 : decode cX7_fits 58 = .ok (.ireturn, 1) := by decide +kernel
theorem dX7_where_0 : decode cX7_where 0 = .ok (.aload_n 0, 1) := by decide +kernel
theorem dX7_where_1 : decode cX7_where 1 = .ok (.iload_n 1, 1) := by decide +kernel
theorem dX7_where_2 : decode cX7_where 2 = .ok (.invokevirtual 173, 3) := by decide +kernel
theorem dX7_where_5 : decode cX7_where 5 = .ok (.ifCond .ne 6, 3) := by decide +kernel
theorem dX7_where_8 : decode cX7_where 8 = .ok (.bipush (-2), 2) := by decide +kernel
theorem dX7_where_10 : decode cX7_where 10 = .ok (.ireturn, 1) := by decide +kernel
theorem dX7_where_11 : decode cX7_where 11 = .ok (.aload_n 0, 1) := by decide +kernel
theorem dX7_where_12 : decode cX7_where 12 = .ok (.getfield 20, 3) := by decide +kernel
theorem dX7_where_15 : decode cX7_where 15 = .ok (.aload_n 0, 1) := by decide +kernel
theorem dX7_where_16 : decode cX7_where 16 = .ok (.getfield 20, 3) := by decide +kernel
theorem dX7_where_19 : decode cX7_where 19 = .ok (.getfield 176, 3) := by decide +kernel
theorem dX7_where_22 : decode cX7_where 22 = .ok (.iload_n 1, 1) := by decide +kernel
theorem dX7_where_23 : decode cX7_where 23 = .ok (.aaload, 1) := by decide +kernel
theorem dX7_where_24 : decode cX7_where 24 = .ok (.invokevirtual 303, 3) := by decide +kernel
theorem dX7_where_27 : decode cX7_where 27 = .ok (.ireturn, 1) := by decide +kernel
theorem dX7_blocked_0 : decode cX7_blocked 0 = .ok (.aload_n 0, 1) := by decide +kernel
theorem dX7_blocked_1 : decode cX7_blocked 1 = .ok (.iload_n 1, 1) := by decide +kernel
theorem dX7_blocked_2 : decode cX7_blocked 2 = .ok (.invokevirtual 173, 3) := by decide +kernel
theorem dX7_blocked_5 : decode cX7_blocked 5 = .ok (.ifCond .ne 6, 3) := by decide +kernel
theorem dX7_blocked_8 : decode cX7_blocked 8 = .ok (.bipush (-2), 2) := by decide +kernel
theorem dX7_blocked_10 : decode cX7_blocked 10 = .ok (.ireturn, 1) := by decide +kernel
theorem dX7_blocked_11 : decode cX7_blocked 11 = .ok (.aload_n 0, 1) := by decide +kernel
theorem dX7_blocked_12 : decode cX7_blocked 12 = .ok (.getfield 20, 3) := by decide +kernel
theorem dX7_blocked_15 : decode cX7_blocked 15 = .ok (.getfield 176, 3) := by decide +kernel
theorem dX7_blocked_18 : decode cX7_blocked 18 = .ok (.iload_n 1, 1) := by decide +kernel
theorem dX7_blocked_19 : decode cX7_blocked 19 = .ok (.aaload, 1) := by decide +kernel
theorem dX7_blocked_20 : decode cX7_blocked 20 = .ok (.astore_n 2, 1) := by decide +kernel
theorem dX7_blocked_21 : decode cX7_blocked 21 = .ok (.aload_n 0, 1) := by decide +kernel
theorem dX7_blocked_22 : decode cX7_blocked 22 = .ok (.getfield 20, 3) := by decide +kernel
theorem dX7_blocked_25 : decode cX7_blocked 25 = .ok (.aload_n 2, 1) := by decide +kernel
theorem dX7_blocked_26 : decode cX7_blocked 26 = .ok (.aload_n 2, 1) := by decide +kernel
theorem dX7_blocked_27 : decode cX7_blocked 27 = .ok (.getfield 184, 3) := by decide +kernel
theorem dX7_blocked_30 : decode cX7_blocked 30 = .ok (.iconst 0, 1) := by decide +kernel
theorem dX7_blocked_31 : decode cX7_blocked 31 = .ok (.invokevirtual 299, 3) := by decide +kernel
theorem dX7_blocked_34 : decode cX7_blocked 34 = .ok (.ifCond .eq 5, 3) := by decide +kernel
theorem dX7_blocked_37 : decode cX7_blocked 37 = .ok (.iconst 0, 1) := by decide +kernel
theorem dX7_blocked_38 : decode cX7_blocked 38 = .ok (.ireturn, 1) := by decide +kernel
theorem dX7_blocked_39 : decode cX7_blocked 39 = .ok (.iconst 0, 1) := by decide +kernel
theorem dX7_blocked_40 : decode cX7_blocked 40 = .ok (.istore_n 3, 1) := by decide +kernel
theorem dX7_blocked_41 : decode cX7_blocked 41 = .ok (.iconst 0, 1) := by decide +kernel
theorem dX7_blocked_42 : decode cX7_blocked 42 = .ok (.istore 4, 2) := by decide +kernel
theorem dX7_blocked_44 : decode cX7_blocked 44 = .ok (.iload 4, 2) := by decide +kernel
theorem dX7_blocked_46 : decode cX7_blocked 46 = .ok (.aload_n 0, 1) := by decide +kernel
theorem dX7_blocked_47 : decode cX7_blocked 47 = .ok (.getfield 20, 3) := by decide +kernel
theorem dX7_blocked_50 : decode cX7_blocked 50 = .ok (.getfield 97, 3) := by decide +kernel
theorem dX7_blocked_53 : decode cX7_blocked 53 = .ok (.if_icmp .ge 35, 3) := by decide +kernel
theorem dX7_blocked_56 : decode cX7_blocked 56 = .ok (.aload_n 0, 1) := by decide +kernel
theorem dX7_blocked_57 : decode cX7_blocked 57 = .ok (.getfield 20, 3) := by decide +kernel
theorem dX7_blocked_60 : decode cX7_blocked 60 = .ok (.aload_n 2, 1) := by decide +kernel
theorem dX7_blocked_61 : decode cX7_blocked 61 = .ok (.aload_n 2, 1) := by decide +kernel
theorem dX7_blocked_62 : decode cX7_blocked 62 = .ok (.getfield 184, 3) := by decide +kernel
theorem dX7_blocked_65 : decode cX7_blocked 65 = .ok (.iconst 1, 1) := by decide +kernel
theorem dX7_blocked_66 : decode cX7_blocked 66 = .ok (.iload 4, 2) := by decide +kernel
theorem dX7_blocked_68 : decode cX7_blocked 68 = .ok (.ishl, 1) := by decide +kernel
theorem dX7_blocked_69 : decode cX7_blocked 69 = .ok (.invokevirtual 299, 3) := by decide +kernel
theorem dX7_blocked_72 : decode cX7_blocked 72 = .ok (.ifCond .eq 10, 3) := by decide +kernel
theorem dX7_blocked_75 : decode cX7_blocked 75 = .ok (.iload_n 3, 1) := by decide +kernel
theorem dX7_blocked_76 : decode cX7_blocked 76 = .ok (.iconst 1, 1) := by decide +kernel
theorem dX7_blocked_77 : decode cX7_blocked 77 = .ok (.iload 4, 2) := by decide +kernel
theorem dX7_blocked_79 : decode cX7_blocked 79 = .ok (.ishl, 1) := by decide +kernel
theorem dX7_blocked_80 : decode cX7_blocked 80 = .ok (.ior, 1) := by decide +kernel
theorem dX7_blocked_81 : decode cX7_blocked 81 = .ok (.istore_n 3, 1) := by decide +kernel
theorem dX7_blocked_82 : decode cX7_blocked 82 = .ok (.iinc 4 1, 3) := by decide +kernel
theorem dX7_blocked_85 : decode cX7_blocked 85 = .ok (.goto (-41), 3) := by decide +kernel
theorem dX7_blocked_88 : decode cX7_blocked 88 = .ok (.iload_n 3, 1) := by decide +kernel
theorem dX7_blocked_89 : decode cX7_blocked 89 = .ok (.ireturn, 1) := by decide +kernel
theorem dX7_clash_0 : decode cX7_clash 0 = .ok (.aload_n 0, 1) := by decide +kernel
theorem dX7_clash_1 : decode cX7_clash 1 = .ok (.iload_n 1, 1) := by decide +kernel
theorem dX7_clash_2 : decode cX7_clash 2 = .ok (.invokevirtual 173, 3) := by decide +kernel
theorem dX7_clash_5 : decode cX7_clash 5 = .ok (.ifCond .eq 11, 3) := by decide +kernel
theorem dX7_clash_8 : decode cX7_clash 8 = .ok (.aload_n 0, 1) := by decide +kernel
theorem dX7_clash_9 : decode cX7_clash 9 = .ok (.iload_n 2, 1) := by decide +kernel
theorem dX7_clash_10 : decode cX7_clash 10 = .ok (.invokevirtual 173, 3) := by decide +kernel
theorem dX7_clash_13 : decode cX7_clash 13 = .ok (.ifCond .ne 6, 3) := by decide +kernel
theorem dX7_clash_16 : decode cX7_clash 16 = .ok (.bipush (-2), 2) := by decide +kernel
theorem dX7_clash_18 : decode cX7_clash 18 = .ok (.ireturn, 1) := by decide +kernel
theorem dX7_clash_19 : decode cX7_clash 19 = .ok (.aload_n 0, 1) := by decide +kernel
theorem dX7_clash_20 : decode cX7_clash 20 = .ok (.getfield 20, 3) := by decide +kernel
theorem dX7_clash_23 : decode cX7_clash 23 = .ok (.getfield 176, 3) := by decide +kernel
theorem dX7_clash_26 : decode cX7_clash 26 = .ok (.iload_n 1, 1) := by decide +kernel
theorem dX7_clash_27 : decode cX7_clash 27 = .ok (.aaload, 1) := by decide +kernel
theorem dX7_clash_28 : decode cX7_clash 28 = .ok (.astore_n 3, 1) := by decide +kernel
theorem dX7_clash_29 : decode cX7_clash 29 = .ok (.aload_n 0, 1) := by decide +kernel
theorem dX7_clash_30 : decode cX7_clash 30 = .ok (.getfield 20, 3) := by decide +kernel
theorem dX7_clash_33 : decode cX7_clash 33 = .ok (.getfield 176, 3) := by decide +kernel
theorem dX7_clash_36 : decode cX7_clash 36 = .ok (.iload_n 2, 1) := by decide +kernel
theorem dX7_clash_37 : decode cX7_clash 37 = .ok (.aaload, 1) := by decide +kernel
theorem dX7_clash_38 : decode cX7_clash 38 = .ok (.astore 4, 2) := by decide +kernel
theorem dX7_clash_40 : decode cX7_clash 40 = .ok (.aload_n 3, 1) := by decide +kernel
theorem dX7_clash_41 : decode cX7_clash 41 = .ok (.getfield 183, 3) := by decide +kernel
theorem dX7_clash_44 : decode cX7_clash 44 = .ok (.aload 4, 2) := by decide +kernel
theorem dX7_clash_46 : decode cX7_clash 46 = .ok (.getfield 183, 3) := by decide +kernel
theorem dX7_clash_49 : decode cX7_clash 49 = .ok (.if_icmp .ne 15, 3) := by decide +kernel
theorem dX7_clash_52 : decode cX7_clash 52 = .ok (.aload_n 3, 1) := by decide +kernel
theorem dX7_clash_53 : decode cX7_clash 53 = .ok (.getfield 184, 3) := by decide +kernel
theorem dX7_clash_56 : decode cX7_clash 56 = .ok (.aload 4, 2) := by decide +kernel
theorem dX7_clash_58 : decode cX7_clash 58 = .ok (.getfield 184, 3) := by decide +kernel
theorem dX7_clash_61 : decode cX7_clash 61 = .ok (.if_icmp .eq 5, 3) := by decide +kernel
theorem dX7_clash_64 : decode cX7_clash 64 = .ok (.iconst 0, 1) := by decide +kernel
theorem dX7_clash_65 : decode cX7_clash 65 = .ok (.ireturn, 1) := by decide +kernel
theorem dX7_clash_66 : decode cX7_clash 66 = .ok (.aload_n 3, 1) := by decide +kernel
theorem dX7_clash_67 : decode cX7_clash 67 = .ok (.invokevirtual 307, 3) := by decide +kernel
theorem dX7_clash_70 : decode cX7_clash 70 = .ok (.aload 4, 2) := by decide +kernel
theorem dX7_clash_72 : decode cX7_clash 72 = .ok (.invokevirtual 307, 3) := by decide +kernel
theorem dX7_clash_75 : decode cX7_clash 75 = .ok (.iand, 1) := by decide +kernel
theorem dX7_clash_76 : decode cX7_clash 76 = .ok (.invokestatic 255, 3) := by decide +kernel
theorem dX7_clash_79 : decode cX7_clash 79 = .ok (.ireturn, 1) := by decide +kernel
theorem dX7_first_0 : decode cX7_first 0 = .ok (.aload_n 0, 1) := by decide +kernel
theorem dX7_first_1 : decode cX7_first 1 = .ok (.invokevirtual 121, 3) := by decide +kernel
theorem dX7_first_4 : decode cX7_first 4 = .ok (.ifCond .ne 6, 3) := by decide +kernel
theorem dX7_first_7 : decode cX7_first 7 = .ok (.bipush (-2), 2) := by decide +kernel
theorem dX7_first_9 : decode cX7_first 9 = .ok (.ireturn, 1) := by decide +kernel
theorem dX7_first_10 : decode cX7_first 10 = .ok (.aload_n 0, 1) := by decide +kernel
theorem dX7_first_11 : decode cX7_first 11 = .ok (.getfield 54, 3) := by decide +kernel
theorem dX7_first_14 : decode cX7_first 14 = .ok (.aload_n 0, 1) := by decide +kernel
theorem dX7_first_15 : decode cX7_first 15 = .ok (.getfield 20, 3) := by decide +kernel
theorem dX7_first_18 : decode cX7_first 18 = .ok (.invokevirtual 310, 3) := by decide +kernel
theorem dX7_first_21 : decode cX7_first 21 = .ok (.ireturn, 1) := by decide +kernel
theorem dX7_would_0 : decode cX7_would 0 = .ok (.aload_n 0, 1) := by decide +kernel
theorem dX7_would_1 : decode cX7_would 1 = .ok (.invokevirtual 121, 3) := by decide +kernel
theorem dX7_would_4 : decode cX7_would 4 = .ok (.ifCond .ne 6, 3) := by decide +kernel
theorem dX7_would_7 : decode cX7_would 7 = .ok (.bipush (-2), 2) := by decide +kernel
theorem dX7_would_9 : decode cX7_would 9 = .ok (.ireturn, 1) := by decide +kernel
theorem dX7_would_10 : decode cX7_would 10 = .ok (.aload_n 0, 1) := by decide +kernel
theorem dX7_would_11 : decode cX7_would 11 = .ok (.getfield 54, 3) := by decide +kernel
theorem dX7_would_14 : decode cX7_would 14 = .ok (.aload_n 0, 1) := by decide +kernel
theorem dX7_would_15 : decode cX7_would 15 = .ok (.getfield 20, 3) := by decide +kernel
theorem dX7_would_18 : decode cX7_would 18 = .ok (.iconst (-1), 1) := by decide +kernel
theorem dX7_would_19 : decode cX7_would 19 = .ok (.invokevirtual 314, 3) := by decide +kernel
theorem dX7_would_22 : decode cX7_would 22 = .ok (.aload_n 0, 1) := by decide +kernel
theorem dX7_would_23 : decode cX7_would 23 = .ok (.getfield 54, 3) := by decide +kernel
theorem dX7_would_26 : decode cX7_would 26 = .ok (.getfield 318, 3) := by decide +kernel
theorem dX7_would_29 : decode cX7_would 29 = .ok (.ireturn, 1) := by decide +kernel
theorem dX7_helps_0 : decode cX7_helps 0 = .ok (.aload_n 0, 1) := by decide +kernel
theorem dX7_helps_1 : decode cX7_helps 1 = .ok (.invokevirtual 121, 3) := by decide +kernel
theorem dX7_helps_4 : decode cX7_helps 4 = .ok (.ifCond .eq 12, 3) := by decide +kernel
theorem dX7_helps_7 : decode cX7_helps 7 = .ok (.iload_n 1, 1) := by decide +kernel
theorem dX7_helps_8 : decode cX7_helps 8 = .ok (.iconst 0, 1) := by decide +kernel
theorem dX7_helps_9 : decode cX7_helps 9 = .ok (.iconst 1, 1) := by decide +kernel
theorem dX7_helps_10 : decode cX7_helps 10 = .ok (.invokestatic 113, 3) := by decide +kernel
theorem dX7_helps_13 : decode cX7_helps 13 = .ok (.ifCond .ne 6, 3) := by decide +kernel
theorem dX7_helps_16 : decode cX7_helps 16 = .ok (.bipush (-2), 2) := by decide +kernel
theorem dX7_helps_18 : decode cX7_helps 18 = .ok (.ireturn, 1) := by decide +kernel
theorem dX7_helps_19 : decode cX7_helps 19 = .ok (.iconst 0, 1) := by decide +kernel
theorem dX7_helps_20 : decode cX7_helps 20 = .ok (.istore_n 2, 1) := by decide +kernel
theorem dX7_helps_21 : decode cX7_helps 21 = .ok (.iconst (-1), 1) := by decide +kernel
theorem dX7_helps_22 : decode cX7_helps 22 = .ok (.istore_n 3, 1) := by decide +kernel
theorem dX7_helps_23 : decode cX7_helps 23 = .ok (.iconst 0, 1) := by decide +kernel
theorem dX7_helps_24 : decode cX7_helps 24 = .ok (.istore 4, 2) := by decide +kernel
theorem dX7_helps_26 : decode cX7_helps 26 = .ok (.iload 4, 2) := by decide +kernel
theorem dX7_helps_28 : decode cX7_helps 28 = .ok (.bipush 24, 2) := by decide +kernel
theorem dX7_helps_30 : decode cX7_helps 30 = .ok (.if_icmp .ge 44, 3) := by decide +kernel
theorem dX7_helps_33 : decode cX7_helps 33 = .ok (.aload_n 0, 1) := by decide +kernel
theorem dX7_helps_34 : decode cX7_helps 34 = .ok (.getfield 54, 3) := by decide +kernel
theorem dX7_helps_37 : decode cX7_helps 37 = .ok (.aload_n 0, 1) := by decide +kernel
theorem dX7_helps_38 : decode cX7_helps 38 = .ok (.getfield 20, 3) := by decide +kernel
theorem dX7_helps_41 : decode cX7_helps 41 = .ok (.iload 4, 2) := by decide +kernel
theorem dX7_helps_43 : decode cX7_helps 43 = .ok (.invokevirtual 314, 3) := by decide +kernel
theorem dX7_helps_46 : decode cX7_helps 46 = .ok (.aload_n 0, 1) := by decide +kernel
theorem dX7_helps_47 : decode cX7_helps 47 = .ok (.getfield 54, 3) := by decide +kernel
theorem dX7_helps_50 : decode cX7_helps 50 = .ok (.getfield 318, 3) := by decide +kernel
theorem dX7_helps_53 : decode cX7_helps 53 = .ok (.iload_n 3, 1) := by decide +kernel
theorem dX7_helps_54 : decode cX7_helps 54 = .ok (.if_icmp .le 14, 3) := by decide +kernel
theorem dX7_helps_57 : decode cX7_helps 57 = .ok (.aload_n 0, 1) := by decide +kernel
theorem dX7_helps_58 : decode cX7_helps 58 = .ok (.getfield 54, 3) := by decide +kernel
theorem dX7_helps_61 : decode cX7_helps 61 = .ok (.getfield 318, 3) := by decide +kernel
theorem dX7_helps_64 : decode cX7_helps 64 = .ok (.istore_n 3, 1) := by decide +kernel
theorem dX7_helps_65 : decode cX7_helps 65 = .ok (.iload 4, 2) := by decide +kernel
theorem dX7_helps_67 : decode cX7_helps 67 = .ok (.istore_n 2, 1) := by decide +kernel
theorem dX7_helps_68 : decode cX7_helps 68 = .ok (.iinc 4 1, 3) := by decide +kernel
theorem dX7_helps_71 : decode cX7_helps 71 = .ok (.goto (-45), 3) := by decide +kernel
theorem dX7_helps_74 : decode cX7_helps 74 = .ok (.iload_n 1, 1) := by decide +kernel
theorem dX7_helps_75 : decode cX7_helps 75 = .ok (.ifCond .ne 7, 3) := by decide +kernel
theorem dX7_helps_78 : decode cX7_helps 78 = .ok (.iload_n 2, 1) := by decide +kernel
theorem dX7_helps_79 : decode cX7_helps 79 = .ok (.goto 4, 3) := by decide +kernel
theorem dX7_helps_82 : decode cX7_helps 82 = .ok (.iload_n 3, 1) := by decide +kernel
theorem dX7_helps_83 : decode cX7_helps 83 = .ok (.ireturn, 1) := by decide +kernel
theorem dX7_turn_0 : decode cX7_turn 0 = .ok (.aload_n 0, 1) := by decide +kernel
theorem dX7_turn_1 : decode cX7_turn 1 = .ok (.iload_n 1, 1) := by decide +kernel
theorem dX7_turn_2 : decode cX7_turn 2 = .ok (.invokevirtual 173, 3) := by decide +kernel
theorem dX7_turn_5 : decode cX7_turn 5 = .ok (.ifCond .ne 6, 3) := by decide +kernel
theorem dX7_turn_8 : decode cX7_turn 8 = .ok (.bipush (-2), 2) := by decide +kernel
theorem dX7_turn_10 : decode cX7_turn 10 = .ok (.ireturn, 1) := by decide +kernel
theorem dX7_turn_11 : decode cX7_turn 11 = .ok (.aload_n 0, 1) := by decide +kernel
theorem dX7_turn_12 : decode cX7_turn 12 = .ok (.getfield 54, 3) := by decide +kernel
theorem dX7_turn_15 : decode cX7_turn 15 = .ok (.aload_n 0, 1) := by decide +kernel
theorem dX7_turn_16 : decode cX7_turn 16 = .ok (.getfield 20, 3) := by decide +kernel
theorem dX7_turn_19 : decode cX7_turn 19 = .ok (.iconst (-1), 1) := by decide +kernel
theorem dX7_turn_20 : decode cX7_turn 20 = .ok (.invokevirtual 314, 3) := by decide +kernel
theorem dX7_turn_23 : decode cX7_turn 23 = .ok (.aload_n 0, 1) := by decide +kernel
theorem dX7_turn_24 : decode cX7_turn 24 = .ok (.getfield 54, 3) := by decide +kernel
theorem dX7_turn_27 : decode cX7_turn 27 = .ok (.getfield 321, 3) := by decide +kernel
theorem dX7_turn_30 : decode cX7_turn 30 = .ok (.iload_n 1, 1) := by decide +kernel
theorem dX7_turn_31 : decode cX7_turn 31 = .ok (.iaload, 1) := by decide +kernel
theorem dX7_turn_32 : decode cX7_turn 32 = .ok (.ireturn, 1) := by decide +kernel
theorem dX7_granted_0 : decode cX7_granted 0 = .ok (.aload_n 0, 1) := by decide +kernel
theorem dX7_granted_1 : decode cX7_granted 1 = .ok (.iload_n 1, 1) := by decide +kernel
theorem dX7_granted_2 : decode cX7_granted 2 = .ok (.invokevirtual 173, 3) := by decide +kernel
theorem dX7_granted_5 : decode cX7_granted 5 = .ok (.ifCond .ne 6, 3) := by decide +kernel
theorem dX7_granted_8 : decode cX7_granted 8 = .ok (.bipush (-2), 2) := by decide +kernel
theorem dX7_granted_10 : decode cX7_granted 10 = .ok (.ireturn, 1) := by decide +kernel
theorem dX7_granted_11 : decode cX7_granted 11 = .ok (.aload_n 0, 1) := by decide +kernel
theorem dX7_granted_12 : decode cX7_granted 12 = .ok (.getfield 54, 3) := by decide +kernel
theorem dX7_granted_15 : decode cX7_granted 15 = .ok (.aload_n 0, 1) := by decide +kernel
theorem dX7_granted_16 : decode cX7_granted 16 = .ok (.getfield 20, 3) := by decide +kernel
theorem dX7_granted_19 : decode cX7_granted 19 = .ok (.iconst (-1), 1) := by decide +kernel
theorem dX7_granted_20 : decode cX7_granted 20 = .ok (.invokevirtual 314, 3) := by decide +kernel
theorem dX7_granted_23 : decode cX7_granted 23 = .ok (.aload_n 0, 1) := by decide +kernel
theorem dX7_granted_24 : decode cX7_granted 24 = .ok (.getfield 54, 3) := by decide +kernel
theorem dX7_granted_27 : decode cX7_granted 27 = .ok (.getfield 324, 3) := by decide +kernel
theorem dX7_granted_30 : decode cX7_granted 30 = .ok (.iload_n 1, 1) := by decide +kernel
theorem dX7_granted_31 : decode cX7_granted 31 = .ok (.iaload, 1) := by decide +kernel
theorem dX7_granted_32 : decode cX7_granted 32 = .ok (.ireturn, 1) := by decide +kernel
theorem dX7_movable_0 : decode cX7_movable 0 = .ok (.aload_n 0, 1) := by decide +kernel
theorem dX7_movable_1 : decode cX7_movable 1 = .ok (.iload_n 1, 1) := by decide +kernel
theorem dX7_movable_2 : decode cX7_movable 2 = .ok (.invokevirtual 132, 3) := by decide +kernel
theorem dX7_movable_5 : decode cX7_movable 5 = .ok (.ifCond .ne 6, 3) := by decide +kernel
theorem dX7_movable_8 : decode cX7_movable 8 = .ok (.bipush (-2), 2) := by decide +kernel
theorem dX7_movable_10 : decode cX7_movable 10 = .ok (.ireturn, 1) := by decide +kernel
theorem dX7_movable_11 : decode cX7_movable 11 = .ok (.iconst 0, 1) := by decide +kernel
theorem dX7_movable_12 : decode cX7_movable 12 = .ok (.istore_n 2, 1) := by decide +kernel
theorem dX7_movable_13 : decode cX7_movable 13 = .ok (.iconst 0, 1) := by decide +kernel
theorem dX7_movable_14 : decode cX7_movable 14 = .ok (.istore_n 3, 1) := by decide +kernel
theorem dX7_movable_15 : decode cX7_movable 15 = .ok (.iload_n 3, 1) := by decide +kernel
theorem dX7_movable_16 : decode cX7_movable 16 = .ok (.bipush 24, 2) := by decide +kernel
theorem dX7_movable_18 : decode cX7_movable 18 = .ok (.if_icmp .ge 24, 3) := by decide +kernel
theorem dX7_movable_21 : decode cX7_movable 21 = .ok (.aload_n 0, 1) := by decide +kernel
theorem dX7_movable_22 : decode cX7_movable 22 = .ok (.iload_n 1, 1) := by decide +kernel
theorem dX7_movable_23 : decode cX7_movable 23 = .ok (.iload_n 3, 1) := by decide +kernel
theorem dX7_movable_24 : decode cX7_movable 24 = .ok (.invokevirtual 327, 3) := by decide +kernel
theorem dX7_movable_27 : decode cX7_movable 27 = .ok (.ifCond .eq 9, 3) := by decide +kernel
theorem dX7_movable_30 : decode cX7_movable 30 = .ok (.iload_n 2, 1) := by decide +kernel
theorem dX7_movable_31 : decode cX7_movable 31 = .ok (.iconst 1, 1) := by decide +kernel
theorem dX7_movable_32 : decode cX7_movable 32 = .ok (.iload_n 3, 1) := by decide +kernel
theorem dX7_movable_33 : decode cX7_movable 33 = .ok (.ishl, 1) := by decide +kernel
theorem dX7_movable_34 : decode cX7_movable 34 = .ok (.ior, 1) := by decide +kernel
theorem dX7_movable_35 : decode cX7_movable 35 = .ok (.istore_n 2, 1) := by decide +kernel
theorem dX7_movable_36 : decode cX7_movable 36 = .ok (.iinc 3 1, 3) := by decide +kernel
theorem dX7_movable_39 : decode cX7_movable 39 = .ok (.goto (-24), 3) := by decide +kernel
theorem dX7_movable_42 : decode cX7_movable 42 = .ok (.iload_n 2, 1) := by decide +kernel
theorem dX7_movable_43 : decode cX7_movable 43 = .ok (.ireturn, 1) := by decide +kernel
theorem dX7_partners_0 : decode cX7_partners 0 = .ok (.aload_n 0, 1) := by decide +kernel
theorem dX7_partners_1 : decode cX7_partners 1 = .ok (.iload_n 1, 1) := by decide +kernel
theorem dX7_partners_2 : decode cX7_partners 2 = .ok (.invokevirtual 132, 3) := by decide +kernel
theorem dX7_partners_5 : decode cX7_partners 5 = .ok (.ifCond .ne 6, 3) := by decide +kernel
theorem dX7_partners_8 : decode cX7_partners 8 = .ok (.bipush (-2), 2) := by decide +kernel
theorem dX7_partners_10 : decode cX7_partners 10 = .ok (.ireturn, 1) := by decide +kernel
theorem dX7_partners_11 : decode cX7_partners 11 = .ok (.iconst 0, 1) := by decide +kernel
theorem dX7_partners_12 : decode cX7_partners 12 = .ok (.istore_n 2, 1) := by decide +kernel
theorem dX7_partners_13 : decode cX7_partners 13 = .ok (.iconst 0, 1) := by decide +kernel
theorem dX7_partners_14 : decode cX7_partners 14 = .ok (.istore_n 3, 1) := by decide +kernel
theorem dX7_partners_15 : decode cX7_partners 15 = .ok (.iload_n 3, 1) := by decide +kernel
theorem dX7_partners_16 : decode cX7_partners 16 = .ok (.aload_n 0, 1) := by decide +kernel
theorem dX7_partners_17 : decode cX7_partners 17 = .ok (.getfield 20, 3) := by decide +kernel
theorem dX7_partners_20 : decode cX7_partners 20 = .ok (.getfield 97, 3) := by decide +kernel
theorem dX7_partners_23 : decode cX7_partners 23 = .ok (.if_icmp .ge 24, 3) := by decide +kernel
theorem dX7_partners_26 : decode cX7_partners 26 = .ok (.aload_n 0, 1) := by decide +kernel
theorem dX7_partners_27 : decode cX7_partners 27 = .ok (.iload_n 1, 1) := by decide +kernel
theorem dX7_partners_28 : decode cX7_partners 28 = .ok (.iload_n 3, 1) := by decide +kernel
theorem dX7_partners_29 : decode cX7_partners 29 = .ok (.invokevirtual 330, 3) := by decide +kernel
theorem dX7_partners_32 : decode cX7_partners 32 = .ok (.ifCond .ne 9, 3) := by decide +kernel
theorem dX7_partners_35 : decode cX7_partners 35 = .ok (.iload_n 2, 1) := by decide +kernel
theorem dX7_partners_36 : decode cX7_partners 36 = .ok (.iconst 1, 1) := by decide +kernel
theorem dX7_partners_37 : decode cX7_partners 37 = .ok (.iload_n 3, 1) := by decide +kernel
theorem dX7_partners_38 : decode cX7_partners 38 = .ok (.ishl, 1) := by decide +kernel
theorem dX7_partners_39 : decode cX7_partners 39 = .ok (.ior, 1) := by decide +kernel
theorem dX7_partners_40 : decode cX7_partners 40 = .ok (.istore_n 2, 1) := by decide +kernel
theorem dX7_partners_41 : decode cX7_partners 41 = .ok (.iinc 3 1, 3) := by decide +kernel
theorem dX7_partners_44 : decode cX7_partners 44 = .ok (.goto (-29), 3) := by decide +kernel
theorem dX7_partners_47 : decode cX7_partners 47 = .ok (.iload_n 2, 1) := by decide +kernel
theorem dX7_partners_48 : decode cX7_partners 48 = .ok (.ireturn, 1) := by decide +kernel
theorem dX7_miss_0 : decode cX7_miss 0 = .ok (.aload_n 0, 1) := by decide +kernel
theorem dX7_miss_1 : decode cX7_miss 1 = .ok (.iload_n 1, 1) := by decide +kernel
theorem dX7_miss_2 : decode cX7_miss 2 = .ok (.invokevirtual 132, 3) := by decide +kernel
theorem dX7_miss_5 : decode cX7_miss 5 = .ok (.ifCond .eq 11, 3) := by decide +kernel
theorem dX7_miss_8 : decode cX7_miss 8 = .ok (.aload_n 0, 1) := by decide +kernel
theorem dX7_miss_9 : decode cX7_miss 9 = .ok (.iload_n 2, 1) := by decide +kernel
theorem dX7_miss_10 : decode cX7_miss 10 = .ok (.invokevirtual 167, 3) := by decide +kernel
theorem dX7_miss_13 : decode cX7_miss 13 = .ok (.ifCond .ne 6, 3) := by decide +kernel
theorem dX7_miss_16 : decode cX7_miss 16 = .ok (.bipush (-2), 2) := by decide +kernel
theorem dX7_miss_18 : decode cX7_miss 18 = .ok (.ireturn, 1) := by decide +kernel
theorem dX7_miss_19 : decode cX7_miss 19 = .ok (.aload_n 0, 1) := by decide +kernel
theorem dX7_miss_20 : decode cX7_miss 20 = .ok (.getfield 20, 3) := by decide +kernel
theorem dX7_miss_23 : decode cX7_miss 23 = .ok (.getfield 135, 3) := by decide +kernel
theorem dX7_miss_26 : decode cX7_miss 26 = .ok (.iload_n 1, 1) := by decide +kernel
theorem dX7_miss_27 : decode cX7_miss 27 = .ok (.aaload, 1) := by decide +kernel
theorem dX7_miss_28 : decode cX7_miss 28 = .ok (.astore_n 3, 1) := by decide +kernel
theorem dX7_miss_29 : decode cX7_miss 29 = .ok (.aload_n 3, 1) := by decide +kernel
theorem dX7_miss_30 : decode cX7_miss 30 = .ok (.iload_n 2, 1) := by decide +kernel
theorem dX7_miss_31 : decode cX7_miss 31 = .ok (.invokevirtual 170, 3) := by decide +kernel
theorem dX7_miss_34 : decode cX7_miss 34 = .ok (.ifCond .ne 14, 3) := by decide +kernel
theorem dX7_miss_37 : decode cX7_miss 37 = .ok (.iload_n 2, 1) := by decide +kernel
theorem dX7_miss_38 : decode cX7_miss 38 = .ok (.aload_n 0, 1) := by decide +kernel
theorem dX7_miss_39 : decode cX7_miss 39 = .ok (.getfield 20, 3) := by decide +kernel
theorem dX7_miss_42 : decode cX7_miss 42 = .ok (.getfield 103, 3) := by decide +kernel
theorem dX7_miss_45 : decode cX7_miss 45 = .ok (.if_icmp .ge 6, 3) := by decide +kernel
theorem dX7_miss_48 : decode cX7_miss 48 = .ok (.bipush (-6), 2) := by decide +kernel
theorem dX7_miss_50 : decode cX7_miss 50 = .ok (.ireturn, 1) := by decide +kernel
theorem dX7_miss_51 : decode cX7_miss 51 = .ok (.aload_n 0, 1) := by decide +kernel
theorem dX7_miss_52 : decode cX7_miss 52 = .ok (.invokevirtual 333, 3) := by decide +kernel
theorem dX7_miss_55 : decode cX7_miss 55 = .ok (.aload_n 3, 1) := by decide +kernel
theorem dX7_miss_56 : decode cX7_miss 56 = .ok (.dup, 1) := by decide +kernel
theorem dX7_miss_57 : decode cX7_miss 57 = .ok (.getfield 266, 3) := by decide +kernel
theorem dX7_miss_60 : decode cX7_miss 60 = .ok (.iconst 1, 1) := by decide +kernel
theorem dX7_miss_61 : decode cX7_miss 61 = .ok (.iload_n 2, 1) := by decide +kernel
theorem dX7_miss_62 : decode cX7_miss 62 = .ok (.ishl, 1) := by decide +kernel
theorem dX7_miss_63 : decode cX7_miss 63 = .ok (.ior, 1) := by decide +kernel
theorem dX7_miss_64 : decode cX7_miss 64 = .ok (.putfield 266, 3) := by decide +kernel
theorem dX7_miss_67 : decode cX7_miss 67 = .ok (.aload_n 3, 1) := by decide +kernel
theorem dX7_miss_68 : decode cX7_miss 68 = .ok (.invokevirtual 242, 3) := by decide +kernel
theorem dX7_miss_71 : decode cX7_miss 71 = .ok (.ireturn, 1) := by decide +kernel
theorem dX7_excuse_0 : decode cX7_excuse 0 = .ok (.aload_n 0, 1) := by decide +kernel
theorem dX7_excuse_1 : decode cX7_excuse 1 = .ok (.iload_n 1, 1) := by decide +kernel
theorem dX7_excuse_2 : decode cX7_excuse 2 = .ok (.invokevirtual 132, 3) := by decide +kernel
theorem dX7_excuse_5 : decode cX7_excuse 5 = .ok (.ifCond .eq 11, 3) := by decide +kernel
theorem dX7_excuse_8 : decode cX7_excuse 8 = .ok (.aload_n 0, 1) := by decide +kernel
theorem dX7_excuse_9 : decode cX7_excuse 9 = .ok (.iload_n 2, 1) := by decide +kernel
theorem dX7_excuse_10 : decode cX7_excuse 10 = .ok (.invokevirtual 167, 3) := by decide +kernel
theorem dX7_excuse_13 : decode cX7_excuse 13 = .ok (.ifCond .ne 6, 3) := by decide +kernel
theorem dX7_excuse_16 : decode cX7_excuse 16 = .ok (.bipush (-2), 2) := by decide +kernel
theorem dX7_excuse_18 : decode cX7_excuse 18 = .ok (.ireturn, 1) := by decide +kernel
theorem dX7_excuse_19 : decode cX7_excuse 19 = .ok (.aload_n 0, 1) := by decide +kernel
theorem dX7_excuse_20 : decode cX7_excuse 20 = .ok (.getfield 20, 3) := by decide +kernel
theorem dX7_excuse_23 : decode cX7_excuse 23 = .ok (.getfield 135, 3) := by decide +kernel
theorem dX7_excuse_26 : decode cX7_excuse 26 = .ok (.iload_n 1, 1) := by decide +kernel
theorem dX7_excuse_27 : decode cX7_excuse 27 = .ok (.aaload, 1) := by decide +kernel
theorem dX7_excuse_28 : decode cX7_excuse 28 = .ok (.astore_n 3, 1) := by decide +kernel
theorem dX7_excuse_29 : decode cX7_excuse 29 = .ok (.aload_n 3, 1) := by decide +kernel
theorem dX7_excuse_30 : decode cX7_excuse 30 = .ok (.iload_n 2, 1) := by decide +kernel
theorem dX7_excuse_31 : decode cX7_excuse 31 = .ok (.invokevirtual 170, 3) := by decide +kernel
theorem dX7_excuse_34 : decode cX7_excuse 34 = .ok (.istore 4, 2) := by decide +kernel
theorem dX7_excuse_36 : decode cX7_excuse 36 = .ok (.iload 4, 2) := by decide +kernel
theorem dX7_excuse_38 : decode cX7_excuse 38 = .ok (.iconst 2, 1) := by decide +kernel
theorem dX7_excuse_39 : decode cX7_excuse 39 = .ok (.if_icmp .eq 11, 3) := by decide +kernel
theorem dX7_excuse_42 : decode cX7_excuse 42 = .ok (.iload 4, 2) := by decide +kernel
theorem dX7_excuse_44 : decode cX7_excuse 44 = .ok (.ifCond .eq 6, 3) := by decide +kernel
theorem dX7_excuse_47 : decode cX7_excuse 47 = .ok (.bipush (-6), 2) := by decide +kernel
theorem dX7_excuse_49 : decode cX7_excuse 49 = .ok (.ireturn, 1) := by decide +kernel
theorem dX7_excuse_50 : decode cX7_excuse 50 = .ok (.aload_n 0, 1) := by decide +kernel
theorem dX7_excuse_51 : decode cX7_excuse 51 = .ok (.invokevirtual 333, 3) := by decide +kernel
theorem dX7_excuse_54 : decode cX7_excuse 54 = .ok (.aload_n 3, 1) := by decide +kernel
theorem dX7_excuse_55 : decode cX7_excuse 55 = .ok (.dup, 1) := by decide +kernel
theorem dX7_excuse_56 : decode cX7_excuse 56 = .ok (.getfield 266, 3) := by decide +kernel
theorem dX7_excuse_59 : decode cX7_excuse 59 = .ok (.iconst 1, 1) := by decide +kernel
theorem dX7_excuse_60 : decode cX7_excuse 60 = .ok (.iload_n 2, 1) := by decide +kernel
theorem dX7_excuse_61 : decode cX7_excuse 61 = .ok (.ishl, 1) := by decide +kernel
theorem dX7_excuse_62 : decode cX7_excuse 62 = .ok (.iconst (-1), 1) := by decide +kernel
theorem dX7_excuse_63 : decode cX7_excuse 63 = .ok (.ixor, 1) := by decide +kernel
theorem dX7_excuse_64 : decode cX7_excuse 64 = .ok (.iand, 1) := by decide +kernel
theorem dX7_excuse_65 : decode cX7_excuse 65 = .ok (.putfield 266, 3) := by decide +kernel
theorem dX7_excuse_68 : decode cX7_excuse 68 = .ok (.aload_n 3, 1) := by decide +kernel
theorem dX7_excuse_69 : decode cX7_excuse 69 = .ok (.dup, 1) := by decide +kernel
theorem dX7_excuse_70 : decode cX7_excuse 70 = .ok (.getfield 336, 3) := by decide +kernel
theorem dX7_excuse_73 : decode cX7_excuse 73 = .ok (.iconst 1, 1) := by decide +kernel
theorem dX7_excuse_74 : decode cX7_excuse 74 = .ok (.iload_n 2, 1) := by decide +kernel
theorem dX7_excuse_75 : decode cX7_excuse 75 = .ok (.ishl, 1) := by decide +kernel
theorem dX7_excuse_76 : decode cX7_excuse 76 = .ok (.ior, 1) := by decide +kernel
theorem dX7_excuse_77 : decode cX7_excuse 77 = .ok (.putfield 336, 3) := by decide +kernel
theorem dX7_excuse_80 : decode cX7_excuse 80 = .ok (.aload_n 3, 1) := by decide +kernel
theorem dX7_excuse_81 : decode cX7_excuse 81 = .ok (.invokevirtual 233, 3) := by decide +kernel
theorem dX7_excuse_84 : decode cX7_excuse 84 = .ok (.ireturn, 1) := by decide +kernel
theorem dX7_fly_0 : decode cX7_fly 0 = .ok (.aload_n 0, 1) := by decide +kernel
theorem dX7_fly_1 : decode cX7_fly 1 = .ok (.iload_n 1, 1) := by decide +kernel
theorem dX7_fly_2 : decode cX7_fly 2 = .ok (.invokevirtual 132, 3) := by decide +kernel
theorem dX7_fly_5 : decode cX7_fly 5 = .ok (.ifCond .eq 11, 3) := by decide +kernel
theorem dX7_fly_8 : decode cX7_fly 8 = .ok (.aload_n 0, 1) := by decide +kernel
theorem dX7_fly_9 : decode cX7_fly 9 = .ok (.iload_n 2, 1) := by decide +kernel
theorem dX7_fly_10 : decode cX7_fly 10 = .ok (.invokevirtual 167, 3) := by decide +kernel
theorem dX7_fly_13 : decode cX7_fly 13 = .ok (.ifCond .ne 6, 3) := by decide +kernel
theorem dX7_fly_16 : decode cX7_fly 16 = .ok (.bipush (-2), 2) := by decide +kernel
theorem dX7_fly_18 : decode cX7_fly 18 = .ok (.ireturn, 1) := by decide +kernel
theorem dX7_fly_19 : decode cX7_fly 19 = .ok (.aload_n 0, 1) := by decide +kernel
theorem dX7_fly_20 : decode cX7_fly 20 = .ok (.getfield 20, 3) := by decide +kernel
theorem dX7_fly_23 : decode cX7_fly 23 = .ok (.getfield 135, 3) := by decide +kernel
theorem dX7_fly_26 : decode cX7_fly 26 = .ok (.iload_n 1, 1) := by decide +kernel
theorem dX7_fly_27 : decode cX7_fly 27 = .ok (.aaload, 1) := by decide +kernel
theorem dX7_fly_28 : decode cX7_fly 28 = .ok (.astore_n 3, 1) := by decide +kernel
theorem dX7_fly_29 : decode cX7_fly 29 = .ok (.aload_n 3, 1) := by decide +kernel
theorem dX7_fly_30 : decode cX7_fly 30 = .ok (.iload_n 2, 1) := by decide +kernel
theorem dX7_fly_31 : decode cX7_fly 31 = .ok (.invokevirtual 170, 3) := by decide +kernel
theorem dX7_fly_34 : decode cX7_fly 34 = .ok (.istore 4, 2) := by decide +kernel
theorem dX7_fly_36 : decode cX7_fly 36 = .ok (.iload 4, 2) := by decide +kernel
theorem dX7_fly_38 : decode cX7_fly 38 = .ok (.iconst 2, 1) := by decide +kernel
theorem dX7_fly_39 : decode cX7_fly 39 = .ok (.if_icmp .eq 9, 3) := by decide +kernel
theorem dX7_fly_42 : decode cX7_fly 42 = .ok (.iload 4, 2) := by decide +kernel
theorem dX7_fly_44 : decode cX7_fly 44 = .ok (.iconst 3, 1) := by decide +kernel
theorem dX7_fly_45 : decode cX7_fly 45 = .ok (.if_icmp .ne 14, 3) := by decide +kernel
theorem dX7_fly_48 : decode cX7_fly 48 = .ok (.iload_n 2, 1) := by decide +kernel
theorem dX7_fly_49 : decode cX7_fly 49 = .ok (.aload_n 0, 1) := by decide +kernel
theorem dX7_fly_50 : decode cX7_fly 50 = .ok (.getfield 20, 3) := by decide +kernel
theorem dX7_fly_53 : decode cX7_fly 53 = .ok (.getfield 103, 3) := by decide +kernel
theorem dX7_fly_56 : decode cX7_fly 56 = .ok (.if_icmp .ge 6, 3) := by decide +kernel
theorem dX7_fly_59 : decode cX7_fly 59 = .ok (.bipush (-6), 2) := by decide +kernel
theorem dX7_fly_61 : decode cX7_fly 61 = .ok (.ireturn, 1) := by decide +kernel
theorem dX7_fly_62 : decode cX7_fly 62 = .ok (.aload_n 0, 1) := by decide +kernel
theorem dX7_fly_63 : decode cX7_fly 63 = .ok (.invokevirtual 333, 3) := by decide +kernel
theorem dX7_fly_66 : decode cX7_fly 66 = .ok (.aload_n 3, 1) := by decide +kernel
theorem dX7_fly_67 : decode cX7_fly 67 = .ok (.dup, 1) := by decide +kernel
theorem dX7_fly_68 : decode cX7_fly 68 = .ok (.getfield 266, 3) := by decide +kernel
theorem dX7_fly_71 : decode cX7_fly 71 = .ok (.iconst 1, 1) := by decide +kernel
theorem dX7_fly_72 : decode cX7_fly 72 = .ok (.iload_n 2, 1) := by decide +kernel
theorem dX7_fly_73 : decode cX7_fly 73 = .ok (.ishl, 1) := by decide +kernel
theorem dX7_fly_74 : decode cX7_fly 74 = .ok (.iconst (-1), 1) := by decide +kernel
theorem dX7_fly_75 : decode cX7_fly 75 = .ok (.ixor, 1) := by decide +kernel
theorem dX7_fly_76 : decode cX7_fly 76 = .ok (.iand, 1) := by decide +kernel
theorem dX7_fly_77 : decode cX7_fly 77 = .ok (.putfield 266, 3) := by decide +kernel
theorem dX7_fly_80 : decode cX7_fly 80 = .ok (.aload_n 3, 1) := by decide +kernel
theorem dX7_fly_81 : decode cX7_fly 81 = .ok (.dup, 1) := by decide +kernel
theorem dX7_fly_82 : decode cX7_fly 82 = .ok (.getfield 336, 3) := by decide +kernel
theorem dX7_fly_85 : decode cX7_fly 85 = .ok (.iconst 1, 1) := by decide +kernel
theorem dX7_fly_86 : decode cX7_fly 86 = .ok (.iload_n 2, 1) := by decide +kernel
theorem dX7_fly_87 : decode cX7_fly 87 = .ok (.ishl, 1) := by decide +kernel
theorem dX7_fly_88 : decode cX7_fly 88 = .ok (.iconst (-1), 1) := by decide +kernel
theorem dX7_fly_89 : decode cX7_fly 89 = .ok (.ixor, 1) := by decide +kernel
theorem dX7_fly_90 : decode cX7_fly 90 = .ok (.iand, 1) := by decide +kernel
theorem dX7_fly_91 : decode cX7_fly 91 = .ok (.putfield 336, 3) := by decide +kernel
theorem dX7_fly_94 : decode cX7_fly 94 = .ok (.iload 4, 2) := by decide +kernel
theorem dX7_fly_96 : decode cX7_fly 96 = .ok (.ireturn, 1) := by decide +kernel
theorem dX7_back_0 : decode cX7_back 0 = .ok (.aload_n 0, 1) := by decide +kernel
theorem dX7_back_1 : decode cX7_back 1 = .ok (.iload_n 1, 1) := by decide +kernel
theorem dX7_back_2 : decode cX7_back 2 = .ok (.invokevirtual 132, 3) := by decide +kernel
theorem dX7_back_5 : decode cX7_back 5 = .ok (.ifCond .eq 11, 3) := by decide +kernel
theorem dX7_back_8 : decode cX7_back 8 = .ok (.aload_n 0, 1) := by decide +kernel
theorem dX7_back_9 : decode cX7_back 9 = .ok (.iload_n 2, 1) := by decide +kernel
theorem dX7_back_10 : decode cX7_back 10 = .ok (.invokevirtual 167, 3) := by decide +kernel
theorem dX7_back_13 : decode cX7_back 13 = .ok (.ifCond .ne 6, 3) := by decide +kernel
theorem dX7_back_16 : decode cX7_back 16 = .ok (.bipush (-2), 2) := by decide +kernel
theorem dX7_back_18 : decode cX7_back 18 = .ok (.ireturn, 1) := by decide +kernel
theorem dX7_back_19 : decode cX7_back 19 = .ok (.iload_n 2, 1) := by decide +kernel
theorem dX7_back_20 : decode cX7_back 20 = .ok (.aload_n 0, 1) := by decide +kernel
theorem dX7_back_21 : decode cX7_back 21 = .ok (.getfield 20, 3) := by decide +kernel
theorem dX7_back_24 : decode cX7_back 24 = .ok (.getfield 103, 3) := by decide +kernel
theorem dX7_back_27 : decode cX7_back 27 = .ok (.iconst 4, 1) := by decide +kernel
theorem dX7_back_28 : decode cX7_back 28 = .ok (.iadd, 1) := by decide +kernel
theorem dX7_back_29 : decode cX7_back 29 = .ok (.if_icmp .ge 6, 3) := by decide +kernel
theorem dX7_back_32 : decode cX7_back 32 = .ok (.bipush (-6), 2) := by decide +kernel
theorem dX7_back_34 : decode cX7_back 34 = .ok (.ireturn, 1) := by decide +kernel
theorem dX7_back_35 : decode cX7_back 35 = .ok (.aload_n 0, 1) := by decide +kernel
theorem dX7_back_36 : decode cX7_back 36 = .ok (.getfield 20, 3) := by decide +kernel
theorem dX7_back_39 : decode cX7_back 39 = .ok (.getfield 135, 3) := by decide +kernel
theorem dX7_back_42 : decode cX7_back 42 = .ok (.iload_n 1, 1) := by decide +kernel
theorem dX7_back_43 : decode cX7_back 43 = .ok (.aaload, 1) := by decide +kernel
theorem dX7_back_44 : decode cX7_back 44 = .ok (.astore_n 3, 1) := by decide +kernel
theorem dX7_back_45 : decode cX7_back 45 = .ok (.aload_n 3, 1) := by decide +kernel
theorem dX7_back_46 : decode cX7_back 46 = .ok (.invokevirtual 339, 3) := by decide +kernel
theorem dX7_back_49 : decode cX7_back 49 = .ok (.iload_n 2, 1) := by decide +kernel
theorem dX7_back_50 : decode cX7_back 50 = .ok (.invokestatic 342, 3) := by decide +kernel
theorem dX7_back_53 : decode cX7_back 53 = .ok (.iand, 1) := by decide +kernel
theorem dX7_back_54 : decode cX7_back 54 = .ok (.istore 4, 2) := by decide +kernel
theorem dX7_back_56 : decode cX7_back 56 = .ok (.iload 4, 2) := by decide +kernel
theorem dX7_back_58 : decode cX7_back 58 = .ok (.ifCond .eq 18, 3) := by decide +kernel
theorem dX7_back_61 : decode cX7_back 61 = .ok (.aload_n 0, 1) := by decide +kernel
theorem dX7_back_62 : decode cX7_back 62 = .ok (.invokevirtual 333, 3) := by decide +kernel
theorem dX7_back_65 : decode cX7_back 65 = .ok (.aload_n 3, 1) := by decide +kernel
theorem dX7_back_66 : decode cX7_back 66 = .ok (.dup, 1) := by decide +kernel
theorem dX7_back_67 : decode cX7_back 67 = .ok (.getfield 345, 3) := by decide +kernel
theorem dX7_back_70 : decode cX7_back 70 = .ok (.iload 4, 2) := by decide +kernel
theorem dX7_back_72 : decode cX7_back 72 = .ok (.ior, 1) := by decide +kernel
theorem dX7_back_73 : decode cX7_back 73 = .ok (.putfield 345, 3) := by decide +kernel
theorem dX7_back_76 : decode cX7_back 76 = .ok (.iload 4, 2) := by decide +kernel
theorem dX7_back_78 : decode cX7_back 78 = .ok (.invokestatic 255, 3) := by decide +kernel
theorem dX7_back_81 : decode cX7_back 81 = .ok (.ireturn, 1) := by decide +kernel
theorem dX7_gives_0 : decode cX7_gives 0 = .ok (.aload_n 0, 1) := by decide +kernel
theorem dX7_gives_1 : decode cX7_gives 1 = .ok (.iload_n 1, 1) := by decide +kernel
theorem dX7_gives_2 : decode cX7_gives 2 = .ok (.invokevirtual 109, 3) := by decide +kernel
theorem dX7_gives_5 : decode cX7_gives 5 = .ok (.ifCond .eq 11, 3) := by decide +kernel
theorem dX7_gives_8 : decode cX7_gives 8 = .ok (.aload_n 0, 1) := by decide +kernel
theorem dX7_gives_9 : decode cX7_gives 9 = .ok (.iload_n 2, 1) := by decide +kernel
theorem dX7_gives_10 : decode cX7_gives 10 = .ok (.invokevirtual 245, 3) := by decide +kernel
theorem dX7_gives_13 : decode cX7_gives 13 = .ok (.ifCond .ne 6, 3) := by decide +kernel
theorem dX7_gives_16 : decode cX7_gives 16 = .ok (.bipush (-2), 2) := by decide +kernel
theorem dX7_gives_18 : decode cX7_gives 18 = .ok (.ireturn, 1) := by decide +kernel
theorem dX7_gives_19 : decode cX7_gives 19 = .ok (.aload_n 0, 1) := by decide +kernel
theorem dX7_gives_20 : decode cX7_gives 20 = .ok (.getfield 20, 3) := by decide +kernel
theorem dX7_gives_23 : decode cX7_gives 23 = .ok (.getfield 103, 3) := by decide +kernel
theorem dX7_gives_26 : decode cX7_gives 26 = .ok (.iconst 4, 1) := by decide +kernel
theorem dX7_gives_27 : decode cX7_gives 27 = .ok (.iadd, 1) := by decide +kernel
theorem dX7_gives_28 : decode cX7_gives 28 = .ok (.invokestatic 342, 3) := by decide +kernel
theorem dX7_gives_31 : decode cX7_gives 31 = .ok (.istore_n 3, 1) := by decide +kernel
theorem dX7_gives_32 : decode cX7_gives 32 = .ok (.iconst 0, 1) := by decide +kernel
theorem dX7_gives_33 : decode cX7_gives 33 = .ok (.istore 4, 2) := by decide +kernel
theorem dX7_gives_35 : decode cX7_gives 35 = .ok (.iconst 0, 1) := by decide +kernel
theorem dX7_gives_36 : decode cX7_gives 36 = .ok (.istore 5, 2) := by decide +kernel
theorem dX7_gives_38 : decode cX7_gives 38 = .ok (.iload 5, 2) := by decide +kernel
theorem dX7_gives_40 : decode cX7_gives 40 = .ok (.aload_n 0, 1) := by decide +kernel
theorem dX7_gives_41 : decode cX7_gives 41 = .ok (.getfield 20, 3) := by decide +kernel
theorem dX7_gives_44 : decode cX7_gives 44 = .ok (.getfield 97, 3) := by decide +kernel
theorem dX7_gives_47 : decode cX7_gives 47 = .ok (.if_icmp .ge 80, 3) := by decide +kernel
theorem dX7_gives_50 : decode cX7_gives 50 = .ok (.aload_n 0, 1) := by decide +kernel
theorem dX7_gives_51 : decode cX7_gives 51 = .ok (.getfield 20, 3) := by decide +kernel
theorem dX7_gives_54 : decode cX7_gives 54 = .ok (.getfield 135, 3) := by decide +kernel
theorem dX7_gives_57 : decode cX7_gives 57 = .ok (.iload 5, 2) := by decide +kernel
theorem dX7_gives_59 : decode cX7_gives 59 = .ok (.aaload, 1) := by decide +kernel
theorem dX7_gives_60 : decode cX7_gives 60 = .ok (.astore 6, 2) := by decide +kernel
theorem dX7_gives_62 : decode cX7_gives 62 = .ok (.aload 6, 2) := by decide +kernel
theorem dX7_gives_64 : decode cX7_gives 64 = .ok (.iload_n 1, 1) := by decide +kernel
theorem dX7_gives_65 : decode cX7_gives 65 = .ok (.iload_n 2, 1) := by decide +kernel
theorem dX7_gives_66 : decode cX7_gives 66 = .ok (.invokevirtual 248, 3) := by decide +kernel
theorem dX7_gives_69 : decode cX7_gives 69 = .ok (.ifCond .eq 13, 3) := by decide +kernel
theorem dX7_gives_72 : decode cX7_gives 72 = .ok (.aload 6, 2) := by decide +kernel
theorem dX7_gives_74 : decode cX7_gives 74 = .ok (.invokevirtual 339, 3) := by decide +kernel
theorem dX7_gives_77 : decode cX7_gives 77 = .ok (.iload_n 3, 1) := by decide +kernel
theorem dX7_gives_78 : decode cX7_gives 78 = .ok (.iand, 1) := by decide +kernel
theorem dX7_gives_79 : decode cX7_gives 79 = .ok (.goto 4, 3) := by decide +kernel
theorem dX7_gives_82 : decode cX7_gives 82 = .ok (.iconst 0, 1) := by decide +kernel
theorem dX7_gives_83 : decode cX7_gives 83 = .ok (.istore 7, 2) := by decide +kernel
theorem dX7_gives_85 : decode cX7_gives 85 = .ok (.iload 7, 2) := by decide +kernel
theorem dX7_gives_87 : decode cX7_gives 87 = .ok (.ifCond .eq 34, 3) := by decide +kernel
theorem dX7_gives_90 : decode cX7_gives 90 = .ok (.iload 4, 2) := by decide +kernel
theorem dX7_gives_92 : decode cX7_gives 92 = .ok (.ifCond .ne 7, 3) := by decide +kernel
theorem dX7_gives_95 : decode cX7_gives 95 = .ok (.aload_n 0, 1) := by decide +kernel
theorem dX7_gives_96 : decode cX7_gives 96 = .ok (.invokevirtual 333, 3) := by decide +kernel
theorem dX7_gives_99 : decode cX7_gives 99 = .ok (.aload 6, 2) := by decide +kernel
theorem dX7_gives_101 : decode cX7_gives 101 = .ok (.dup, 1) := by decide +kernel
theorem dX7_gives_102 : decode cX7_gives 102 = .ok (.getfield 345, 3) := by decide +kernel
theorem dX7_gives_105 : decode cX7_gives 105 = .ok (.iload 7, 2) := by decide +kernel
theorem dX7_gives_107 : decode cX7_gives 107 = .ok (.ior, 1) := by decide +kernel
theorem dX7_gives_108 : decode cX7_gives 108 = .ok (.putfield 345, 3) := by decide +kernel
theorem dX7_gives_111 : decode cX7_gives 111 = .ok (.iload 4, 2) := by decide +kernel
theorem dX7_gives_113 : decode cX7_gives 113 = .ok (.iload 7, 2) := by decide +kernel
theorem dX7_gives_115 : decode cX7_gives 115 = .ok (.invokestatic 255, 3) := by decide +kernel
theorem dX7_gives_118 : decode cX7_gives 118 = .ok (.iadd, 1) := by decide +kernel
theorem dX7_gives_119 : decode cX7_gives 119 = .ok (.istore 4, 2) := by decide +kernel
theorem dX7_gives_121 : decode cX7_gives 121 = .ok (.iinc 5 1, 3) := by decide +kernel
theorem dX7_gives_124 : decode cX7_gives 124 = .ok (.goto (-86), 3) := by decide +kernel
theorem dX7_gives_127 : decode cX7_gives 127 = .ok (.iload 4, 2) := by decide +kernel
theorem dX7_gives_129 : decode cX7_gives 129 = .ok (.ireturn, 1) := by decide +kernel
theorem dX7_tick_0 : decode cX7_tick 0 = .ok (.aload_n 0, 1) := by decide +kernel
theorem dX7_tick_1 : decode cX7_tick 1 = .ok (.invokevirtual 121, 3) := by decide +kernel
theorem dX7_tick_4 : decode cX7_tick 4 = .ok (.ifCond .ne 6, 3) := by decide +kernel
theorem dX7_tick_7 : decode cX7_tick 7 = .ok (.bipush (-2), 2) := by decide +kernel
theorem dX7_tick_9 : decode cX7_tick 9 = .ok (.ireturn, 1) := by decide +kernel
theorem dX7_tick_10 : decode cX7_tick 10 = .ok (.aload_n 0, 1) := by decide +kernel
theorem dX7_tick_11 : decode cX7_tick 11 = .ok (.getfield 20, 3) := by decide +kernel
theorem dX7_tick_14 : decode cX7_tick 14 = .ok (.invokevirtual 279, 3) := by decide +kernel
theorem dX7_tick_17 : decode cX7_tick 17 = .ok (.ifCond .eq 5, 3) := by decide +kernel
theorem dX7_tick_20 : decode cX7_tick 20 = .ok (.iconst (-1), 1) := by decide +kernel
theorem dX7_tick_21 : decode cX7_tick 21 = .ok (.ireturn, 1) := by decide +kernel
theorem dX7_tick_22 : decode cX7_tick 22 = .ok (.aload_n 0, 1) := by decide +kernel
theorem dX7_tick_23 : decode cX7_tick 23 = .ok (.invokevirtual 333, 3) := by decide +kernel
theorem dX7_tick_26 : decode cX7_tick 26 = .ok (.iconst 1, 1) := by decide +kernel
theorem dX7_tick_27 : decode cX7_tick 27 = .ok (.aload_n 0, 1) := by decide +kernel
theorem dX7_tick_28 : decode cX7_tick 28 = .ok (.getfield 20, 3) := by decide +kernel
theorem dX7_tick_31 : decode cX7_tick 31 = .ok (.getfield 103, 3) := by decide +kernel
theorem dX7_tick_34 : decode cX7_tick 34 = .ok (.ishl, 1) := by decide +kernel
theorem dX7_tick_35 : decode cX7_tick 35 = .ok (.istore_n 1, 1) := by decide +kernel
theorem dX7_tick_36 : decode cX7_tick 36 = .ok (.iconst 0, 1) := by decide +kernel
theorem dX7_tick_37 : decode cX7_tick 37 = .ok (.istore_n 2, 1) := by decide +kernel
theorem dX7_tick_38 : decode cX7_tick 38 = .ok (.iload_n 2, 1) := by decide +kernel
theorem dX7_tick_39 : decode cX7_tick 39 = .ok (.aload_n 0, 1) := by decide +kernel
theorem dX7_tick_40 : decode cX7_tick 40 = .ok (.getfield 20, 3) := by decide +kernel
theorem dX7_tick_43 : decode cX7_tick 43 = .ok (.getfield 97, 3) := by decide +kernel
theorem dX7_tick_46 : decode cX7_tick 46 = .ok (.if_icmp .ge 40, 3) := by decide +kernel
theorem dX7_tick_49 : decode cX7_tick 49 = .ok (.aload_n 0, 1) := by decide +kernel
theorem dX7_tick_50 : decode cX7_tick 50 = .ok (.getfield 20, 3) := by decide +kernel
theorem dX7_tick_53 : decode cX7_tick 53 = .ok (.getfield 135, 3) := by decide +kernel
theorem dX7_tick_56 : decode cX7_tick 56 = .ok (.iload_n 2, 1) := by decide +kernel
theorem dX7_tick_57 : decode cX7_tick 57 = .ok (.aaload, 1) := by decide +kernel
theorem dX7_tick_58 : decode cX7_tick 58 = .ok (.dup, 1) := by decide +kernel
theorem dX7_tick_59 : decode cX7_tick 59 = .ok (.getfield 348, 3) := by decide +kernel
theorem dX7_tick_62 : decode cX7_tick 62 = .ok (.aload_n 0, 1) := by decide +kernel
theorem dX7_tick_63 : decode cX7_tick 63 = .ok (.getfield 20, 3) := by decide +kernel
theorem dX7_tick_66 : decode cX7_tick 66 = .ok (.getfield 135, 3) := by decide +kernel
theorem dX7_tick_69 : decode cX7_tick 69 = .ok (.iload_n 2, 1) := by decide +kernel
theorem dX7_tick_70 : decode cX7_tick 70 = .ok (.aaload, 1) := by decide +kernel
theorem dX7_tick_71 : decode cX7_tick 71 = .ok (.invokevirtual 339, 3) := by decide +kernel
theorem dX7_tick_74 : decode cX7_tick 74 = .ok (.iload_n 1, 1) := by decide +kernel
theorem dX7_tick_75 : decode cX7_tick 75 = .ok (.iand, 1) := by decide +kernel
theorem dX7_tick_76 : decode cX7_tick 76 = .ok (.ior, 1) := by decide +kernel
theorem dX7_tick_77 : decode cX7_tick 77 = .ok (.putfield 348, 3) := by decide +kernel
theorem dX7_tick_80 : decode cX7_tick 80 = .ok (.iinc 2 1, 3) := by decide +kernel
theorem dX7_tick_83 : decode cX7_tick 83 = .ok (.goto (-45), 3) := by decide +kernel
theorem dX7_tick_86 : decode cX7_tick 86 = .ok (.aload_n 0, 1) := by decide +kernel
theorem dX7_tick_87 : decode cX7_tick 87 = .ok (.getfield 20, 3) := by decide +kernel
theorem dX7_tick_90 : decode cX7_tick 90 = .ok (.dup, 1) := by decide +kernel
theorem dX7_tick_91 : decode cX7_tick 91 = .ok (.getfield 103, 3) := by decide +kernel
theorem dX7_tick_94 : decode cX7_tick 94 = .ok (.iconst 1, 1) := by decide +kernel
theorem dX7_tick_95 : decode cX7_tick 95 = .ok (.iadd, 1) := by decide +kernel
theorem dX7_tick_96 : decode cX7_tick 96 = .ok (.putfield 103, 3) := by decide +kernel
theorem dX7_tick_99 : decode cX7_tick 99 = .ok (.aload_n 0, 1) := by decide +kernel
theorem dX7_tick_100 : decode cX7_tick 100 = .ok (.getfield 20, 3) := by decide +kernel
theorem dX7_tick_103 : decode cX7_tick 103 = .ok (.getfield 103, 3) := by decide +kernel
theorem dX7_tick_106 : decode cX7_tick 106 = .ok (.ireturn, 1) := by decide +kernel
theorem dX7_pool_0 : decode cX7_pool 0 = .ok (.aload_n 0, 1) := by decide +kernel
theorem dX7_pool_1 : decode cX7_pool 1 = .ok (.invokevirtual 121, 3) := by decide +kernel
theorem dX7_pool_4 : decode cX7_pool 4 = .ok (.ifCond .ne 6, 3) := by decide +kernel
theorem dX7_pool_7 : decode cX7_pool 7 = .ok (.bipush (-2), 2) := by decide +kernel
theorem dX7_pool_9 : decode cX7_pool 9 = .ok (.ireturn, 1) := by decide +kernel
theorem dX7_pool_10 : decode cX7_pool 10 = .ok (.aload_n 0, 1) := by decide +kernel
theorem dX7_pool_11 : decode cX7_pool 11 = .ok (.getfield 54, 3) := by decide +kernel
theorem dX7_pool_14 : decode cX7_pool 14 = .ok (.aload_n 0, 1) := by decide +kernel
theorem dX7_pool_15 : decode cX7_pool 15 = .ok (.getfield 20, 3) := by decide +kernel
theorem dX7_pool_18 : decode cX7_pool 18 = .ok (.iconst (-1), 1) := by decide +kernel
theorem dX7_pool_19 : decode cX7_pool 19 = .ok (.invokevirtual 314, 3) := by decide +kernel
theorem dX7_pool_22 : decode cX7_pool 22 = .ok (.aload_n 0, 1) := by decide +kernel
theorem dX7_pool_23 : decode cX7_pool 23 = .ok (.getfield 54, 3) := by decide +kernel
theorem dX7_pool_26 : decode cX7_pool 26 = .ok (.getfield 318, 3) := by decide +kernel
theorem dX7_pool_29 : decode cX7_pool 29 = .ok (.ifCond .le 18, 3) := by decide +kernel
theorem dX7_pool_32 : decode cX7_pool 32 = .ok (.aload_n 0, 1) := by decide +kernel
theorem dX7_pool_33 : decode cX7_pool 33 = .ok (.invokevirtual 333, 3) := by decide +kernel
theorem dX7_pool_36 : decode cX7_pool 36 = .ok (.aload_n 0, 1) := by decide +kernel
theorem dX7_pool_37 : decode cX7_pool 37 = .ok (.getfield 54, 3) := by decide +kernel
theorem dX7_pool_40 : decode cX7_pool 40 = .ok (.aload_n 0, 1) := by decide +kernel
theorem dX7_pool_41 : decode cX7_pool 41 = .ok (.getfield 20, 3) := by decide +kernel
theorem dX7_pool_44 : decode cX7_pool 44 = .ok (.invokevirtual 351, 3) := by decide +kernel
theorem dX7_pool_47 : decode cX7_pool 47 = .ok (.aload_n 0, 1) := by decide +kernel
theorem dX7_pool_48 : decode cX7_pool 48 = .ok (.getfield 54, 3) := by decide +kernel
theorem dX7_pool_51 : decode cX7_pool 51 = .ok (.getfield 318, 3) := by decide +kernel
theorem dX7_pool_54 : decode cX7_pool 54 = .ok (.ireturn, 1) := by decide +kernel
theorem dX7_retime_0 : decode cX7_retime 0 = .ok (.aload_n 0, 1) := by decide +kernel
theorem dX7_retime_1 : decode cX7_retime 1 = .ok (.iload_n 1, 1) := by decide +kernel
theorem dX7_retime_2 : decode cX7_retime 2 = .ok (.invokevirtual 132, 3) := by decide +kernel
theorem dX7_retime_5 : decode cX7_retime 5 = .ok (.ifCond .eq 11, 3) := by decide +kernel
theorem dX7_retime_8 : decode cX7_retime 8 = .ok (.aload_n 0, 1) := by decide +kernel
theorem dX7_retime_9 : decode cX7_retime 9 = .ok (.iload_n 2, 1) := by decide +kernel
theorem dX7_retime_10 : decode cX7_retime 10 = .ok (.invokevirtual 195, 3) := by decide +kernel
theorem dX7_retime_13 : decode cX7_retime 13 = .ok (.ifCond .ne 6, 3) := by decide +kernel
theorem dX7_retime_16 : decode cX7_retime 16 = .ok (.bipush (-2), 2) := by decide +kernel
theorem dX7_retime_18 : decode cX7_retime 18 = .ok (.ireturn, 1) := by decide +kernel
theorem dX7_retime_19 : decode cX7_retime 19 = .ok (.aload_n 0, 1) := by decide +kernel
theorem dX7_retime_20 : decode cX7_retime 20 = .ok (.iload_n 1, 1) := by decide +kernel
theorem dX7_retime_21 : decode cX7_retime 21 = .ok (.iload_n 2, 1) := by decide +kernel
theorem dX7_retime_22 : decode cX7_retime 22 = .ok (.invokevirtual 327, 3) := by decide +kernel
theorem dX7_retime_25 : decode cX7_retime 25 = .ok (.ifCond .ne 6, 3) := by decide +kernel
theorem dX7_retime_28 : decode cX7_retime 28 = .ok (.bipush (-6), 2) := by decide +kernel
theorem dX7_retime_30 : decode cX7_retime 30 = .ok (.ireturn, 1) := by decide +kernel
theorem dX7_retime_31 : decode cX7_retime 31 = .ok (.aload_n 0, 1) := by decide +kernel
theorem dX7_retime_32 : decode cX7_retime 32 = .ok (.invokevirtual 333, 3) := by decide +kernel
theorem dX7_retime_35 : decode cX7_retime 35 = .ok (.aload_n 0, 1) := by decide +kernel
theorem dX7_retime_36 : decode cX7_retime 36 = .ok (.getfield 20, 3) := by decide +kernel
theorem dX7_retime_39 : decode cX7_retime 39 = .ok (.getfield 135, 3) := by decide +kernel
theorem dX7_retime_42 : decode cX7_retime 42 = .ok (.iload_n 1, 1) := by decide +kernel
theorem dX7_retime_43 : decode cX7_retime 43 = .ok (.aaload, 1) := by decide +kernel
theorem dX7_retime_44 : decode cX7_retime 44 = .ok (.getfield 147, 3) := by decide +kernel
theorem dX7_retime_47 : decode cX7_retime 47 = .ok (.istore_n 3, 1) := by decide +kernel
theorem dX7_retime_48 : decode cX7_retime 48 = .ok (.aload_n 0, 1) := by decide +kernel
theorem dX7_retime_49 : decode cX7_retime 49 = .ok (.getfield 20, 3) := by decide +kernel
theorem dX7_retime_52 : decode cX7_retime 52 = .ok (.getfield 135, 3) := by decide +kernel
theorem dX7_retime_55 : decode cX7_retime 55 = .ok (.iload_n 1, 1) := by decide +kernel
theorem dX7_retime_56 : decode cX7_retime 56 = .ok (.aaload, 1) := by decide +kernel
theorem dX7_retime_57 : decode cX7_retime 57 = .ok (.iload_n 2, 1) := by decide +kernel
theorem dX7_retime_58 : decode cX7_retime 58 = .ok (.putfield 147, 3) := by decide +kernel
theorem dX7_retime_61 : decode cX7_retime 61 = .ok (.iload_n 3, 1) := by decide +kernel
theorem dX7_retime_62 : decode cX7_retime 62 = .ok (.ireturn, 1) := by decide +kernel
theorem dX7_swap_0 : decode cX7_swap 0 = .ok (.aload_n 0, 1) := by decide +kernel
theorem dX7_swap_1 : decode cX7_swap 1 = .ok (.iload_n 1, 1) := by decide +kernel
theorem dX7_swap_2 : decode cX7_swap 2 = .ok (.invokevirtual 132, 3) := by decide +kernel
theorem dX7_swap_5 : decode cX7_swap 5 = .ok (.ifCond .eq 11, 3) := by decide +kernel
theorem dX7_swap_8 : decode cX7_swap 8 = .ok (.aload_n 0, 1) := by decide +kernel
theorem dX7_swap_9 : decode cX7_swap 9 = .ok (.iload_n 2, 1) := by decide +kernel
theorem dX7_swap_10 : decode cX7_swap 10 = .ok (.invokevirtual 132, 3) := by decide +kernel
theorem dX7_swap_13 : decode cX7_swap 13 = .ok (.ifCond .ne 6, 3) := by decide +kernel
theorem dX7_swap_16 : decode cX7_swap 16 = .ok (.bipush (-2), 2) := by decide +kernel
theorem dX7_swap_18 : decode cX7_swap 18 = .ok (.ireturn, 1) := by decide +kernel
theorem dX7_swap_19 : decode cX7_swap 19 = .ok (.aload_n 0, 1) := by decide +kernel
theorem dX7_swap_20 : decode cX7_swap 20 = .ok (.iload_n 1, 1) := by decide +kernel
theorem dX7_swap_21 : decode cX7_swap 21 = .ok (.iload_n 2, 1) := by decide +kernel
theorem dX7_swap_22 : decode cX7_swap 22 = .ok (.invokevirtual 330, 3) := by decide +kernel
theorem dX7_swap_25 : decode cX7_swap 25 = .ok (.istore_n 3, 1) := by decide +kernel
theorem dX7_swap_26 : decode cX7_swap 26 = .ok (.iload_n 3, 1) := by decide +kernel
theorem dX7_swap_27 : decode cX7_swap 27 = .ok (.ifCond .eq 5, 3) := by decide +kernel
theorem dX7_swap_30 : decode cX7_swap 30 = .ok (.iload_n 3, 1) := by decide +kernel
theorem dX7_swap_31 : decode cX7_swap 31 = .ok (.ireturn, 1) := by decide +kernel
theorem dX7_swap_32 : decode cX7_swap 32 = .ok (.aload_n 0, 1) := by decide +kernel
theorem dX7_swap_33 : decode cX7_swap 33 = .ok (.invokevirtual 333, 3) := by decide +kernel
theorem dX7_swap_36 : decode cX7_swap 36 = .ok (.aload_n 0, 1) := by decide +kernel
theorem dX7_swap_37 : decode cX7_swap 37 = .ok (.getfield 20, 3) := by decide +kernel
theorem dX7_swap_40 : decode cX7_swap 40 = .ok (.getfield 135, 3) := by decide +kernel
theorem dX7_swap_43 : decode cX7_swap 43 = .ok (.iload_n 1, 1) := by decide +kernel
theorem dX7_swap_44 : decode cX7_swap 44 = .ok (.aaload, 1) := by decide +kernel
theorem dX7_swap_45 : decode cX7_swap 45 = .ok (.aload_n 0, 1) := by decide +kernel
theorem dX7_swap_46 : decode cX7_swap 46 = .ok (.getfield 20, 3) := by decide +kernel
theorem dX7_swap_49 : decode cX7_swap 49 = .ok (.getfield 135, 3) := by decide +kernel
theorem dX7_swap_52 : decode cX7_swap 52 = .ok (.iload_n 2, 1) := by decide +kernel
theorem dX7_swap_53 : decode cX7_swap 53 = .ok (.aaload, 1) := by decide +kernel
theorem dX7_swap_54 : decode cX7_swap 54 = .ok (.invokevirtual 354, 3) := by decide +kernel
theorem dX7_swap_57 : decode cX7_swap 57 = .ok (.iconst 1, 1) := by decide +kernel
theorem dX7_swap_58 : decode cX7_swap 58 = .ok (.ireturn, 1) := by decide +kernel
theorem dX7_hand_0 : decode cX7_hand 0 = .ok (.aload_n 0, 1) := by decide +kernel
theorem dX7_hand_1 : decode cX7_hand 1 = .ok (.iload_n 1, 1) := by decide +kernel
theorem dX7_hand_2 : decode cX7_hand 2 = .ok (.invokevirtual 132, 3) := by decide +kernel
theorem dX7_hand_5 : decode cX7_hand 5 = .ok (.ifCond .eq 11, 3) := by decide +kernel
theorem dX7_hand_8 : decode cX7_hand 8 = .ok (.aload_n 0, 1) := by decide +kernel
theorem dX7_hand_9 : decode cX7_hand 9 = .ok (.iload_n 2, 1) := by decide +kernel
theorem dX7_hand_10 : decode cX7_hand 10 = .ok (.invokevirtual 109, 3) := by decide +kernel
theorem dX7_hand_13 : decode cX7_hand 13 = .ok (.ifCond .ne 6, 3) := by decide +kernel
theorem dX7_hand_16 : decode cX7_hand 16 = .ok (.bipush (-2), 2) := by decide +kernel
theorem dX7_hand_18 : decode cX7_hand 18 = .ok (.ireturn, 1) := by decide +kernel
theorem dX7_hand_19 : decode cX7_hand 19 = .ok (.aload_n 0, 1) := by decide +kernel
theorem dX7_hand_20 : decode cX7_hand 20 = .ok (.getfield 20, 3) := by decide +kernel
theorem dX7_hand_23 : decode cX7_hand 23 = .ok (.getfield 135, 3) := by decide +kernel
theorem dX7_hand_26 : decode cX7_hand 26 = .ok (.iload_n 1, 1) := by decide +kernel
theorem dX7_hand_27 : decode cX7_hand 27 = .ok (.aaload, 1) := by decide +kernel
theorem dX7_hand_28 : decode cX7_hand 28 = .ok (.astore_n 3, 1) := by decide +kernel
theorem dX7_hand_29 : decode cX7_hand 29 = .ok (.aload_n 3, 1) := by decide +kernel
theorem dX7_hand_30 : decode cX7_hand 30 = .ok (.getfield 153, 3) := by decide +kernel
theorem dX7_hand_33 : decode cX7_hand 33 = .ok (.ifCond .eq 6, 3) := by decide +kernel
theorem dX7_hand_36 : decode cX7_hand 36 = .ok (.bipush (-5), 2) := by decide +kernel
theorem dX7_hand_38 : decode cX7_hand 38 = .ok (.ireturn, 1) := by decide +kernel
theorem dX7_hand_39 : decode cX7_hand 39 = .ok (.aload_n 3, 1) := by decide +kernel
theorem dX7_hand_40 : decode cX7_hand 40 = .ok (.getfield 139, 3) := by decide +kernel
theorem dX7_hand_43 : decode cX7_hand 43 = .ok (.iload_n 2, 1) := by decide +kernel
theorem dX7_hand_44 : decode cX7_hand 44 = .ok (.if_icmp .ne 6, 3) := by decide +kernel
theorem dX7_hand_47 : decode cX7_hand 47 = .ok (.bipush (-6), 2) := by decide +kernel
theorem dX7_hand_49 : decode cX7_hand 49 = .ok (.ireturn, 1) := by decide +kernel
theorem dX7_hand_50 : decode cX7_hand 50 = .ok (.aload_n 0, 1) := by decide +kernel
theorem dX7_hand_51 : decode cX7_hand 51 = .ok (.invokevirtual 333, 3) := by decide +kernel
theorem dX7_hand_54 : decode cX7_hand 54 = .ok (.aload_n 3, 1) := by decide +kernel
theorem dX7_hand_55 : decode cX7_hand 55 = .ok (.getfield 139, 3) := by decide +kernel
theorem dX7_hand_58 : decode cX7_hand 58 = .ok (.istore 4, 2) := by decide +kernel
theorem dX7_hand_60 : decode cX7_hand 60 = .ok (.aload_n 3, 1) := by decide +kernel
theorem dX7_hand_61 : decode cX7_hand 61 = .ok (.iload_n 2, 1) := by decide +kernel
theorem dX7_hand_62 : decode cX7_hand 62 = .ok (.putfield 139, 3) := by decide +kernel
theorem dX7_hand_65 : decode cX7_hand 65 = .ok (.iload 4, 2) := by decide +kernel
theorem dX7_hand_67 : decode cX7_hand 67 = .ok (.ireturn, 1) := by decide +kernel
theorem dX7_limit_0 : decode cX7_limit 0 = .ok (.aload_n 0, 1) := by decide +kernel
theorem dX7_limit_1 : decode cX7_limit 1 = .ok (.iload_n 1, 1) := by decide +kernel
theorem dX7_limit_2 : decode cX7_limit 2 = .ok (.invokevirtual 195, 3) := by decide +kernel
theorem dX7_limit_5 : decode cX7_limit 5 = .ok (.ifCond .eq 22, 3) := by decide +kernel
theorem dX7_limit_8 : decode cX7_limit 8 = .ok (.iload_n 2, 1) := by decide +kernel
theorem dX7_limit_9 : decode cX7_limit 9 = .ok (.iconst 0, 1) := by decide +kernel
theorem dX7_limit_10 : decode cX7_limit 10 = .ok (.bipush 9, 2) := by decide +kernel
theorem dX7_limit_12 : decode cX7_limit 12 = .ok (.invokestatic 113, 3) := by decide +kernel
theorem dX7_limit_15 : decode cX7_limit 15 = .ok (.ifCond .eq 12, 3) := by decide +kernel
theorem dX7_limit_18 : decode cX7_limit 18 = .ok (.iload_n 3, 1) := by decide +kernel
theorem dX7_limit_19 : decode cX7_limit 19 = .ok (.iconst 0, 1) := by decide +kernel
theorem dX7_limit_20 : decode cX7_limit 20 = .ok (.iload_n 2, 1) := by decide +kernel
theorem dX7_limit_21 : decode cX7_limit 21 = .ok (.invokestatic 113, 3) := by decide +kernel
theorem dX7_limit_24 : decode cX7_limit 24 = .ok (.ifCond .ne 6, 3) := by decide +kernel
theorem dX7_limit_27 : decode cX7_limit 27 = .ok (.bipush (-2), 2) := by decide +kernel
theorem dX7_limit_29 : decode cX7_limit 29 = .ok (.ireturn, 1) := by decide +kernel
theorem dX7_limit_30 : decode cX7_limit 30 = .ok (.aload_n 0, 1) := by decide +kernel
theorem dX7_limit_31 : decode cX7_limit 31 = .ok (.getfield 20, 3) := by decide +kernel
theorem dX7_limit_34 : decode cX7_limit 34 = .ok (.iload_n 1, 1) := by decide +kernel
theorem dX7_limit_35 : decode cX7_limit 35 = .ok (.iload_n 2, 1) := by decide +kernel
theorem dX7_limit_36 : decode cX7_limit 36 = .ok (.iload_n 3, 1) := by decide +kernel
theorem dX7_limit_37 : decode cX7_limit 37 = .ok (.invokevirtual 358, 3) := by decide +kernel
theorem dX7_limit_40 : decode cX7_limit 40 = .ok (.ifCond .eq 6, 3) := by decide +kernel
theorem dX7_limit_43 : decode cX7_limit 43 = .ok (.bipush (-6), 2) := by decide +kernel
theorem dX7_limit_45 : decode cX7_limit 45 = .ok (.ireturn, 1) := by decide +kernel
theorem dX7_limit_46 : decode cX7_limit 46 = .ok (.aload_n 0, 1) := by decide +kernel
theorem dX7_limit_47 : decode cX7_limit 47 = .ok (.getfield 20, 3) := by decide +kernel
theorem dX7_limit_50 : decode cX7_limit 50 = .ok (.getfield 198, 3) := by decide +kernel
theorem dX7_limit_53 : decode cX7_limit 53 = .ok (.iload_n 1, 1) := by decide +kernel
theorem dX7_limit_54 : decode cX7_limit 54 = .ok (.iaload, 1) := by decide +kernel
theorem dX7_limit_55 : decode cX7_limit 55 = .ok (.istore 4, 2) := by decide +kernel
theorem dX7_limit_57 : decode cX7_limit 57 = .ok (.aload_n 0, 1) := by decide +kernel
theorem dX7_limit_58 : decode cX7_limit 58 = .ok (.getfield 20, 3) := by decide +kernel
theorem dX7_limit_61 : decode cX7_limit 61 = .ok (.getfield 202, 3) := by decide +kernel
theorem dX7_limit_64 : decode cX7_limit 64 = .ok (.iload_n 1, 1) := by decide +kernel
theorem dX7_limit_65 : decode cX7_limit 65 = .ok (.iaload, 1) := by decide +kernel
theorem dX7_limit_66 : decode cX7_limit 66 = .ok (.istore 5, 2) := by decide +kernel
theorem dX7_limit_68 : decode cX7_limit 68 = .ok (.iload 4, 2) := by decide +kernel
theorem dX7_limit_70 : decode cX7_limit 70 = .ok (.iload_n 2, 1) := by decide +kernel
theorem dX7_limit_71 : decode cX7_limit 71 = .ok (.if_icmp .ne 9, 3) := by decide +kernel
theorem dX7_limit_74 : decode cX7_limit 74 = .ok (.iload 5, 2) := by decide +kernel
theorem dX7_limit_76 : decode cX7_limit 76 = .ok (.iload_n 3, 1) := by decide +kernel
theorem dX7_limit_77 : decode cX7_limit 77 = .ok (.if_icmp .eq 27, 3) := by decide +kernel
theorem dX7_limit_80 : decode cX7_limit 80 = .ok (.aload_n 0, 1) := by decide +kernel
theorem dX7_limit_81 : decode cX7_limit 81 = .ok (.invokevirtual 333, 3) := by decide +kernel
theorem dX7_limit_84 : decode cX7_limit 84 = .ok (.aload_n 0, 1) := by decide +kernel
theorem dX7_limit_85 : decode cX7_limit 85 = .ok (.getfield 20, 3) := by decide +kernel
theorem dX7_limit_88 : decode cX7_limit 88 = .ok (.getfield 198, 3) := by decide +kernel
theorem dX7_limit_91 : decode cX7_limit 91 = .ok (.iload_n 1, 1) := by decide +kernel
theorem dX7_limit_92 : decode cX7_limit 92 = .ok (.iload_n 2, 1) := by decide +kernel
theorem dX7_limit_93 : decode cX7_limit 93 = .ok (.iastore, 1) := by decide +kernel
theorem dX7_limit_94 : decode cX7_limit 94 = .ok (.aload_n 0, 1) := by decide +kernel
theorem dX7_limit_95 : decode cX7_limit 95 = .ok (.getfield 20, 3) := by decide +kernel
theorem dX7_limit_98 : decode cX7_limit 98 = .ok (.getfield 202, 3) := by decide +kernel
theorem dX7_limit_101 : decode cX7_limit 101 = .ok (.iload_n 1, 1) := by decide +kernel
theorem dX7_limit_102 : decode cX7_limit 102 = .ok (.iload_n 3, 1) := by decide +kernel
theorem dX7_limit_103 : decode cX7_limit 103 = .ok (.iastore, 1) := by decide +kernel
theorem dX7_limit_104 : decode cX7_limit 104 = .ok (.bipush 10, 2) := by decide +kernel
theorem dX7_limit_106 : decode cX7_limit 106 = .ok (.iload 4, 2) := by decide +kernel
theorem dX7_limit_108 : decode cX7_limit 108 = .ok (.imul, 1) := by decide +kernel
theorem dX7_limit_109 : decode cX7_limit 109 = .ok (.iload 5, 2) := by decide +kernel
theorem dX7_limit_111 : decode cX7_limit 111 = .ok (.iadd, 1) := by decide +kernel
theorem dX7_limit_112 : decode cX7_limit 112 = .ok (.ireturn, 1) := by decide +kernel
theorem dX7_ask_0 : decode cX7_ask 0 = .ok (.iload_n 2, 1) := by decide +kernel
theorem dX7_ask_1 : decode cX7_ask 1 = .ok (.sipush 1000, 3) := by decide +kernel
theorem dX7_ask_4 : decode cX7_ask 4 = .ok (.idiv, 1) := by decide +kernel
theorem dX7_ask_5 : decode cX7_ask 5 = .ok (.istore 6, 2) := by decide +kernel
theorem dX7_ask_7 : decode cX7_ask 7 = .ok (.iload_n 2, 1) := by decide +kernel
theorem dX7_ask_8 : decode cX7_ask 8 = .ok (.sipush 1000, 3) := by decide +kernel
theorem dX7_ask_11 : decode cX7_ask 11 = .ok (.irem, 1) := by decide +kernel
theorem dX7_ask_12 : decode cX7_ask 12 = .ok (.bipush 10, 2) := by decide +kernel
theorem dX7_ask_14 : decode cX7_ask 14 = .ok (.idiv, 1) := by decide +kernel
theorem dX7_ask_15 : decode cX7_ask 15 = .ok (.istore 7, 2) := by decide +kernel
theorem dX7_ask_17 : decode cX7_ask 17 = .ok (.iload_n 2, 1) := by decide +kernel
theorem dX7_ask_18 : decode cX7_ask 18 = .ok (.bipush 10, 2) := by decide +kernel
theorem dX7_ask_20 : decode cX7_ask 20 = .ok (.irem, 1) := by decide +kernel
theorem dX7_ask_21 : decode cX7_ask 21 = .ok (.istore 8, 2) := by decide +kernel
theorem dX7_ask_23 : decode cX7_ask 23 = .ok (.aload_n 0, 1) := by decide +kernel
theorem dX7_ask_24 : decode cX7_ask 24 = .ok (.iload_n 1, 1) := by decide +kernel
theorem dX7_ask_25 : decode cX7_ask 25 = .ok (.invokevirtual 109, 3) := by decide +kernel
theorem dX7_ask_28 : decode cX7_ask 28 = .ok (.ifCond .eq 33, 3) := by decide +kernel
theorem dX7_ask_31 : decode cX7_ask 31 = .ok (.iload_n 2, 1) := by decide +kernel
theorem dX7_ask_32 : decode cX7_ask 32 = .ok (.ifCond .lt 29, 3) := by decide +kernel
theorem dX7_ask_35 : decode cX7_ask 35 = .ok (.aload_n 0, 1) := by decide +kernel
theorem dX7_ask_36 : decode cX7_ask 36 = .ok (.iload 6, 2) := by decide +kernel
theorem dX7_ask_38 : decode cX7_ask 38 = .ok (.invokevirtual 245, 3) := by decide +kernel
theorem dX7_ask_41 : decode cX7_ask 41 = .ok (.ifCond .eq 20, 3) := by decide +kernel
theorem dX7_ask_44 : decode cX7_ask 44 = .ok (.aload_n 0, 1) := by decide +kernel
theorem dX7_ask_45 : decode cX7_ask 45 = .ok (.iload 7, 2) := by decide +kernel
theorem dX7_ask_47 : decode cX7_ask 47 = .ok (.invokevirtual 195, 3) := by decide +kernel
theorem dX7_ask_50 : decode cX7_ask 50 = .ok (.ifCond .eq 11, 3) := by decide +kernel
theorem dX7_ask_53 : decode cX7_ask 53 = .ok (.iload 8, 2) := by decide +kernel
theorem dX7_ask_55 : decode cX7_ask 55 = .ok (.invokestatic 218, 3) := by decide +kernel
theorem dX7_ask_58 : decode cX7_ask 58 = .ok (.ifCond .ne 6, 3) := by decide +kernel
theorem dX7_ask_61 : decode cX7_ask 61 = .ok (.bipush (-2), 2) := by decide +kernel
theorem dX7_ask_63 : decode cX7_ask 63 = .ok (.ireturn, 1) := by decide +kernel
theorem dX7_ask_64 : decode cX7_ask 64 = .ok (.aload_n 0, 1) := by decide +kernel
theorem dX7_ask_65 : decode cX7_ask 65 = .ok (.iload_n 3, 1) := by decide +kernel
theorem dX7_ask_66 : decode cX7_ask 66 = .ok (.invokevirtual 167, 3) := by decide +kernel
theorem dX7_ask_69 : decode cX7_ask 69 = .ok (.ifCond .eq 33, 3) := by decide +kernel
theorem dX7_ask_72 : decode cX7_ask 72 = .ok (.aload_n 0, 1) := by decide +kernel
theorem dX7_ask_73 : decode cX7_ask 73 = .ok (.iload 4, 2) := by decide +kernel
theorem dX7_ask_75 : decode cX7_ask 75 = .ok (.invokevirtual 167, 3) := by decide +kernel
theorem dX7_ask_78 : decode cX7_ask 78 = .ok (.ifCond .eq 24, 3) := by decide +kernel
theorem dX7_ask_81 : decode cX7_ask 81 = .ok (.iload 4, 2) := by decide +kernel
theorem dX7_ask_83 : decode cX7_ask 83 = .ok (.iload_n 3, 1) := by decide +kernel
theorem dX7_ask_84 : decode cX7_ask 84 = .ok (.isub, 1) := by decide +kernel
theorem dX7_ask_85 : decode cX7_ask 85 = .ok (.iconst 1, 1) := by decide +kernel
theorem dX7_ask_86 : decode cX7_ask 86 = .ok (.iadd, 1) := by decide +kernel
theorem dX7_ask_87 : decode cX7_ask 87 = .ok (.iconst 5, 1) := by decide +kernel
theorem dX7_ask_88 : decode cX7_ask 88 = .ok (.if_icmp .lt 14, 3) := by decide +kernel
theorem dX7_ask_91 : decode cX7_ask 91 = .ok (.iload 5, 2) := by decide +kernel
theorem dX7_ask_93 : decode cX7_ask 93 = .ok (.iconst 0, 1) := by decide +kernel
theorem dX7_ask_94 : decode cX7_ask 94 = .ok (.bipush 9, 2) := by decide +kernel
theorem dX7_ask_96 : decode cX7_ask 96 = .ok (.invokestatic 113, 3) := by decide +kernel
theorem dX7_ask_99 : decode cX7_ask 99 = .ok (.ifCond .ne 6, 3) := by decide +kernel
theorem dX7_ask_102 : decode cX7_ask 102 = .ok (.bipush (-2), 2) := by decide +kernel
theorem dX7_ask_104 : decode cX7_ask 104 = .ok (.ireturn, 1) := by decide +kernel
theorem dX7_ask_105 : decode cX7_ask 105 = .ok (.aload_n 0, 1) := by decide +kernel
theorem dX7_ask_106 : decode cX7_ask 106 = .ok (.getfield 20, 3) := by decide +kernel
theorem dX7_ask_109 : decode cX7_ask 109 = .ok (.getfield 100, 3) := by decide +kernel
theorem dX7_ask_112 : decode cX7_ask 112 = .ok (.bipush 24, 2) := by decide +kernel
theorem dX7_ask_114 : decode cX7_ask 114 = .ok (.if_icmp .lt 6, 3) := by decide +kernel
theorem dX7_ask_117 : decode cX7_ask 117 = .ok (.bipush (-5), 2) := by decide +kernel
theorem dX7_ask_119 : decode cX7_ask 119 = .ok (.ireturn, 1) := by decide +kernel
theorem dX7_ask_120 : decode cX7_ask 120 = .ok (.aload_n 0, 1) := by decide +kernel
theorem dX7_ask_121 : decode cX7_ask 121 = .ok (.invokevirtual 333, 3) := by decide +kernel
theorem dX7_ask_124 : decode cX7_ask 124 = .ok (.aload_n 0, 1) := by decide +kernel
theorem dX7_ask_125 : decode cX7_ask 125 = .ok (.getfield 20, 3) := by decide +kernel
theorem dX7_ask_128 : decode cX7_ask 128 = .ok (.invokevirtual 361, 3) := by decide +kernel
theorem dX7_ask_131 : decode cX7_ask 131 = .ok (.astore 9, 2) := by decide +kernel
theorem dX7_ask_133 : decode cX7_ask 133 = .ok (.aload 9, 2) := by decide +kernel
theorem dX7_ask_135 : decode cX7_ask 135 = .ok (.iload_n 1, 1) := by decide +kernel
theorem dX7_ask_136 : decode cX7_ask 136 = .ok (.iload 6, 2) := by decide +kernel
theorem dX7_ask_138 : decode cX7_ask 138 = .ok (.iload 7, 2) := by decide +kernel
theorem dX7_ask_140 : decode cX7_ask 140 = .ok (.iload 8, 2) := by decide +kernel
theorem dX7_ask_142 : decode cX7_ask 142 = .ok (.invokevirtual 365, 3) := by decide +kernel
theorem dX7_ask_145 : decode cX7_ask 145 = .ok (.aload 9, 2) := by decide +kernel
theorem dX7_ask_147 : decode cX7_ask 147 = .ok (.iload_n 3, 1) := by decide +kernel
theorem dX7_ask_148 : decode cX7_ask 148 = .ok (.iload 4, 2) := by decide +kernel
theorem dX7_ask_150 : decode cX7_ask 150 = .ok (.iload 5, 2) := by decide +kernel
theorem dX7_ask_152 : decode cX7_ask 152 = .ok (.invokevirtual 369, 3) := by decide +kernel
theorem dX7_ask_155 : decode cX7_ask 155 = .ok (.aload_n 0, 1) := by decide +kernel
theorem dX7_ask_156 : decode cX7_ask 156 = .ok (.getfield 20, 3) := by decide +kernel
theorem dX7_ask_159 : decode cX7_ask 159 = .ok (.getfield 100, 3) := by decide +kernel
theorem dX7_ask_162 : decode cX7_ask 162 = .ok (.ireturn, 1) := by decide +kernel
theorem dX7_drop_0 : decode cX7_drop 0 = .ok (.aload_n 0, 1) := by decide +kernel
theorem dX7_drop_1 : decode cX7_drop 1 = .ok (.iload_n 1, 1) := by decide +kernel
theorem dX7_drop_2 : decode cX7_drop 2 = .ok (.invokevirtual 173, 3) := by decide +kernel
theorem dX7_drop_5 : decode cX7_drop 5 = .ok (.ifCond .ne 6, 3) := by decide +kernel
theorem dX7_drop_8 : decode cX7_drop 8 = .ok (.bipush (-2), 2) := by decide +kernel
theorem dX7_drop_10 : decode cX7_drop 10 = .ok (.ireturn, 1) := by decide +kernel
theorem dX7_drop_11 : decode cX7_drop 11 = .ok (.aload_n 0, 1) := by decide +kernel
theorem dX7_drop_12 : decode cX7_drop 12 = .ok (.invokevirtual 333, 3) := by decide +kernel
theorem dX7_drop_15 : decode cX7_drop 15 = .ok (.aload_n 0, 1) := by decide +kernel
theorem dX7_drop_16 : decode cX7_drop 16 = .ok (.getfield 20, 3) := by decide +kernel
theorem dX7_drop_19 : decode cX7_drop 19 = .ok (.iload_n 1, 1) := by decide +kernel
theorem dX7_drop_20 : decode cX7_drop 20 = .ok (.invokevirtual 373, 3) := by decide +kernel
theorem dX7_drop_23 : decode cX7_drop 23 = .ok (.aload_n 0, 1) := by decide +kernel
theorem dX7_drop_24 : decode cX7_drop 24 = .ok (.getfield 20, 3) := by decide +kernel
theorem dX7_drop_27 : decode cX7_drop 27 = .ok (.getfield 100, 3) := by decide +kernel
theorem dX7_drop_30 : decode cX7_drop 30 = .ok (.ireturn, 1) := by decide +kernel
theorem dX7_ends_0 : decode cX7_ends 0 = .ok (.aload_n 0, 1) := by decide +kernel
theorem dX7_ends_1 : decode cX7_ends 1 = .ok (.invokevirtual 121, 3) := by decide +kernel
theorem dX7_ends_4 : decode cX7_ends 4 = .ok (.ifCond .ne 6, 3) := by decide +kernel
theorem dX7_ends_7 : decode cX7_ends 7 = .ok (.bipush (-2), 2) := by decide +kernel
theorem dX7_ends_9 : decode cX7_ends 9 = .ok (.ireturn, 1) := by decide +kernel
theorem dX7_ends_10 : decode cX7_ends 10 = .ok (.aload_n 0, 1) := by decide +kernel
theorem dX7_ends_11 : decode cX7_ends 11 = .ok (.getfield 20, 3) := by decide +kernel
theorem dX7_ends_14 : decode cX7_ends 14 = .ok (.invokevirtual 279, 3) := by decide +kernel
theorem dX7_ends_17 : decode cX7_ends 17 = .ok (.ifCond .ne 6, 3) := by decide +kernel
theorem dX7_ends_20 : decode cX7_ends 20 = .ok (.bipush (-6), 2) := by decide +kernel
theorem dX7_ends_22 : decode cX7_ends 22 = .ok (.ireturn, 1) := by decide +kernel
theorem dX7_ends_23 : decode cX7_ends 23 = .ok (.aload_n 0, 1) := by decide +kernel
theorem dX7_ends_24 : decode cX7_ends 24 = .ok (.invokevirtual 333, 3) := by decide +kernel
theorem dX7_ends_27 : decode cX7_ends 27 = .ok (.aload_n 0, 1) := by decide +kernel
theorem dX7_ends_28 : decode cX7_ends 28 = .ok (.getfield 20, 3) := by decide +kernel
theorem dX7_ends_31 : decode cX7_ends 31 = .ok (.invokevirtual 376, 3) := by decide +kernel
theorem dX7_ends_34 : decode cX7_ends 34 = .ok (.aload_n 0, 1) := by decide +kernel
theorem dX7_ends_35 : decode cX7_ends 35 = .ok (.getfield 20, 3) := by decide +kernel
theorem dX7_ends_38 : decode cX7_ends 38 = .ok (.getfield 97, 3) := by decide +kernel
theorem dX7_ends_41 : decode cX7_ends 41 = .ok (.ireturn, 1) := by decide +kernel
theorem dX7_undo_0 : decode cX7_undo 0 = .ok (.aload_n 0, 1) := by decide +kernel
theorem dX7_undo_1 : decode cX7_undo 1 = .ok (.getfield 35, 3) := by decide +kernel
theorem dX7_undo_4 : decode cX7_undo 4 = .ok (.ifCond .ne 5, 3) := by decide +kernel
theorem dX7_undo_7 : decode cX7_undo 7 = .ok (.iconst (-1), 1) := by decide +kernel
theorem dX7_undo_8 : decode cX7_undo 8 = .ok (.ireturn, 1) := by decide +kernel
theorem dX7_undo_9 : decode cX7_undo 9 = .ok (.aload_n 0, 1) := by decide +kernel
theorem dX7_undo_10 : decode cX7_undo 10 = .ok (.dup, 1) := by decide +kernel
theorem dX7_undo_11 : decode cX7_undo 11 = .ok (.getfield 35, 3) := by decide +kernel
theorem dX7_undo_14 : decode cX7_undo 14 = .ok (.iconst 1, 1) := by decide +kernel
theorem dX7_undo_15 : decode cX7_undo 15 = .ok (.isub, 1) := by decide +kernel
theorem dX7_undo_16 : decode cX7_undo 16 = .ok (.putfield 35, 3) := by decide +kernel
theorem dX7_undo_19 : decode cX7_undo 19 = .ok (.aload_n 0, 1) := by decide +kernel
theorem dX7_undo_20 : decode cX7_undo 20 = .ok (.getfield 20, 3) := by decide +kernel
theorem dX7_undo_23 : decode cX7_undo 23 = .ok (.aload_n 0, 1) := by decide +kernel
theorem dX7_undo_24 : decode cX7_undo 24 = .ok (.getfield 31, 3) := by decide +kernel
theorem dX7_undo_27 : decode cX7_undo 27 = .ok (.aload_n 0, 1) := by decide +kernel
theorem dX7_undo_28 : decode cX7_undo 28 = .ok (.getfield 35, 3) := by decide +kernel
theorem dX7_undo_31 : decode cX7_undo 31 = .ok (.aaload, 1) := by decide +kernel
theorem dX7_undo_32 : decode cX7_undo 32 = .ok (.invokevirtual 80, 3) := by decide +kernel
theorem dX7_undo_35 : decode cX7_undo 35 = .ok (.aload_n 0, 1) := by decide +kernel
theorem dX7_undo_36 : decode cX7_undo 36 = .ok (.getfield 35, 3) := by decide +kernel
theorem dX7_undo_39 : decode cX7_undo 39 = .ok (.ireturn, 1) := by decide +kernel
theorem dX7_tell_0 : decode cX7_tell 0 = .ok (.aload_n 0, 1) := by decide +kernel
theorem dX7_tell_1 : decode cX7_tell 1 = .ok (.invokevirtual 121, 3) := by decide +kernel
theorem dX7_tell_4 : decode cX7_tell 4 = .ok (.ifCond .ne 6, 3) := by decide +kernel
theorem dX7_tell_7 : decode cX7_tell 7 = .ok (.bipush (-2), 2) := by decide +kernel
theorem dX7_tell_9 : decode cX7_tell 9 = .ok (.ireturn, 1) := by decide +kernel
theorem dX7_tell_10 : decode cX7_tell 10 = .ok (.aload_n 0, 1) := by decide +kernel
theorem dX7_tell_11 : decode cX7_tell 11 = .ok (.getfield 61, 3) := by decide +kernel
theorem dX7_tell_14 : decode cX7_tell 14 = .ok (.aload_n 0, 1) := by decide +kernel
theorem dX7_tell_15 : decode cX7_tell 15 = .ok (.getfield 20, 3) := by decide +kernel
theorem dX7_tell_18 : decode cX7_tell 18 = .ok (.aload_n 0, 1) := by decide +kernel
theorem dX7_tell_19 : decode cX7_tell 19 = .ok (.getfield 27, 3) := by decide +kernel
theorem dX7_tell_22 : decode cX7_tell 22 = .ok (.invokevirtual 379, 3) := by decide +kernel
theorem dX7_tell_25 : decode cX7_tell 25 = .ok (.ireturn, 1) := by decide +kernel
theorem dX7_octet_0 : decode cX7_octet 0 = .ok (.iload_n 1, 1) := by decide +kernel
theorem dX7_octet_1 : decode cX7_octet 1 = .ok (.ifCond .lt 14, 3) := by decide +kernel
theorem dX7_octet_4 : decode cX7_octet 4 = .ok (.iload_n 1, 1) := by decide +kernel
theorem dX7_octet_5 : decode cX7_octet 5 = .ok (.aload_n 0, 1) := by decide +kernel
theorem dX7_octet_6 : decode cX7_octet 6 = .ok (.getfield 61, 3) := by decide +kernel
theorem dX7_octet_9 : decode cX7_octet 9 = .ok (.getfield 383, 3) := by decide +kernel
theorem dX7_octet_12 : decode cX7_octet 12 = .ok (.if_icmp .lt 5, 3) := by decide +kernel
theorem dX7_octet_15 : decode cX7_octet 15 = .ok (.iconst (-1), 1) := by decide +kernel
theorem dX7_octet_16 : decode cX7_octet 16 = .ok (.ireturn, 1) := by decide +kernel
theorem dX7_octet_17 : decode cX7_octet 17 = .ok (.aload_n 0, 1) := by decide +kernel
theorem dX7_octet_18 : decode cX7_octet 18 = .ok (.getfield 61, 3) := by decide +kernel
theorem dX7_octet_21 : decode cX7_octet 21 = .ok (.getfield 384, 3) := by decide +kernel
theorem dX7_octet_24 : decode cX7_octet 24 = .ok (.iload_n 1, 1) := by decide +kernel
theorem dX7_octet_25 : decode cX7_octet 25 = .ok (.baload, 1) := by decide +kernel
theorem dX7_octet_26 : decode cX7_octet 26 = .ok (.ireturn, 1) := by decide +kernel
theorem dX7_putOnTape_0 : decode cX7_putOnTape 0 = .ok (.bipush 24, 2) := by decide +kernel
theorem dX7_putOnTape_2 : decode cX7_putOnTape 2 = .ok (.istore_n 2, 1) := by decide +kernel
theorem dX7_putOnTape_3 : decode cX7_putOnTape 3 = .ok (.iload_n 2, 1) := by decide +kernel
theorem dX7_putOnTape_4 : decode cX7_putOnTape 4 = .ok (.ifCond .lt 42, 3) := by decide +kernel
theorem dX7_putOnTape_7 : decode cX7_putOnTape 7 = .ok (.aload_n 0, 1) := by decide +kernel
theorem dX7_putOnTape_8 : decode cX7_putOnTape 8 = .ok (.getfield 13, 3) := by decide +kernel
theorem dX7_putOnTape_11 : decode cX7_putOnTape 11 = .ok (.sipush 1200, 3) := by decide +kernel
theorem dX7_putOnTape_14 : decode cX7_putOnTape 14 = .ok (.if_icmp .ge 26, 3) := by decide +kernel
theorem dX7_putOnTape_17 : decode cX7_putOnTape 17 = .ok (.aload_n 0, 1) := by decide +kernel
theorem dX7_putOnTape_18 : decode cX7_putOnTape 18 = .ok (.getfield 9, 3) := by decide +kernel
theorem dX7_putOnTape_21 : decode cX7_putOnTape 21 = .ok (.aload_n 0, 1) := by decide +kernel
theorem dX7_putOnTape_22 : decode cX7_putOnTape 22 = .ok (.getfield 13, 3) := by decide +kernel
theorem dX7_putOnTape_25 : decode cX7_putOnTape 25 = .ok (.iload_n 1, 1) := by decide +kernel
theorem dX7_putOnTape_26 : decode cX7_putOnTape 26 = .ok (.iload_n 2, 1) := by decide +kernel
theorem dX7_putOnTape_27 : decode cX7_putOnTape 27 = .ok (.iushr, 1) := by decide +kernel
theorem dX7_putOnTape_28 : decode cX7_putOnTape 28 = .ok (.i2b, 1) := by decide +kernel
theorem dX7_putOnTape_29 : decode cX7_putOnTape 29 = .ok (.bastore, 1) := by decide +kernel
theorem dX7_putOnTape_30 : decode cX7_putOnTape 30 = .ok (.aload_n 0, 1) := by decide +kernel
theorem dX7_putOnTape_31 : decode cX7_putOnTape 31 = .ok (.dup, 1) := by decide +kernel
theorem dX7_putOnTape_32 : decode cX7_putOnTape 32 = .ok (.getfield 13, 3) := by decide +kernel
theorem dX7_putOnTape_35 : decode cX7_putOnTape 35 = .ok (.iconst 1, 1) := by decide +kernel
theorem dX7_putOnTape_36 : decode cX7_putOnTape 36 = .ok (.iadd, 1) := by decide +kernel
theorem dX7_putOnTape_37 : decode cX7_putOnTape 37 = .ok (.putfield 13, 3) := by decide +kernel
theorem dX7_putOnTape_40 : decode cX7_putOnTape 40 = .ok (.iinc 2 (-8), 3) := by decide +kernel
theorem dX7_putOnTape_43 : decode cX7_putOnTape 43 = .ok (.goto (-40), 3) := by decide +kernel
theorem dX7_putOnTape_46 : decode cX7_putOnTape 46 = .ok (.return_, 1) := by decide +kernel
theorem dX7_hasText_0 : decode cX7_hasText 0 = .ok (.aload_n 0, 1) := by decide +kernel
theorem dX7_hasText_1 : decode cX7_hasText 1 = .ok (.getfield 20, 3) := by decide +kernel
theorem dX7_hasText_4 : decode cX7_hasText 4 = .ok (.getfield 91, 3) := by decide +kernel
theorem dX7_hasText_7 : decode cX7_hasText 7 = .ok (.ifCond .le 7, 3) := by decide +kernel
theorem dX7_hasText_10 : decode cX7_hasText 10 = .ok (.iconst 1, 1) := by decide +kernel
theorem dX7_hasText_11 : decode cX7_hasText 11 = .ok (.goto 4, 3) := by decide +kernel
theorem dX7_hasText_14 : decode cX7_hasText 14 = .ok (.iconst 0, 1) := by decide +kernel
theorem dX7_hasText_15 : decode cX7_hasText 15 = .ok (.ireturn, 1) := by decide +kernel
theorem dX7_isSeries_0 : decode cX7_isSeries 0 = .ok (.iload_n 1, 1) := by decide +kernel
theorem dX7_isSeries_1 : decode cX7_isSeries 1 = .ok (.ifCond .lt 18, 3) := by decide +kernel
theorem dX7_isSeries_4 : decode cX7_isSeries 4 = .ok (.iload_n 1, 1) := by decide +kernel
theorem dX7_isSeries_5 : decode cX7_isSeries 5 = .ok (.aload_n 0, 1) := by decide +kernel
theorem dX7_isSeries_6 : decode cX7_isSeries 6 = .ok (.getfield 20, 3) := by decide +kernel
theorem dX7_isSeries_9 : decode cX7_isSeries 9 = .ok (.getfield 97, 3) := by decide +kernel
theorem dX7_isSeries_12 : decode cX7_isSeries 12 = .ok (.if_icmp .ge 7, 3) := by decide +kernel
theorem dX7_isSeries_15 : decode cX7_isSeries 15 = .ok (.iconst 1, 1) := by decide +kernel
theorem dX7_isSeries_16 : decode cX7_isSeries 16 = .ok (.goto 4, 3) := by decide +kernel
theorem dX7_isSeries_19 : decode cX7_isSeries 19 = .ok (.iconst 0, 1) := by decide +kernel
theorem dX7_isSeries_20 : decode cX7_isSeries 20 = .ok (.ireturn, 1) := by decide +kernel
theorem dX7_isAsk_0 : decode cX7_isAsk 0 = .ok (.iload_n 1, 1) := by decide +kernel
theorem dX7_isAsk_1 : decode cX7_isAsk 1 = .ok (.ifCond .lt 18, 3) := by decide +kernel
theorem dX7_isAsk_4 : decode cX7_isAsk 4 = .ok (.iload_n 1, 1) := by decide +kernel
theorem dX7_isAsk_5 : decode cX7_isAsk 5 = .ok (.aload_n 0, 1) := by decide +kernel
theorem dX7_isAsk_6 : decode cX7_isAsk 6 = .ok (.getfield 20, 3) := by decide +kernel
theorem dX7_isAsk_9 : decode cX7_isAsk 9 = .ok (.getfield 100, 3) := by decide +kernel
theorem dX7_isAsk_12 : decode cX7_isAsk 12 = .ok (.if_icmp .ge 7, 3) := by decide +kernel
theorem dX7_isAsk_15 : decode cX7_isAsk 15 = .ok (.iconst 1, 1) := by decide +kernel
theorem dX7_isAsk_16 : decode cX7_isAsk 16 = .ok (.goto 4, 3) := by decide +kernel
theorem dX7_isAsk_19 : decode cX7_isAsk 19 = .ok (.iconst 0, 1) := by decide +kernel
theorem dX7_isAsk_20 : decode cX7_isAsk 20 = .ok (.ireturn, 1) := by decide +kernel
theorem dX7_isCarrier_0 : decode cX7_isCarrier 0 = .ok (.iload_n 1, 1) := by decide +kernel
theorem dX7_isCarrier_1 : decode cX7_isCarrier 1 = .ok (.ifCond .lt 18, 3) := by decide +kernel
theorem dX7_isCarrier_4 : decode cX7_isCarrier 4 = .ok (.iload_n 1, 1) := by decide +kernel
theorem dX7_isCarrier_5 : decode cX7_isCarrier 5 = .ok (.aload_n 0, 1) := by decide +kernel
theorem dX7_isCarrier_6 : decode cX7_isCarrier 6 = .ok (.getfield 27, 3) := by decide +kernel
theorem dX7_isCarrier_9 : decode cX7_isCarrier 9 = .ok (.getfield 94, 3) := by decide +kernel
theorem dX7_isCarrier_12 : decode cX7_isCarrier 12 = .ok (.if_icmp .ge 7, 3) := by decide +kernel
theorem dX7_isCarrier_15 : decode cX7_isCarrier 15 = .ok (.iconst 1, 1) := by decide +kernel
theorem dX7_isCarrier_16 : decode cX7_isCarrier 16 = .ok (.goto 4, 3) := by decide +kernel
theorem dX7_isCarrier_19 : decode cX7_isCarrier 19 = .ok (.iconst 0, 1) := by decide +kernel
theorem dX7_isCarrier_20 : decode cX7_isCarrier 20 = .ok (.ireturn, 1) := by decide +kernel
theorem dX7_isWeek_0 : decode cX7_isWeek 0 = .ok (.iload_n 1, 1) := by decide +kernel
theorem dX7_isWeek_1 : decode cX7_isWeek 1 = .ok (.ifCond .lt 18, 3) := by decide +kernel
theorem dX7_isWeek_4 : decode cX7_isWeek 4 = .ok (.iload_n 1, 1) := by decide +kernel
theorem dX7_isWeek_5 : decode cX7_isWeek 5 = .ok (.aload_n 0, 1) := by decide +kernel
theorem dX7_isWeek_6 : decode cX7_isWeek 6 = .ok (.getfield 20, 3) := by decide +kernel
theorem dX7_isWeek_9 : decode cX7_isWeek 9 = .ok (.getfield 91, 3) := by decide +kernel
theorem dX7_isWeek_12 : decode cX7_isWeek 12 = .ok (.if_icmp .ge 7, 3) := by decide +kernel
theorem dX7_isWeek_15 : decode cX7_isWeek 15 = .ok (.iconst 1, 1) := by decide +kernel
theorem dX7_isWeek_16 : decode cX7_isWeek 16 = .ok (.goto 4, 3) := by decide +kernel
theorem dX7_isWeek_19 : decode cX7_isWeek 19 = .ok (.iconst 0, 1) := by decide +kernel
theorem dX7_isWeek_20 : decode cX7_isWeek 20 = .ok (.ireturn, 1) := by decide +kernel
theorem dX7_isDay_0 : decode cX7_isDay 0 = .ok (.aload_n 0, 1) := by decide +kernel
theorem dX7_isDay_1 : decode cX7_isDay 1 = .ok (.invokevirtual 121, 3) := by decide +kernel
theorem dX7_isDay_4 : decode cX7_isDay 4 = .ok (.ifCond .eq 17, 3) := by decide +kernel
theorem dX7_isDay_7 : decode cX7_isDay 7 = .ok (.iload_n 1, 1) := by decide +kernel
theorem dX7_isDay_8 : decode cX7_isDay 8 = .ok (.ifCond .lt 13, 3) := by decide +kernel
theorem dX7_isDay_11 : decode cX7_isDay 11 = .ok (.iload_n 1, 1) := by decide +kernel
theorem dX7_isDay_12 : decode cX7_isDay 12 = .ok (.bipush 7, 2) := by decide +kernel
theorem dX7_isDay_14 : decode cX7_isDay 14 = .ok (.if_icmp .ge 7, 3) := by decide +kernel
theorem dX7_isDay_17 : decode cX7_isDay 17 = .ok (.iconst 1, 1) := by decide +kernel
theorem dX7_isDay_18 : decode cX7_isDay 18 = .ok (.goto 4, 3) := by decide +kernel
theorem dX7_isDay_21 : decode cX7_isDay 21 = .ok (.iconst 0, 1) := by decide +kernel
theorem dX7_isDay_22 : decode cX7_isDay 22 = .ok (.ireturn, 1) := by decide +kernel
theorem dX7_isHour_0 : decode cX7_isHour 0 = .ok (.aload_n 0, 1) := by decide +kernel
theorem dX7_isHour_1 : decode cX7_isHour 1 = .ok (.invokevirtual 121, 3) := by decide +kernel
theorem dX7_isHour_4 : decode cX7_isHour 4 = .ok (.ifCond .eq 17, 3) := by decide +kernel
theorem dX7_isHour_7 : decode cX7_isHour 7 = .ok (.iload_n 1, 1) := by decide +kernel
theorem dX7_isHour_8 : decode cX7_isHour 8 = .ok (.ifCond .lt 13, 3) := by decide +kernel
theorem dX7_isHour_11 : decode cX7_isHour 11 = .ok (.iload_n 1, 1) := by decide +kernel
theorem dX7_isHour_12 : decode cX7_isHour 12 = .ok (.bipush 24, 2) := by decide +kernel
theorem dX7_isHour_14 : decode cX7_isHour 14 = .ok (.if_icmp .ge 7, 3) := by decide +kernel
theorem dX7_isHour_17 : decode cX7_isHour 17 = .ok (.iconst 1, 1) := by decide +kernel
theorem dX7_isHour_18 : decode cX7_isHour 18 = .ok (.goto 4, 3) := by decide +kernel
theorem dX7_isHour_21 : decode cX7_isHour 21 = .ok (.iconst 0, 1) := by decide +kernel
theorem dX7_isHour_22 : decode cX7_isHour 22 = .ok (.ireturn, 1) := by decide +kernel
theorem dX7_isCell_0 : decode cX7_isCell 0 = .ok (.aload_n 0, 1) := by decide +kernel
theorem dX7_isCell_1 : decode cX7_isCell 1 = .ok (.iload_n 1, 1) := by decide +kernel
theorem dX7_isCell_2 : decode cX7_isCell 2 = .ok (.invokevirtual 167, 3) := by decide +kernel
theorem dX7_isCell_5 : decode cX7_isCell 5 = .ok (.ifCond .eq 23, 3) := by decide +kernel
theorem dX7_isCell_8 : decode cX7_isCell 8 = .ok (.aload_n 0, 1) := by decide +kernel
theorem dX7_isCell_9 : decode cX7_isCell 9 = .ok (.iload_n 2, 1) := by decide +kernel
theorem dX7_isCell_10 : decode cX7_isCell 10 = .ok (.invokevirtual 245, 3) := by decide +kernel
theorem dX7_isCell_13 : decode cX7_isCell 13 = .ok (.ifCond .eq 15, 3) := by decide +kernel
theorem dX7_isCell_16 : decode cX7_isCell 16 = .ok (.aload_n 0, 1) := by decide +kernel
theorem dX7_isCell_17 : decode cX7_isCell 17 = .ok (.iload_n 3, 1) := by decide +kernel
theorem dX7_isCell_18 : decode cX7_isCell 18 = .ok (.invokevirtual 195, 3) := by decide +kernel
theorem dX7_isCell_21 : decode cX7_isCell 21 = .ok (.ifCond .eq 7, 3) := by decide +kernel
theorem dX7_isCell_24 : decode cX7_isCell 24 = .ok (.iconst 1, 1) := by decide +kernel
theorem dX7_isCell_25 : decode cX7_isCell 25 = .ok (.goto 4, 3) := by decide +kernel
theorem dX7_isCell_28 : decode cX7_isCell 28 = .ok (.iconst 0, 1) := by decide +kernel
theorem dX7_isCell_29 : decode cX7_isCell 29 = .ok (.ireturn, 1) := by decide +kernel
theorem dX7_remember_0 : decode cX7_remember 0 = .ok (.aload_n 0, 1) := by decide +kernel
theorem dX7_remember_1 : decode cX7_remember 1 = .ok (.getfield 35, 3) := by decide +kernel
theorem dX7_remember_4 : decode cX7_remember 4 = .ok (.bipush 10, 2) := by decide +kernel
theorem dX7_remember_6 : decode cX7_remember 6 = .ok (.if_icmp .ne 56, 3) := by decide +kernel
theorem dX7_remember_9 : decode cX7_remember 9 = .ok (.aload_n 0, 1) := by decide +kernel
theorem dX7_remember_10 : decode cX7_remember 10 = .ok (.getfield 31, 3) := by decide +kernel
theorem dX7_remember_13 : decode cX7_remember 13 = .ok (.iconst 0, 1) := by decide +kernel
theorem dX7_remember_14 : decode cX7_remember 14 = .ok (.aaload, 1) := by decide +kernel
theorem dX7_remember_15 : decode cX7_remember 15 = .ok (.astore_n 1, 1) := by decide +kernel
theorem dX7_remember_16 : decode cX7_remember 16 = .ok (.iconst 1, 1) := by decide +kernel
theorem dX7_remember_17 : decode cX7_remember 17 = .ok (.istore_n 2, 1) := by decide +kernel
theorem dX7_remember_18 : decode cX7_remember 18 = .ok (.iload_n 2, 1) := by decide +kernel
theorem dX7_remember_19 : decode cX7_remember 19 = .ok (.bipush 10, 2) := by decide +kernel
theorem dX7_remember_21 : decode cX7_remember 21 = .ok (.if_icmp .ge 23, 3) := by decide +kernel
theorem dX7_remember_24 : decode cX7_remember 24 = .ok (.aload_n 0, 1) := by decide +kernel
theorem dX7_remember_25 : decode cX7_remember 25 = .ok (.getfield 31, 3) := by decide +kernel
theorem dX7_remember_28 : decode cX7_remember 28 = .ok (.iload_n 2, 1) := by decide +kernel
theorem dX7_remember_29 : decode cX7_remember 29 = .ok (.iconst 1, 1) := by decide +kernel
theorem dX7_remember_30 : decode cX7_remember 30 = .ok (.isub, 1) := by decide +kernel
theorem dX7_remember_31 : decode cX7_remember 31 = .ok (.aload_n 0, 1) := by decide +kernel
theorem dX7_remember_32 : decode cX7_remember 32 = .ok (.getfield 31, 3) := by decide +kernel
theorem dX7_remember_35 : decode cX7_remember 35 = .ok (.iload_n 2, 1) := by decide +kernel
theorem dX7_remember_36 : decode cX7_remember 36 = .ok (.aaload, 1) := by decide +kernel
theorem dX7_remember_37 : decode cX7_remember 37 = .ok (.aastore, 1) := by decide +kernel
theorem dX7_remember_38 : decode cX7_remember 38 = .ok (.iinc 2 1, 3) := by decide +kernel
theorem dX7_remember_41 : decode cX7_remember 41 = .ok (.goto (-23), 3) := by decide +kernel
theorem dX7_remember_44 : decode cX7_remember 44 = .ok (.aload_n 0, 1) := by decide +kernel
theorem dX7_remember_45 : decode cX7_remember 45 = .ok (.getfield 31, 3) := by decide +kernel
theorem dX7_remember_48 : decode cX7_remember 48 = .ok (.bipush 9, 2) := by decide +kernel
theorem dX7_remember_50 : decode cX7_remember 50 = .ok (.aload_n 1, 1) := by decide +kernel
theorem dX7_remember_51 : decode cX7_remember 51 = .ok (.aastore, 1) := by decide +kernel
theorem dX7_remember_52 : decode cX7_remember 52 = .ok (.aload_n 0, 1) := by decide +kernel
theorem dX7_remember_53 : decode cX7_remember 53 = .ok (.dup, 1) := by decide +kernel
theorem dX7_remember_54 : decode cX7_remember 54 = .ok (.getfield 35, 3) := by decide +kernel
theorem dX7_remember_57 : decode cX7_remember 57 = .ok (.iconst 1, 1) := by decide +kernel
theorem dX7_remember_58 : decode cX7_remember 58 = .ok (.isub, 1) := by decide +kernel
theorem dX7_remember_59 : decode cX7_remember 59 = .ok (.putfield 35, 3) := by decide +kernel
theorem dX7_remember_62 : decode cX7_remember 62 = .ok (.aload_n 0, 1) := by decide +kernel
theorem dX7_remember_63 : decode cX7_remember 63 = .ok (.getfield 31, 3) := by decide +kernel
theorem dX7_remember_66 : decode cX7_remember 66 = .ok (.aload_n 0, 1) := by decide +kernel
theorem dX7_remember_67 : decode cX7_remember 67 = .ok (.getfield 35, 3) := by decide +kernel
theorem dX7_remember_70 : decode cX7_remember 70 = .ok (.aaload, 1) := by decide +kernel
theorem dX7_remember_71 : decode cX7_remember 71 = .ok (.aload_n 0, 1) := by decide +kernel
theorem dX7_remember_72 : decode cX7_remember 72 = .ok (.getfield 20, 3) := by decide +kernel
theorem dX7_remember_75 : decode cX7_remember 75 = .ok (.invokevirtual 80, 3) := by decide +kernel
theorem dX7_remember_78 : decode cX7_remember 78 = .ok (.aload_n 0, 1) := by decide +kernel
theorem dX7_remember_79 : decode cX7_remember 79 = .ok (.dup, 1) := by decide +kernel
theorem dX7_remember_80 : decode cX7_remember 80 = .ok (.getfield 35, 3) := by decide +kernel
theorem dX7_remember_83 : decode cX7_remember 83 = .ok (.iconst 1, 1) := by decide +kernel
theorem dX7_remember_84 : decode cX7_remember 84 = .ok (.iadd, 1) := by decide +kernel
theorem dX7_remember_85 : decode cX7_remember 85 = .ok (.putfield 35, 3) := by decide +kernel
theorem dX7_remember_88 : decode cX7_remember 88 = .ok (.return_, 1) := by decide +kernel
theorem dX7_usesMore_0 : decode cX7_usesMore 0 = .ok (.aload_n 0, 1) := by decide +kernel
theorem dX7_usesMore_1 : decode cX7_usesMore 1 = .ok (.getfield 20, 3) := by decide +kernel
theorem dX7_usesMore_4 : decode cX7_usesMore 4 = .ok (.iload_n 1, 1) := by decide +kernel
theorem dX7_usesMore_5 : decode cX7_usesMore 5 = .ok (.iconst (-1), 1) := by decide +kernel
theorem dX7_usesMore_6 : decode cX7_usesMore 6 = .ok (.invokevirtual 263, 3) := by decide +kernel
theorem dX7_usesMore_9 : decode cX7_usesMore 9 = .ok (.istore_n 3, 1) := by decide +kernel
theorem dX7_usesMore_10 : decode cX7_usesMore 10 = .ok (.aload_n 0, 1) := by decide +kernel
theorem dX7_usesMore_11 : decode cX7_usesMore 11 = .ok (.getfield 20, 3) := by decide +kernel
theorem dX7_usesMore_14 : decode cX7_usesMore 14 = .ok (.iload_n 2, 1) := by decide +kernel
theorem dX7_usesMore_15 : decode cX7_usesMore 15 = .ok (.iconst (-1), 1) := by decide +kernel
theorem dX7_usesMore_16 : decode cX7_usesMore 16 = .ok (.invokevirtual 263, 3) := by decide +kernel
theorem dX7_usesMore_19 : decode cX7_usesMore 19 = .ok (.istore 4, 2) := by decide +kernel
theorem dX7_usesMore_21 : decode cX7_usesMore 21 = .ok (.iload_n 3, 1) := by decide +kernel
theorem dX7_usesMore_22 : decode cX7_usesMore 22 = .ok (.ifCond .eq 8, 3) := by decide +kernel
theorem dX7_usesMore_25 : decode cX7_usesMore 25 = .ok (.iload 4, 2) := by decide +kernel
theorem dX7_usesMore_27 : decode cX7_usesMore 27 = .ok (.ifCond .ne 32, 3) := by decide +kernel
theorem dX7_usesMore_30 : decode cX7_usesMore 30 = .ok (.iload_n 3, 1) := by decide +kernel
theorem dX7_usesMore_31 : decode cX7_usesMore 31 = .ok (.iload 4, 2) := by decide +kernel
theorem dX7_usesMore_33 : decode cX7_usesMore 33 = .ok (.if_icmp .ne 16, 3) := by decide +kernel
theorem dX7_usesMore_36 : decode cX7_usesMore 36 = .ok (.iload_n 1, 1) := by decide +kernel
theorem dX7_usesMore_37 : decode cX7_usesMore 37 = .ok (.iload_n 2, 1) := by decide +kernel
theorem dX7_usesMore_38 : decode cX7_usesMore 38 = .ok (.if_icmp .ge 7, 3) := by decide +kernel
theorem dX7_usesMore_41 : decode cX7_usesMore 41 = .ok (.iconst 1, 1) := by decide +kernel
theorem dX7_usesMore_42 : decode cX7_usesMore 42 = .ok (.goto 16, 3) := by decide +kernel
theorem dX7_usesMore_45 : decode cX7_usesMore 45 = .ok (.iconst 0, 1) := by decide +kernel
theorem dX7_usesMore_46 : decode cX7_usesMore 46 = .ok (.goto 12, 3) := by decide +kernel
theorem dX7_usesMore_49 : decode cX7_usesMore 49 = .ok (.iload_n 3, 1) := by decide +kernel
theorem dX7_usesMore_50 : decode cX7_usesMore 50 = .ok (.ifCond .le 7, 3) := by decide +kernel
theorem dX7_usesMore_53 : decode cX7_usesMore 53 = .ok (.iconst 1, 1) := by decide +kernel
theorem dX7_usesMore_54 : decode cX7_usesMore 54 = .ok (.goto 4, 3) := by decide +kernel
theorem dX7_usesMore_57 : decode cX7_usesMore 57 = .ok (.iconst 0, 1) := by decide +kernel
theorem dX7_usesMore_58 : decode cX7_usesMore 58 = .ok (.ireturn, 1) := by decide +kernel
theorem dX7_usesMore_59 : decode cX7_usesMore 59 = .ok (.aload_n 0, 1) := by decide +kernel
theorem dX7_usesMore_60 : decode cX7_usesMore 60 = .ok (.getfield 20, 3) := by decide +kernel
theorem dX7_usesMore_63 : decode cX7_usesMore 63 = .ok (.iload_n 1, 1) := by decide +kernel
theorem dX7_usesMore_64 : decode cX7_usesMore 64 = .ok (.invokevirtual 387, 3) := by decide +kernel
theorem dX7_usesMore_67 : decode cX7_usesMore 67 = .ok (.iload 4, 2) := by decide +kernel
theorem dX7_usesMore_69 : decode cX7_usesMore 69 = .ok (.imul, 1) := by decide +kernel
theorem dX7_usesMore_70 : decode cX7_usesMore 70 = .ok (.istore 5, 2) := by decide +kernel
theorem dX7_usesMore_72 : decode cX7_usesMore 72 = .ok (.aload_n 0, 1) := by decide +kernel
theorem dX7_usesMore_73 : decode cX7_usesMore 73 = .ok (.getfield 20, 3) := by decide +kernel
theorem dX7_usesMore_76 : decode cX7_usesMore 76 = .ok (.iload_n 2, 1) := by decide +kernel
theorem dX7_usesMore_77 : decode cX7_usesMore 77 = .ok (.invokevirtual 387, 3) := by decide +kernel
theorem dX7_usesMore_80 : decode cX7_usesMore 80 = .ok (.iload_n 3, 1) := by decide +kernel
theorem dX7_usesMore_81 : decode cX7_usesMore 81 = .ok (.imul, 1) := by decide +kernel
theorem dX7_usesMore_82 : decode cX7_usesMore 82 = .ok (.istore 6, 2) := by decide +kernel
theorem dX7_usesMore_84 : decode cX7_usesMore 84 = .ok (.iload 5, 2) := by decide +kernel
theorem dX7_usesMore_86 : decode cX7_usesMore 86 = .ok (.iload 6, 2) := by decide +kernel
theorem dX7_usesMore_88 : decode cX7_usesMore 88 = .ok (.if_icmp .ne 16, 3) := by decide +kernel
theorem dX7_usesMore_91 : decode cX7_usesMore 91 = .ok (.iload_n 1, 1) := by decide +kernel
theorem dX7_usesMore_92 : decode cX7_usesMore 92 = .ok (.iload_n 2, 1) := by decide +kernel
theorem dX7_usesMore_93 : decode cX7_usesMore 93 = .ok (.if_icmp .ge 7, 3) := by decide +kernel
theorem dX7_usesMore_96 : decode cX7_usesMore 96 = .ok (.iconst 1, 1) := by decide +kernel
theorem dX7_usesMore_97 : decode cX7_usesMore 97 = .ok (.goto 19, 3) := by decide +kernel
theorem dX7_usesMore_100 : decode cX7_usesMore 100 = .ok (.iconst 0, 1) := by decide +kernel
theorem dX7_usesMore_101 : decode cX7_usesMore 101 = .ok (.goto 15, 3) := by decide +kernel
theorem dX7_usesMore_104 : decode cX7_usesMore 104 = .ok (.iload 5, 2) := by decide +kernel
theorem dX7_usesMore_106 : decode cX7_usesMore 106 = .ok (.iload 6, 2) := by decide +kernel
theorem dX7_usesMore_108 : decode cX7_usesMore 108 = .ok (.if_icmp .le 7, 3) := by decide +kernel
theorem dX7_usesMore_111 : decode cX7_usesMore 111 = .ok (.iconst 1, 1) := by decide +kernel
theorem dX7_usesMore_112 : decode cX7_usesMore 112 = .ok (.goto 4, 3) := by decide +kernel
theorem dX7_usesMore_115 : decode cX7_usesMore 115 = .ok (.iconst 0, 1) := by decide +kernel
theorem dX7_usesMore_116 : decode cX7_usesMore 116 = .ok (.ireturn, 1) := by decide +kernel
theorem dX7_departuresBehind_0 : decode cX7_departuresBehind 0 = .ok (.iconst 0, 1) := by decide +kernel
theorem dX7_departuresBehind_1 : decode cX7_departuresBehind 1 = .ok (.istore_n 3, 1) := by decide +kernel
theorem dX7_departuresBehind_2 : decode cX7_departuresBehind 2 = .ok (.iconst 0, 1) := by decide +kernel
theorem dX7_departuresBehind_3 : decode cX7_departuresBehind 3 = .ok (.istore 4, 2) := by decide +kernel
theorem dX7_departuresBehind_5 : decode cX7_departuresBehind 5 = .ok (.iload 4, 2) := by decide +kernel
theorem dX7_departuresBehind_7 : decode cX7_departuresBehind 7 = .ok (.aload_n 0, 1) := by decide +kernel
theorem dX7_departuresBehind_8 : decode cX7_departuresBehind 8 = .ok (.getfield 20, 3) := by decide +kernel
theorem dX7_departuresBehind_11 : decode cX7_departuresBehind 11 = .ok (.getfield 97, 3) := by decide +kernel
theorem dX7_departuresBehind_14 : decode cX7_departuresBehind 14 = .ok (.if_icmp .ge 80, 3) := by decide +kernel
theorem dX7_departuresBehind_17 : decode cX7_departuresBehind 17 = .ok (.aload_n 0, 1) := by decide +kernel
theorem dX7_departuresBehind_18 : decode cX7_departuresBehind 18 = .ok (.getfield 20, 3) := by decide +kernel
theorem dX7_departuresBehind_21 : decode cX7_departuresBehind 21 = .ok (.getfield 135, 3) := by decide +kernel
theorem dX7_departuresBehind_24 : decode cX7_departuresBehind 24 = .ok (.iload 4, 2) := by decide +kernel
theorem dX7_departuresBehind_26 : decode cX7_departuresBehind 26 = .ok (.aaload, 1) := by decide +kernel
theorem dX7_departuresBehind_27 : decode cX7_departuresBehind 27 = .ok (.astore 5, 2) := by decide +kernel
theorem dX7_departuresBehind_29 : decode cX7_departuresBehind 29 = .ok (.aload 5, 2) := by decide +kernel
theorem dX7_departuresBehind_31 : decode cX7_departuresBehind 31 = .ok (.aload_n 1, 1) := by decide +kernel
theorem dX7_departuresBehind_32 : decode cX7_departuresBehind 32 = .ok (.getfield 139, 3) := by decide +kernel
theorem dX7_departuresBehind_35 : decode cX7_departuresBehind 35 = .ok (.aload_n 1, 1) := by decide +kernel
theorem dX7_departuresBehind_36 : decode cX7_departuresBehind 36 = .ok (.getfield 144, 3) := by decide +kernel
theorem dX7_departuresBehind_39 : decode cX7_departuresBehind 39 = .ok (.invokevirtual 248, 3) := by decide +kernel
theorem dX7_departuresBehind_42 : decode cX7_departuresBehind 42 = .ok (.ifCond .eq 46, 3) := by decide +kernel
theorem dX7_departuresBehind_45 : decode cX7_departuresBehind 45 = .ok (.aload 5, 2) := by decide +kernel
theorem dX7_departuresBehind_47 : decode cX7_departuresBehind 47 = .ok (.getfield 150, 3) := by decide +kernel
theorem dX7_departuresBehind_50 : decode cX7_departuresBehind 50 = .ok (.iconst 1, 1) := by decide +kernel
theorem dX7_departuresBehind_51 : decode cX7_departuresBehind 51 = .ok (.if_icmp .ne 37, 3) := by decide +kernel
theorem dX7_departuresBehind_54 : decode cX7_departuresBehind 54 = .ok (.aload 5, 2) := by decide +kernel
theorem dX7_departuresBehind_56 : decode cX7_departuresBehind 56 = .ok (.getfield 147, 3) := by decide +kernel
theorem dX7_departuresBehind_59 : decode cX7_departuresBehind 59 = .ok (.aload_n 1, 1) := by decide +kernel
theorem dX7_departuresBehind_60 : decode cX7_departuresBehind 60 = .ok (.getfield 147, 3) := by decide +kernel
theorem dX7_departuresBehind_63 : decode cX7_departuresBehind 63 = .ok (.isub, 1) := by decide +kernel
theorem dX7_departuresBehind_64 : decode cX7_departuresBehind 64 = .ok (.iconst 0, 1) := by decide +kernel
theorem dX7_departuresBehind_65 : decode cX7_departuresBehind 65 = .ok (.iload_n 2, 1) := by decide +kernel
theorem dX7_departuresBehind_66 : decode cX7_departuresBehind 66 = .ok (.invokestatic 113, 3) := by decide +kernel
theorem dX7_departuresBehind_69 : decode cX7_departuresBehind 69 = .ok (.ifCond .eq 19, 3) := by decide +kernel
theorem dX7_departuresBehind_72 : decode cX7_departuresBehind 72 = .ok (.aload 5, 2) := by decide +kernel
theorem dX7_departuresBehind_74 : decode cX7_departuresBehind 74 = .ok (.invokevirtual 272, 3) := by decide +kernel
theorem dX7_departuresBehind_77 : decode cX7_departuresBehind 77 = .ok (.aload_n 1, 1) := by decide +kernel
theorem dX7_departuresBehind_78 : decode cX7_departuresBehind 78 = .ok (.invokevirtual 272, 3) := by decide +kernel
theorem dX7_departuresBehind_81 : decode cX7_departuresBehind 81 = .ok (.iand, 1) := by decide +kernel
theorem dX7_departuresBehind_82 : decode cX7_departuresBehind 82 = .ok (.ifCond .eq 6, 3) := by decide +kernel
theorem dX7_departuresBehind_85 : decode cX7_departuresBehind 85 = .ok (.iinc 3 1, 3) := by decide +kernel
theorem dX7_departuresBehind_88 : decode cX7_departuresBehind 88 = .ok (.iinc 4 1, 3) := by decide +kernel
theorem dX7_departuresBehind_91 : decode cX7_departuresBehind 91 = .ok (.goto (-86), 3) := by decide +kernel
theorem dX7_departuresBehind_94 : decode cX7_departuresBehind 94 = .ok (.iload_n 3, 1) := by decide +kernel
theorem dX7_departuresBehind_95 : decode cX7_departuresBehind 95 = .ok (.ireturn, 1) := by decide +kernel
theorem dX7_canRetime_0 : decode cX7_canRetime 0 = .ok (.aload_n 0, 1) := by decide +kernel
theorem dX7_canRetime_1 : decode cX7_canRetime 1 = .ok (.getfield 20, 3) := by decide +kernel
theorem dX7_canRetime_4 : decode cX7_canRetime 4 = .ok (.getfield 135, 3) := by decide +kernel
theorem dX7_canRetime_7 : decode cX7_canRetime 7 = .ok (.iload_n 1, 1) := by decide +kernel
theorem dX7_canRetime_8 : decode cX7_canRetime 8 = .ok (.aaload, 1) := by decide +kernel
theorem dX7_canRetime_9 : decode cX7_canRetime 9 = .ok (.astore_n 3, 1) := by decide +kernel
theorem dX7_canRetime_10 : decode cX7_canRetime 10 = .ok (.aload_n 0, 1) := by decide +kernel
theorem dX7_canRetime_11 : decode cX7_canRetime 11 = .ok (.getfield 20, 3) := by decide +kernel
theorem dX7_canRetime_14 : decode cX7_canRetime 14 = .ok (.invokevirtual 279, 3) := by decide +kernel
theorem dX7_canRetime_17 : decode cX7_canRetime 17 = .ok (.ifCond .ne 41, 3) := by decide +kernel
theorem dX7_canRetime_20 : decode cX7_canRetime 20 = .ok (.aload_n 3, 1) := by decide +kernel
theorem dX7_canRetime_21 : decode cX7_canRetime 21 = .ok (.getfield 147, 3) := by decide +kernel
theorem dX7_canRetime_24 : decode cX7_canRetime 24 = .ok (.iload_n 2, 1) := by decide +kernel
theorem dX7_canRetime_25 : decode cX7_canRetime 25 = .ok (.if_icmp .eq 33, 3) := by decide +kernel
theorem dX7_canRetime_28 : decode cX7_canRetime 28 = .ok (.aload_n 0, 1) := by decide +kernel
theorem dX7_canRetime_29 : decode cX7_canRetime 29 = .ok (.getfield 20, 3) := by decide +kernel
theorem dX7_canRetime_32 : decode cX7_canRetime 32 = .ok (.aload_n 3, 1) := by decide +kernel
theorem dX7_canRetime_33 : decode cX7_canRetime 33 = .ok (.getfield 144, 3) := by decide +kernel
theorem dX7_canRetime_36 : decode cX7_canRetime 36 = .ok (.iload_n 2, 1) := by decide +kernel
theorem dX7_canRetime_37 : decode cX7_canRetime 37 = .ok (.aload_n 3, 1) := by decide +kernel
theorem dX7_canRetime_38 : decode cX7_canRetime 38 = .ok (.getfield 150, 3) := by decide +kernel
theorem dX7_canRetime_41 : decode cX7_canRetime 41 = .ok (.aload_n 3, 1) := by decide +kernel
theorem dX7_canRetime_42 : decode cX7_canRetime 42 = .ok (.invokevirtual 272, 3) := by decide +kernel
theorem dX7_canRetime_45 : decode cX7_canRetime 45 = .ok (.iconst 1, 1) := by decide +kernel
theorem dX7_canRetime_46 : decode cX7_canRetime 46 = .ok (.iload_n 1, 1) := by decide +kernel
theorem dX7_canRetime_47 : decode cX7_canRetime 47 = .ok (.ishl, 1) := by decide +kernel
theorem dX7_canRetime_48 : decode cX7_canRetime 48 = .ok (.invokevirtual 295, 3) := by decide +kernel
theorem dX7_canRetime_51 : decode cX7_canRetime 51 = .ok (.ifCond .eq 7, 3) := by decide +kernel
theorem dX7_canRetime_54 : decode cX7_canRetime 54 = .ok (.iconst 1, 1) := by decide +kernel
theorem dX7_canRetime_55 : decode cX7_canRetime 55 = .ok (.goto 4, 3) := by decide +kernel
theorem dX7_canRetime_58 : decode cX7_canRetime 58 = .ok (.iconst 0, 1) := by decide +kernel
theorem dX7_canRetime_59 : decode cX7_canRetime 59 = .ok (.ireturn, 1) := by decide +kernel
theorem dX7_whySwapFails_0 : decode cX7_whySwapFails 0 = .ok (.aload_n 0, 1) := by decide +kernel
theorem dX7_whySwapFails_1 : decode cX7_whySwapFails 1 = .ok (.getfield 20, 3) := by decide +kernel
theorem dX7_whySwapFails_4 : decode cX7_whySwapFails 4 = .ok (.getfield 135, 3) := by decide +kernel
theorem dX7_whySwapFails_7 : decode cX7_whySwapFails 7 = .ok (.iload_n 1, 1) := by decide +kernel
theorem dX7_whySwapFails_8 : decode cX7_whySwapFails 8 = .ok (.aaload, 1) := by decide +kernel
theorem dX7_whySwapFails_9 : decode cX7_whySwapFails 9 = .ok (.astore_n 3, 1) := by decide +kernel
theorem dX7_whySwapFails_10 : decode cX7_whySwapFails 10 = .ok (.aload_n 0, 1) := by decide +kernel
theorem dX7_whySwapFails_11 : decode cX7_whySwapFails 11 = .ok (.getfield 20, 3) := by decide +kernel
theorem dX7_whySwapFails_14 : decode cX7_whySwapFails 14 = .ok (.getfield 135, 3) := by decide +kernel
theorem dX7_whySwapFails_17 : decode cX7_whySwapFails 17 = .ok (.iload_n 2, 1) := by decide +kernel
theorem dX7_whySwapFails_18 : decode cX7_whySwapFails 18 = .ok (.aaload, 1) := by decide +kernel
theorem dX7_whySwapFails_19 : decode cX7_whySwapFails 19 = .ok (.astore 4, 2) := by decide +kernel
theorem dX7_whySwapFails_21 : decode cX7_whySwapFails 21 = .ok (.aload_n 3, 1) := by decide +kernel
theorem dX7_whySwapFails_22 : decode cX7_whySwapFails 22 = .ok (.getfield 153, 3) := by decide +kernel
theorem dX7_whySwapFails_25 : decode cX7_whySwapFails 25 = .ok (.ifCond .ne 11, 3) := by decide +kernel
theorem dX7_whySwapFails_28 : decode cX7_whySwapFails 28 = .ok (.aload 4, 2) := by decide +kernel
theorem dX7_whySwapFails_30 : decode cX7_whySwapFails 30 = .ok (.getfield 153, 3) := by decide +kernel
theorem dX7_whySwapFails_33 : decode cX7_whySwapFails 33 = .ok (.ifCond .eq 6, 3) := by decide +kernel
theorem dX7_whySwapFails_36 : decode cX7_whySwapFails 36 = .ok (.bipush (-5), 2) := by decide +kernel
theorem dX7_whySwapFails_38 : decode cX7_whySwapFails 38 = .ok (.ireturn, 1) := by decide +kernel
theorem dX7_whySwapFails_39 : decode cX7_whySwapFails 39 = .ok (.aload_n 3, 1) := by decide +kernel
theorem dX7_whySwapFails_40 : decode cX7_whySwapFails 40 = .ok (.getfield 139, 3) := by decide +kernel
theorem dX7_whySwapFails_43 : decode cX7_whySwapFails 43 = .ok (.aload 4, 2) := by decide +kernel
theorem dX7_whySwapFails_45 : decode cX7_whySwapFails 45 = .ok (.getfield 139, 3) := by decide +kernel
theorem dX7_whySwapFails_48 : decode cX7_whySwapFails 48 = .ok (.if_icmp .ne 6, 3) := by decide +kernel
theorem dX7_whySwapFails_51 : decode cX7_whySwapFails 51 = .ok (.bipush (-6), 2) := by decide +kernel
theorem dX7_whySwapFails_53 : decode cX7_whySwapFails 53 = .ok (.ireturn, 1) := by decide +kernel
theorem dX7_whySwapFails_54 : decode cX7_whySwapFails 54 = .ok (.aload_n 3, 1) := by decide +kernel
theorem dX7_whySwapFails_55 : decode cX7_whySwapFails 55 = .ok (.aload 4, 2) := by decide +kernel
theorem dX7_whySwapFails_57 : decode cX7_whySwapFails 57 = .ok (.invokevirtual 354, 3) := by decide +kernel
theorem dX7_whySwapFails_60 : decode cX7_whySwapFails 60 = .ok (.aload_n 0, 1) := by decide +kernel
theorem dX7_whySwapFails_61 : decode cX7_whySwapFails 61 = .ok (.getfield 20, 3) := by decide +kernel
theorem dX7_whySwapFails_64 : decode cX7_whySwapFails 64 = .ok (.aload_n 3, 1) := by decide +kernel
theorem dX7_whySwapFails_65 : decode cX7_whySwapFails 65 = .ok (.getfield 144, 3) := by decide +kernel
theorem dX7_whySwapFails_68 : decode cX7_whySwapFails 68 = .ok (.aload_n 3, 1) := by decide +kernel
theorem dX7_whySwapFails_69 : decode cX7_whySwapFails 69 = .ok (.getfield 147, 3) := by decide +kernel
theorem dX7_whySwapFails_72 : decode cX7_whySwapFails 72 = .ok (.aload_n 3, 1) := by decide +kernel
theorem dX7_whySwapFails_73 : decode cX7_whySwapFails 73 = .ok (.getfield 150, 3) := by decide +kernel
theorem dX7_whySwapFails_76 : decode cX7_whySwapFails 76 = .ok (.aload_n 3, 1) := by decide +kernel
theorem dX7_whySwapFails_77 : decode cX7_whySwapFails 77 = .ok (.invokevirtual 272, 3) := by decide +kernel
theorem dX7_whySwapFails_80 : decode cX7_whySwapFails 80 = .ok (.iconst 1, 1) := by decide +kernel
theorem dX7_whySwapFails_81 : decode cX7_whySwapFails 81 = .ok (.iload_n 1, 1) := by decide +kernel
theorem dX7_whySwapFails_82 : decode cX7_whySwapFails 82 = .ok (.ishl, 1) := by decide +kernel
theorem dX7_whySwapFails_83 : decode cX7_whySwapFails 83 = .ok (.iconst 1, 1) := by decide +kernel
theorem dX7_whySwapFails_84 : decode cX7_whySwapFails 84 = .ok (.iload_n 2, 1) := by decide +kernel
theorem dX7_whySwapFails_85 : decode cX7_whySwapFails 85 = .ok (.ishl, 1) := by decide +kernel
theorem dX7_whySwapFails_86 : decode cX7_whySwapFails 86 = .ok (.ior, 1) := by decide +kernel
theorem dX7_whySwapFails_87 : decode cX7_whySwapFails 87 = .ok (.invokevirtual 295, 3) := by decide +kernel
theorem dX7_whySwapFails_90 : decode cX7_whySwapFails 90 = .ok (.ifCond .eq 40, 3) := by decide +kernel
theorem dX7_whySwapFails_93 : decode cX7_whySwapFails 93 = .ok (.aload_n 0, 1) := by decide +kernel
theorem dX7_whySwapFails_94 : decode cX7_whySwapFails 94 = .ok (.getfield 20, 3) := by decide +kernel
theorem dX7_whySwapFails_97 : decode cX7_whySwapFails 97 = .ok (.aload 4, 2) := by decide +kernel
theorem dX7_whySwapFails_99 : decode cX7_whySwapFails 99 = .ok (.getfield 144, 3) := by decide +kernel
theorem dX7_whySwapFails_102 : decode cX7_whySwapFails 102 = .ok (.aload 4, 2) := by decide +kernel
theorem dX7_whySwapFails_104 : decode cX7_whySwapFails 104 = .ok (.getfield 147, 3) := by decide +kernel
theorem dX7_whySwapFails_107 : decode cX7_whySwapFails 107 = .ok (.aload 4, 2) := by decide +kernel
theorem dX7_whySwapFails_109 : decode cX7_whySwapFails 109 = .ok (.getfield 150, 3) := by decide +kernel
theorem dX7_whySwapFails_112 : decode cX7_whySwapFails 112 = .ok (.aload 4, 2) := by decide +kernel
theorem dX7_whySwapFails_114 : decode cX7_whySwapFails 114 = .ok (.invokevirtual 272, 3) := by decide +kernel
theorem dX7_whySwapFails_117 : decode cX7_whySwapFails 117 = .ok (.iconst 1, 1) := by decide +kernel
theorem dX7_whySwapFails_118 : decode cX7_whySwapFails 118 = .ok (.iload_n 2, 1) := by decide +kernel
theorem dX7_whySwapFails_119 : decode cX7_whySwapFails 119 = .ok (.ishl, 1) := by decide +kernel
theorem dX7_whySwapFails_120 : decode cX7_whySwapFails 120 = .ok (.invokevirtual 295, 3) := by decide +kernel
theorem dX7_whySwapFails_123 : decode cX7_whySwapFails 123 = .ok (.ifCond .eq 7, 3) := by decide +kernel
theorem dX7_whySwapFails_126 : decode cX7_whySwapFails 126 = .ok (.iconst 1, 1) := by decide +kernel
theorem dX7_whySwapFails_127 : decode cX7_whySwapFails 127 = .ok (.goto 4, 3) := by decide +kernel
theorem dX7_whySwapFails_130 : decode cX7_whySwapFails 130 = .ok (.iconst 0, 1) := by decide +kernel
theorem dX7_whySwapFails_131 : decode cX7_whySwapFails 131 = .ok (.istore 5, 2) := by decide +kernel
theorem dX7_whySwapFails_133 : decode cX7_whySwapFails 133 = .ok (.aload_n 3, 1) := by decide +kernel
theorem dX7_whySwapFails_134 : decode cX7_whySwapFails 134 = .ok (.aload 4, 2) := by decide +kernel
theorem dX7_whySwapFails_136 : decode cX7_whySwapFails 136 = .ok (.invokevirtual 354, 3) := by decide +kernel
theorem dX7_whySwapFails_139 : decode cX7_whySwapFails 139 = .ok (.iload 5, 2) := by decide +kernel
theorem dX7_whySwapFails_141 : decode cX7_whySwapFails 141 = .ok (.ifCond .eq 7, 3) := by decide +kernel
theorem dX7_whySwapFails_144 : decode cX7_whySwapFails 144 = .ok (.iconst 0, 1) := by decide +kernel
theorem dX7_whySwapFails_145 : decode cX7_whySwapFails 145 = .ok (.goto 5, 3) := by decide +kernel
theorem dX7_whySwapFails_148 : decode cX7_whySwapFails 148 = .ok (.bipush (-6), 2) := by decide +kernel
theorem dX7_whySwapFails_150 : decode cX7_whySwapFails 150 = .ok (.ireturn, 1) := by decide +kernel
theorem dX7_isWithin_0 : decode cX7_isWithin 0 = .ok (.iload_n 0, 1) := by decide +kernel
theorem dX7_isWithin_1 : decode cX7_isWithin 1 = .ok (.iload_n 1, 1) := by decide +kernel
theorem dX7_isWithin_2 : decode cX7_isWithin 2 = .ok (.if_icmp .lt 12, 3) := by decide +kernel
theorem dX7_isWithin_5 : decode cX7_isWithin 5 = .ok (.iload_n 0, 1) := by decide +kernel
theorem dX7_isWithin_6 : decode cX7_isWithin 6 = .ok (.iload_n 2, 1) := by decide +kernel
theorem dX7_isWithin_7 : decode cX7_isWithin 7 = .ok (.if_icmp .gt 7, 3) := by decide +kernel
theorem dX7_isWithin_10 : decode cX7_isWithin 10 = .ok (.iconst 1, 1) := by decide +kernel
theorem dX7_isWithin_11 : decode cX7_isWithin 11 = .ok (.goto 4, 3) := by decide +kernel
theorem dX7_isWithin_14 : decode cX7_isWithin 14 = .ok (.iconst 0, 1) := by decide +kernel
theorem dX7_isWithin_15 : decode cX7_isWithin 15 = .ok (.ireturn, 1) := by decide +kernel
theorem dX7_isWay_0 : decode cX7_isWay 0 = .ok (.iload_n 0, 1) := by decide +kernel
theorem dX7_isWay_1 : decode cX7_isWay 1 = .ok (.ifCond .eq 8, 3) := by decide +kernel
theorem dX7_isWay_4 : decode cX7_isWay 4 = .ok (.iload_n 0, 1) := by decide +kernel
theorem dX7_isWay_5 : decode cX7_isWay 5 = .ok (.iconst 1, 1) := by decide +kernel
theorem dX7_isWay_6 : decode cX7_isWay 6 = .ok (.if_icmp .ne 7, 3) := by decide +kernel
theorem dX7_isWay_9 : decode cX7_isWay 9 = .ok (.iconst 1, 1) := by decide +kernel
theorem dX7_isWay_10 : decode cX7_isWay 10 = .ok (.goto 4, 3) := by decide +kernel
theorem dX7_isWay_13 : decode cX7_isWay 13 = .ok (.iconst 0, 1) := by decide +kernel
theorem dX7_isWay_14 : decode cX7_isWay 14 = .ok (.ireturn, 1) := by decide +kernel
theorem dX7_isState_0 : decode cX7_isState 0 = .ok (.iload_n 0, 1) := by decide +kernel
theorem dX7_isState_1 : decode cX7_isState 1 = .ok (.ifCond .lt 12, 3) := by decide +kernel
theorem dX7_isState_4 : decode cX7_isState 4 = .ok (.iload_n 0, 1) := by decide +kernel
theorem dX7_isState_5 : decode cX7_isState 5 = .ok (.iconst 4, 1) := by decide +kernel
theorem dX7_isState_6 : decode cX7_isState 6 = .ok (.if_icmp .gt 7, 3) := by decide +kernel
theorem dX7_isState_9 : decode cX7_isState 9 = .ok (.iconst 1, 1) := by decide +kernel
theorem dX7_isState_10 : decode cX7_isState 10 = .ok (.goto 4, 3) := by decide +kernel
theorem dX7_isState_13 : decode cX7_isState 13 = .ok (.iconst 0, 1) := by decide +kernel
theorem dX7_isState_14 : decode cX7_isState 14 = .ok (.ireturn, 1) := by decide +kernel
theorem dX7_isLetter_0 : decode cX7_isLetter 0 = .ok (.iload_n 0, 1) := by decide +kernel
theorem dX7_isLetter_1 : decode cX7_isLetter 1 = .ok (.bipush 97, 2) := by decide +kernel
theorem dX7_isLetter_3 : decode cX7_isLetter 3 = .ok (.if_icmp .lt 13, 3) := by decide +kernel
theorem dX7_isLetter_6 : decode cX7_isLetter 6 = .ok (.iload_n 0, 1) := by decide +kernel
theorem dX7_isLetter_7 : decode cX7_isLetter 7 = .ok (.bipush 122, 2) := by decide +kernel
theorem dX7_isLetter_9 : decode cX7_isLetter 9 = .ok (.if_icmp .gt 7, 3) := by decide +kernel
theorem dX7_isLetter_12 : decode cX7_isLetter 12 = .ok (.iconst 1, 1) := by decide +kernel
theorem dX7_isLetter_13 : decode cX7_isLetter 13 = .ok (.goto 4, 3) := by decide +kernel
theorem dX7_isLetter_16 : decode cX7_isLetter 16 = .ok (.iconst 0, 1) := by decide +kernel
theorem dX7_isLetter_17 : decode cX7_isLetter 17 = .ok (.ireturn, 1) := by decide +kernel
theorem dX7_isDigit_0 : decode cX7_isDigit 0 = .ok (.iload_n 0, 1) := by decide +kernel
theorem dX7_isDigit_1 : decode cX7_isDigit 1 = .ok (.bipush 48, 2) := by decide +kernel
theorem dX7_isDigit_3 : decode cX7_isDigit 3 = .ok (.if_icmp .lt 13, 3) := by decide +kernel
theorem dX7_isDigit_6 : decode cX7_isDigit 6 = .ok (.iload_n 0, 1) := by decide +kernel
theorem dX7_isDigit_7 : decode cX7_isDigit 7 = .ok (.bipush 57, 2) := by decide +kernel
theorem dX7_isDigit_9 : decode cX7_isDigit 9 = .ok (.if_icmp .gt 7, 3) := by decide +kernel
theorem dX7_isDigit_12 : decode cX7_isDigit 12 = .ok (.iconst 1, 1) := by decide +kernel
theorem dX7_isDigit_13 : decode cX7_isDigit 13 = .ok (.goto 4, 3) := by decide +kernel
theorem dX7_isDigit_16 : decode cX7_isDigit 16 = .ok (.iconst 0, 1) := by decide +kernel
theorem dX7_isDigit_17 : decode cX7_isDigit 17 = .ok (.ireturn, 1) := by decide +kernel
theorem dX7_hasBit_0 : decode cX7_hasBit 0 = .ok (.iload_n 0, 1) := by decide +kernel
theorem dX7_hasBit_1 : decode cX7_hasBit 1 = .ok (.iload_n 1, 1) := by decide +kernel
theorem dX7_hasBit_2 : decode cX7_hasBit 2 = .ok (.iushr, 1) := by decide +kernel
theorem dX7_hasBit_3 : decode cX7_hasBit 3 = .ok (.iconst 1, 1) := by decide +kernel
theorem dX7_hasBit_4 : decode cX7_hasBit 4 = .ok (.iand, 1) := by decide +kernel
theorem dX7_hasBit_5 : decode cX7_hasBit 5 = .ok (.ifCond .eq 7, 3) := by decide +kernel
theorem dX7_hasBit_8 : decode cX7_hasBit 8 = .ok (.iconst 1, 1) := by decide +kernel
theorem dX7_hasBit_9 : decode cX7_hasBit 9 = .ok (.goto 4, 3) := by decide +kernel
theorem dX7_hasBit_12 : decode cX7_hasBit 12 = .ok (.iconst 0, 1) := by decide +kernel
theorem dX7_hasBit_13 : decode cX7_hasBit 13 = .ok (.ireturn, 1) := by decide +kernel
theorem dX7_spanBits_0 : decode cX7_spanBits 0 = .ok (.iconst 1, 1) := by decide +kernel
theorem dX7_spanBits_1 : decode cX7_spanBits 1 = .ok (.iload_n 1, 1) := by decide +kernel
theorem dX7_spanBits_2 : decode cX7_spanBits 2 = .ok (.iload_n 0, 1) := by decide +kernel
theorem dX7_spanBits_3 : decode cX7_spanBits 3 = .ok (.isub, 1) := by decide +kernel
theorem dX7_spanBits_4 : decode cX7_spanBits 4 = .ok (.iconst 1, 1) := by decide +kernel
theorem dX7_spanBits_5 : decode cX7_spanBits 5 = .ok (.iadd, 1) := by decide +kernel
theorem dX7_spanBits_6 : decode cX7_spanBits 6 = .ok (.ishl, 1) := by decide +kernel
theorem dX7_spanBits_7 : decode cX7_spanBits 7 = .ok (.iconst 1, 1) := by decide +kernel
theorem dX7_spanBits_8 : decode cX7_spanBits 8 = .ok (.isub, 1) := by decide +kernel
theorem dX7_spanBits_9 : decode cX7_spanBits 9 = .ok (.iload_n 0, 1) := by decide +kernel
theorem dX7_spanBits_10 : decode cX7_spanBits 10 = .ok (.ishl, 1) := by decide +kernel
theorem dX7_spanBits_11 : decode cX7_spanBits 11 = .ok (.ireturn, 1) := by decide +kernel
theorem dX7_bitsFrom_0 : decode cX7_bitsFrom 0 = .ok (.iload_n 0, 1) := by decide +kernel
theorem dX7_bitsFrom_1 : decode cX7_bitsFrom 1 = .ok (.bipush 30, 2) := by decide +kernel
theorem dX7_bitsFrom_3 : decode cX7_bitsFrom 3 = .ok (.if_icmp .le 7, 3) := by decide +kernel
theorem dX7_bitsFrom_6 : decode cX7_bitsFrom 6 = .ok (.iconst 0, 1) := by decide +kernel
theorem dX7_bitsFrom_7 : decode cX7_bitsFrom 7 = .ok (.goto 6, 3) := by decide +kernel
theorem dX7_bitsFrom_10 : decode cX7_bitsFrom 10 = .ok (.iconst (-1), 1) := by decide +kernel
theorem dX7_bitsFrom_11 : decode cX7_bitsFrom 11 = .ok (.iload_n 0, 1) := by decide +kernel
theorem dX7_bitsFrom_12 : decode cX7_bitsFrom 12 = .ok (.ishl, 1) := by decide +kernel
theorem dX7_bitsFrom_13 : decode cX7_bitsFrom 13 = .ok (.ireturn, 1) := by decide +kernel
theorem dX8_init_0 : decode cX8_init 0 = .ok (.aload_n 0, 1) := by decide +kernel
theorem dX8_init_1 : decode cX8_init 1 = .ok (.invokespecial 1, 3) := by decide +kernel
theorem dX8_init_4 : decode cX8_init 4 = .ok (.aload_n 0, 1) := by decide +kernel
theorem dX8_init_5 : decode cX8_init 5 = .ok (.sipush 518, 3) := by decide +kernel
theorem dX8_init_8 : decode cX8_init 8 = .ok (.newarray .int, 2) := by decide +kernel
theorem dX8_init_10 : decode cX8_init 10 = .ok (.putfield 9, 3) := by decide +kernel
theorem dX8_init_13 : decode cX8_init 13 = .ok (.aload_n 0, 1) := by decide +kernel
theorem dX8_init_14 : decode cX8_init 14 = .ok (.sipush 518, 3) := by decide +kernel
theorem dX8_init_17 : decode cX8_init 17 = .ok (.newarray .int, 2) := by decide +kernel
theorem dX8_init_19 : decode cX8_init 19 = .ok (.putfield 13, 3) := by decide +kernel
theorem dX8_init_22 : decode cX8_init 22 = .ok (.aload_n 0, 1) := by decide +kernel
theorem dX8_init_23 : decode cX8_init 23 = .ok (.aload_n 0, 1) := by decide +kernel
theorem dX8_init_24 : decode cX8_init 24 = .ok (.getfield 9, 3) := by decide +kernel
theorem dX8_init_27 : decode cX8_init 27 = .ok (.putfield 16, 3) := by decide +kernel
theorem dX8_init_30 : decode cX8_init 30 = .ok (.aload_n 0, 1) := by decide +kernel
theorem dX8_init_31 : decode cX8_init 31 = .ok (.sipush 1200, 3) := by decide +kernel
theorem dX8_init_34 : decode cX8_init 34 = .ok (.newarray .byte, 2) := by decide +kernel
theorem dX8_init_36 : decode cX8_init 36 = .ok (.putfield 19, 3) := by decide +kernel
theorem dX8_init_39 : decode cX8_init 39 = .ok (.aload_n 0, 1) := by decide +kernel
theorem dX8_init_40 : decode cX8_init 40 = .ok (.iconst (-1), 1) := by decide +kernel
theorem dX8_init_41 : decode cX8_init 41 = .ok (.putfield 23, 3) := by decide +kernel
theorem dX8_init_44 : decode cX8_init 44 = .ok (.aload_n 0, 1) := by decide +kernel
theorem dX8_init_45 : decode cX8_init 45 = .ok (.bipush 7, 2) := by decide +kernel
theorem dX8_init_47 : decode cX8_init 47 = .ok (.newarray .int, 2) := by decide +kernel
theorem dX8_init_49 : decode cX8_init 49 = .ok (.putfield 27, 3) := by decide +kernel
theorem dX8_init_52 : decode cX8_init 52 = .ok (.aload_n 0, 1) := by decide +kernel
theorem dX8_init_53 : decode cX8_init 53 = .ok (.bipush 24, 2) := by decide +kernel
theorem dX8_init_55 : decode cX8_init 55 = .ok (.newarray .int, 2) := by decide +kernel
theorem dX8_init_57 : decode cX8_init 57 = .ok (.putfield 30, 3) := by decide +kernel
theorem dX8_init_60 : decode cX8_init 60 = .ok (.aload_n 0, 1) := by decide +kernel
theorem dX8_init_61 : decode cX8_init 61 = .ok (.bipush 24, 2) := by decide +kernel
theorem dX8_init_63 : decode cX8_init 63 = .ok (.newarray .int, 2) := by decide +kernel
theorem dX8_init_65 : decode cX8_init 65 = .ok (.putfield 33, 3) := by decide +kernel
theorem dX8_init_68 : decode cX8_init 68 = .ok (.aload_n 0, 1) := by decide +kernel
theorem dX8_init_69 : decode cX8_init 69 = .ok (.sipush 5180, 3) := by decide +kernel
theorem dX8_init_72 : decode cX8_init 72 = .ok (.newarray .int, 2) := by decide +kernel
theorem dX8_init_74 : decode cX8_init 74 = .ok (.putfield 36, 3) := by decide +kernel
theorem dX8_init_77 : decode cX8_init 77 = .ok (.aload_n 0, 1) := by decide +kernel
theorem dX8_init_78 : decode cX8_init 78 = .ok (.sipush 3000, 3) := by decide +kernel
theorem dX8_init_81 : decode cX8_init 81 = .ok (.newarray .byte, 2) := by decide +kernel
theorem dX8_init_83 : decode cX8_init 83 = .ok (.putfield 39, 3) := by decide +kernel
theorem dX8_init_86 : decode cX8_init 86 = .ok (.return_, 1) := by decide +kernel
theorem dX8_in_0 : decode cX8_in 0 = .ok (.lload_n 0, 1) := by decide +kernel
theorem dX8_in_1 : decode cX8_in 1 = .ok (.lload_n 2, 1) := by decide +kernel
theorem dX8_in_2 : decode cX8_in 2 = .ok (.lcmp, 1) := by decide +kernel
theorem dX8_in_3 : decode cX8_in 3 = .ok (.ifCond .lt 14, 3) := by decide +kernel
theorem dX8_in_6 : decode cX8_in 6 = .ok (.lload_n 0, 1) := by decide +kernel
theorem dX8_in_7 : decode cX8_in 7 = .ok (.lload 4, 2) := by decide +kernel
theorem dX8_in_9 : decode cX8_in 9 = .ok (.lcmp, 1) := by decide +kernel
theorem dX8_in_10 : decode cX8_in 10 = .ok (.ifCond .gt 7, 3) := by decide +kernel
theorem dX8_in_13 : decode cX8_in 13 = .ok (.iconst 1, 1) := by decide +kernel
theorem dX8_in_14 : decode cX8_in 14 = .ok (.goto 4, 3) := by decide +kernel
theorem dX8_in_17 : decode cX8_in 17 = .ok (.iconst 0, 1) := by decide +kernel
theorem dX8_in_18 : decode cX8_in 18 = .ok (.ireturn, 1) := by decide +kernel
theorem dX8_has_0 : decode cX8_has 0 = .ok (.iload_n 0, 1) := by decide +kernel
theorem dX8_has_1 : decode cX8_has 1 = .ok (.iload_n 1, 1) := by decide +kernel
theorem dX8_has_2 : decode cX8_has 2 = .ok (.ishr, 1) := by decide +kernel
theorem dX8_has_3 : decode cX8_has 3 = .ok (.iconst 1, 1) := by decide +kernel
theorem dX8_has_4 : decode cX8_has 4 = .ok (.iand, 1) := by decide +kernel
theorem dX8_has_5 : decode cX8_has 5 = .ok (.iconst 1, 1) := by decide +kernel
theorem dX8_has_6 : decode cX8_has 6 = .ok (.if_icmp .ne 7, 3) := by decide +kernel
theorem dX8_has_9 : decode cX8_has 9 = .ok (.iconst 1, 1) := by decide +kernel
theorem dX8_has_10 : decode cX8_has 10 = .ok (.goto 4, 3) := by decide +kernel
theorem dX8_has_13 : decode cX8_has 13 = .ok (.iconst 0, 1) := by decide +kernel
theorem dX8_has_14 : decode cX8_has 14 = .ok (.ireturn, 1) := by decide +kernel
theorem dX8_bits_0 : decode cX8_bits 0 = .ok (.iconst 0, 1) := by decide +kernel
theorem dX8_bits_1 : decode cX8_bits 1 = .ok (.istore_n 1, 1) := by decide +kernel
theorem dX8_bits_2 : decode cX8_bits 2 = .ok (.iload_n 0, 1) := by decide +kernel
theorem dX8_bits_3 : decode cX8_bits 3 = .ok (.istore_n 2, 1) := by decide +kernel
theorem dX8_bits_4 : decode cX8_bits 4 = .ok (.iload_n 2, 1) := by decide +kernel
theorem dX8_bits_5 : decode cX8_bits 5 = .ok (.ifCond .eq 15, 3) := by decide +kernel
theorem dX8_bits_8 : decode cX8_bits 8 = .ok (.iinc 1 1, 3) := by decide +kernel
theorem dX8_bits_11 : decode cX8_bits 11 = .ok (.iload_n 2, 1) := by decide +kernel
theorem dX8_bits_12 : decode cX8_bits 12 = .ok (.iload_n 2, 1) := by decide +kernel
theorem dX8_bits_13 : decode cX8_bits 13 = .ok (.iconst 1, 1) := by decide +kernel
theorem dX8_bits_14 : decode cX8_bits 14 = .ok (.isub, 1) := by decide +kernel
theorem dX8_bits_15 : decode cX8_bits 15 = .ok (.iand, 1) := by decide +kernel
theorem dX8_bits_16 : decode cX8_bits 16 = .ok (.istore_n 2, 1) := by decide +kernel
theorem dX8_bits_17 : decode cX8_bits 17 = .ok (.goto (-13), 3) := by decide +kernel
theorem dX8_bits_20 : decode cX8_bits 20 = .ok (.iload_n 1, 1) := by decide +kernel
theorem dX8_bits_21 : decode cX8_bits 21 = .ok (.ireturn, 1) := by decide +kernel
theorem dX8_isThere_0 : decode cX8_isThere 0 = .ok (.aload_n 0, 1) := by decide +kernel
theorem dX8_isThere_1 : decode cX8_isThere 1 = .ok (.getfield 9, 3) := by decide +kernel
theorem dX8_isThere_4 : decode cX8_isThere 4 = .ok (.iconst 0, 1) := by decide +kernel
theorem dX8_isThere_5 : decode cX8_isThere 5 = .ok (.iaload, 1) := by decide +kernel
theorem dX8_isThere_6 : decode cX8_isThere 6 = .ok (.ifCond .le 7, 3) := by decide +kernel
theorem dX8_isThere_9 : decode cX8_isThere 9 = .ok (.iconst 1, 1) := by decide +kernel
theorem dX8_isThere_10 : decode cX8_isThere 10 = .ok (.goto 4, 3) := by decide +kernel
theorem dX8_isThere_13 : decode cX8_isThere 13 = .ok (.iconst 0, 1) := by decide +kernel
theorem dX8_isThere_14 : decode cX8_isThere 14 = .ok (.ireturn, 1) := by decide +kernel
theorem dX8_one_0 : decode cX8_one 0 = .ok (.aload_n 0, 1) := by decide +kernel
theorem dX8_one_1 : decode cX8_one 1 = .ok (.getfield 16, 3) := by decide +kernel
theorem dX8_one_4 : decode cX8_one 4 = .ok (.bipush 62, 2) := by decide +kernel
theorem dX8_one_6 : decode cX8_one 6 = .ok (.bipush 12, 2) := by decide +kernel
theorem dX8_one_8 : decode cX8_one 8 = .ok (.iload_n 1, 1) := by decide +kernel
theorem dX8_one_9 : decode cX8_one 9 = .ok (.imul, 1) := by decide +kernel
theorem dX8_one_10 : decode cX8_one 10 = .ok (.iadd, 1) := by decide +kernel
theorem dX8_one_11 : decode cX8_one 11 = .ok (.iload_n 2, 1) := by decide +kernel
theorem dX8_one_12 : decode cX8_one 12 = .ok (.iadd, 1) := by decide +kernel
theorem dX8_one_13 : decode cX8_one 13 = .ok (.iaload, 1) := by decide +kernel
theorem dX8_one_14 : decode cX8_one 14 = .ok (.ireturn, 1) := by decide +kernel
theorem dX8_lays_0 : decode cX8_lays 0 = .ok (.aload_n 0, 1) := by decide +kernel
theorem dX8_lays_1 : decode cX8_lays 1 = .ok (.getfield 16, 3) := by decide +kernel
theorem dX8_lays_4 : decode cX8_lays 4 = .ok (.bipush 62, 2) := by decide +kernel
theorem dX8_lays_6 : decode cX8_lays 6 = .ok (.bipush 12, 2) := by decide +kernel
theorem dX8_lays_8 : decode cX8_lays 8 = .ok (.iload_n 1, 1) := by decide +kernel
theorem dX8_lays_9 : decode cX8_lays 9 = .ok (.imul, 1) := by decide +kernel
theorem dX8_lays_10 : decode cX8_lays 10 = .ok (.iadd, 1) := by decide +kernel
theorem dX8_lays_11 : decode cX8_lays 11 = .ok (.iload_n 2, 1) := by decide +kernel
theorem dX8_lays_12 : decode cX8_lays 12 = .ok (.iadd, 1) := by decide +kernel
theorem dX8_lays_13 : decode cX8_lays 13 = .ok (.iload_n 3, 1) := by decide +kernel
theorem dX8_lays_14 : decode cX8_lays 14 = .ok (.iastore, 1) := by decide +kernel
theorem dX8_lays_15 : decode cX8_lays 15 = .ok (.return_, 1) := by decide +kernel
theorem dX8_ask0_0 : decode cX8_ask0 0 = .ok (.aload_n 0, 1) := by decide +kernel
theorem dX8_ask0_1 : decode cX8_ask0 1 = .ok (.getfield 16, 3) := by decide +kernel
theorem dX8_ask0_4 : decode cX8_ask0 4 = .ok (.sipush 350, 3) := by decide +kernel
theorem dX8_ask0_7 : decode cX8_ask0 7 = .ok (.bipush 7, 2) := by decide +kernel
theorem dX8_ask0_9 : decode cX8_ask0 9 = .ok (.iload_n 1, 1) := by decide +kernel
theorem dX8_ask0_10 : decode cX8_ask0 10 = .ok (.imul, 1) := by decide +kernel
theorem dX8_ask0_11 : decode cX8_ask0 11 = .ok (.iadd, 1) := by decide +kernel
theorem dX8_ask0_12 : decode cX8_ask0 12 = .ok (.iload_n 2, 1) := by decide +kernel
theorem dX8_ask0_13 : decode cX8_ask0 13 = .ok (.iadd, 1) := by decide +kernel
theorem dX8_ask0_14 : decode cX8_ask0 14 = .ok (.iaload, 1) := by decide +kernel
theorem dX8_ask0_15 : decode cX8_ask0 15 = .ok (.ireturn, 1) := by decide +kernel
theorem dX8_isSeries_0 : decode cX8_isSeries 0 = .ok (.iload_n 1, 1) := by decide +kernel
theorem dX8_isSeries_1 : decode cX8_isSeries 1 = .ok (.i2l, 1) := by decide +kernel
theorem dX8_isSeries_2 : decode cX8_isSeries 2 = .ok (.lconst 0, 1) := by decide +kernel
theorem dX8_isSeries_3 : decode cX8_isSeries 3 = .ok (.aload_n 0, 1) := by decide +kernel
theorem dX8_isSeries_4 : decode cX8_isSeries 4 = .ok (.getfield 9, 3) := by decide +kernel
theorem dX8_isSeries_7 : decode cX8_isSeries 7 = .ok (.iconst 2, 1) := by decide +kernel
theorem dX8_isSeries_8 : decode cX8_isSeries 8 = .ok (.iaload, 1) := by decide +kernel
theorem dX8_isSeries_9 : decode cX8_isSeries 9 = .ok (.iconst 1, 1) := by decide +kernel
theorem dX8_isSeries_10 : decode cX8_isSeries 10 = .ok (.isub, 1) := by decide +kernel
theorem dX8_isSeries_11 : decode cX8_isSeries 11 = .ok (.i2l, 1) := by decide +kernel
theorem dX8_isSeries_12 : decode cX8_isSeries 12 = .ok (.invokestatic 45, 3) := by decide +kernel
theorem dX8_isSeries_15 : decode cX8_isSeries 15 = .ok (.ireturn, 1) := by decide +kernel
theorem dX8_isAsk_0 : decode cX8_isAsk 0 = .ok (.iload_n 1, 1) := by decide +kernel
theorem dX8_isAsk_1 : decode cX8_isAsk 1 = .ok (.i2l, 1) := by decide +kernel
theorem dX8_isAsk_2 : decode cX8_isAsk 2 = .ok (.lconst 0, 1) := by decide +kernel
theorem dX8_isAsk_3 : decode cX8_isAsk 3 = .ok (.aload_n 0, 1) := by decide +kernel
theorem dX8_isAsk_4 : decode cX8_isAsk 4 = .ok (.getfield 9, 3) := by decide +kernel
theorem dX8_isAsk_7 : decode cX8_isAsk 7 = .ok (.iconst 3, 1) := by decide +kernel
theorem dX8_isAsk_8 : decode cX8_isAsk 8 = .ok (.iaload, 1) := by decide +kernel
theorem dX8_isAsk_9 : decode cX8_isAsk 9 = .ok (.iconst 1, 1) := by decide +kernel
theorem dX8_isAsk_10 : decode cX8_isAsk 10 = .ok (.isub, 1) := by decide +kernel
theorem dX8_isAsk_11 : decode cX8_isAsk 11 = .ok (.i2l, 1) := by decide +kernel
theorem dX8_isAsk_12 : decode cX8_isAsk 12 = .ok (.invokestatic 45, 3) := by decide +kernel
theorem dX8_isAsk_15 : decode cX8_isAsk 15 = .ok (.ireturn, 1) := by decide +kernel
theorem dX8_isCarrier_0 : decode cX8_isCarrier 0 = .ok (.iload_n 1, 1) := by decide +kernel
theorem dX8_isCarrier_1 : decode cX8_isCarrier 1 = .ok (.i2l, 1) := by decide +kernel
theorem dX8_isCarrier_2 : decode cX8_isCarrier 2 = .ok (.lconst 0, 1) := by decide +kernel
theorem dX8_isCarrier_3 : decode cX8_isCarrier 3 = .ok (.aload_n 0, 1) := by decide +kernel
theorem dX8_isCarrier_4 : decode cX8_isCarrier 4 = .ok (.getfield 9, 3) := by decide +kernel
theorem dX8_isCarrier_7 : decode cX8_isCarrier 7 = .ok (.iconst 1, 1) := by decide +kernel
theorem dX8_isCarrier_8 : decode cX8_isCarrier 8 = .ok (.iaload, 1) := by decide +kernel
theorem dX8_isCarrier_9 : decode cX8_isCarrier 9 = .ok (.iconst 1, 1) := by decide +kernel
theorem dX8_isCarrier_10 : decode cX8_isCarrier 10 = .ok (.isub, 1) := by decide +kernel
theorem dX8_isCarrier_11 : decode cX8_isCarrier 11 = .ok (.i2l, 1) := by decide +kernel
theorem dX8_isCarrier_12 : decode cX8_isCarrier 12 = .ok (.invokestatic 45, 3) := by decide +kernel
theorem dX8_isCarrier_15 : decode cX8_isCarrier 15 = .ok (.ireturn, 1) := by decide +kernel
theorem dX8_isWeek_0 : decode cX8_isWeek 0 = .ok (.iload_n 1, 1) := by decide +kernel
theorem dX8_isWeek_1 : decode cX8_isWeek 1 = .ok (.i2l, 1) := by decide +kernel
theorem dX8_isWeek_2 : decode cX8_isWeek 2 = .ok (.lconst 0, 1) := by decide +kernel
theorem dX8_isWeek_3 : decode cX8_isWeek 3 = .ok (.aload_n 0, 1) := by decide +kernel
theorem dX8_isWeek_4 : decode cX8_isWeek 4 = .ok (.getfield 9, 3) := by decide +kernel
theorem dX8_isWeek_7 : decode cX8_isWeek 7 = .ok (.iconst 0, 1) := by decide +kernel
theorem dX8_isWeek_8 : decode cX8_isWeek 8 = .ok (.iaload, 1) := by decide +kernel
theorem dX8_isWeek_9 : decode cX8_isWeek 9 = .ok (.iconst 1, 1) := by decide +kernel
theorem dX8_isWeek_10 : decode cX8_isWeek 10 = .ok (.isub, 1) := by decide +kernel
theorem dX8_isWeek_11 : decode cX8_isWeek 11 = .ok (.i2l, 1) := by decide +kernel
theorem dX8_isWeek_12 : decode cX8_isWeek 12 = .ok (.invokestatic 45, 3) := by decide +kernel
theorem dX8_isWeek_15 : decode cX8_isWeek 15 = .ok (.ireturn, 1) := by decide +kernel
theorem dX8_isDay_0 : decode cX8_isDay 0 = .ok (.aload_n 0, 1) := by decide +kernel
theorem dX8_isDay_1 : decode cX8_isDay 1 = .ok (.invokevirtual 49, 3) := by decide +kernel
theorem dX8_isDay_4 : decode cX8_isDay 4 = .ok (.ifCond .eq 19, 3) := by decide +kernel
theorem dX8_isDay_7 : decode cX8_isDay 7 = .ok (.iload_n 1, 1) := by decide +kernel
theorem dX8_isDay_8 : decode cX8_isDay 8 = .ok (.i2l, 1) := by decide +kernel
theorem dX8_isDay_9 : decode cX8_isDay 9 = .ok (.lconst 0, 1) := by decide +kernel
theorem dX8_isDay_10 : decode cX8_isDay 10 = .ok (.ldc2_w 53, 3) := by decide +kernel
theorem dX8_isDay_13 : decode cX8_isDay 13 = .ok (.invokestatic 45, 3) := by decide +kernel
theorem dX8_isDay_16 : decode cX8_isDay 16 = .ok (.ifCond .eq 7, 3) := by decide +kernel
theorem dX8_isDay_19 : decode cX8_isDay 19 = .ok (.iconst 1, 1) := by decide +kernel
theorem dX8_isDay_20 : decode cX8_isDay 20 = .ok (.goto 4, 3) := by decide +kernel
theorem dX8_isDay_23 : decode cX8_isDay 23 = .ok (.iconst 0, 1) := by decide +kernel
theorem dX8_isDay_24 : decode cX8_isDay 24 = .ok (.ireturn, 1) := by decide +kernel
theorem dX8_isHour_0 : decode cX8_isHour 0 = .ok (.aload_n 0, 1) := by decide +kernel
theorem dX8_isHour_1 : decode cX8_isHour 1 = .ok (.invokevirtual 49, 3) := by decide +kernel
theorem dX8_isHour_4 : decode cX8_isHour 4 = .ok (.ifCond .eq 19, 3) := by decide +kernel
theorem dX8_isHour_7 : decode cX8_isHour 7 = .ok (.iload_n 1, 1) := by decide +kernel
theorem dX8_isHour_8 : decode cX8_isHour 8 = .ok (.i2l, 1) := by decide +kernel
theorem dX8_isHour_9 : decode cX8_isHour 9 = .ok (.lconst 0, 1) := by decide +kernel
theorem dX8_isHour_10 : decode cX8_isHour 10 = .ok (.ldc2_w 55, 3) := by decide +kernel
theorem dX8_isHour_13 : decode cX8_isHour 13 = .ok (.invokestatic 45, 3) := by decide +kernel
theorem dX8_isHour_16 : decode cX8_isHour 16 = .ok (.ifCond .eq 7, 3) := by decide +kernel
theorem dX8_isHour_19 : decode cX8_isHour 19 = .ok (.iconst 1, 1) := by decide +kernel
theorem dX8_isHour_20 : decode cX8_isHour 20 = .ok (.goto 4, 3) := by decide +kernel
theorem dX8_isHour_23 : decode cX8_isHour 23 = .ok (.iconst 0, 1) := by decide +kernel
theorem dX8_isHour_24 : decode cX8_isHour 24 = .ok (.ireturn, 1) := by decide +kernel
theorem dX8_isPlace_0 : decode cX8_isPlace 0 = .ok (.aload_n 0, 1) := by decide +kernel
theorem dX8_isPlace_1 : decode cX8_isPlace 1 = .ok (.iload_n 1, 1) := by decide +kernel
theorem dX8_isPlace_2 : decode cX8_isPlace 2 = .ok (.invokevirtual 57, 3) := by decide +kernel
theorem dX8_isPlace_5 : decode cX8_isPlace 5 = .ok (.ifCond .eq 23, 3) := by decide +kernel
theorem dX8_isPlace_8 : decode cX8_isPlace 8 = .ok (.aload_n 0, 1) := by decide +kernel
theorem dX8_isPlace_9 : decode cX8_isPlace 9 = .ok (.iload_n 2, 1) := by decide +kernel
theorem dX8_isPlace_10 : decode cX8_isPlace 10 = .ok (.invokevirtual 61, 3) := by decide +kernel
theorem dX8_isPlace_13 : decode cX8_isPlace 13 = .ok (.ifCond .eq 15, 3) := by decide +kernel
theorem dX8_isPlace_16 : decode cX8_isPlace 16 = .ok (.aload_n 0, 1) := by decide +kernel
theorem dX8_isPlace_17 : decode cX8_isPlace 17 = .ok (.iload_n 3, 1) := by decide +kernel
theorem dX8_isPlace_18 : decode cX8_isPlace 18 = .ok (.invokevirtual 64, 3) := by decide +kernel
theorem dX8_isPlace_21 : decode cX8_isPlace 21 = .ok (.ifCond .eq 7, 3) := by decide +kernel
theorem dX8_isPlace_24 : decode cX8_isPlace 24 = .ok (.iconst 1, 1) := by decide +kernel
theorem dX8_isPlace_25 : decode cX8_isPlace 25 = .ok (.goto 4, 3) := by decide +kernel
theorem dX8_isPlace_28 : decode cX8_isPlace 28 = .ok (.iconst 0, 1) := by decide +kernel
theorem dX8_isPlace_29 : decode cX8_isPlace 29 = .ok (.ireturn, 1) := by decide +kernel
theorem dX8_basisOf_0 : decode cX8_basisOf 0 = .ok (.aload_n 0, 1) := by decide +kernel
theorem dX8_basisOf_1 : decode cX8_basisOf 1 = .ok (.iload_n 1, 1) := by decide +kernel
theorem dX8_basisOf_2 : decode cX8_basisOf 2 = .ok (.bipush 7, 2) := by decide +kernel
theorem dX8_basisOf_4 : decode cX8_basisOf 4 = .ok (.invokevirtual 67, 3) := by decide +kernel
theorem dX8_basisOf_7 : decode cX8_basisOf 7 = .ok (.aload_n 0, 1) := by decide +kernel
theorem dX8_basisOf_8 : decode cX8_basisOf 8 = .ok (.iload_n 1, 1) := by decide +kernel
theorem dX8_basisOf_9 : decode cX8_basisOf 9 = .ok (.bipush 8, 2) := by decide +kernel
theorem dX8_basisOf_11 : decode cX8_basisOf 11 = .ok (.invokevirtual 67, 3) := by decide +kernel
theorem dX8_basisOf_14 : decode cX8_basisOf 14 = .ok (.ior, 1) := by decide +kernel
theorem dX8_basisOf_15 : decode cX8_basisOf 15 = .ok (.aload_n 0, 1) := by decide +kernel
theorem dX8_basisOf_16 : decode cX8_basisOf 16 = .ok (.iload_n 1, 1) := by decide +kernel
theorem dX8_basisOf_17 : decode cX8_basisOf 17 = .ok (.bipush 9, 2) := by decide +kernel
theorem dX8_basisOf_19 : decode cX8_basisOf 19 = .ok (.invokevirtual 67, 3) := by decide +kernel
theorem dX8_basisOf_22 : decode cX8_basisOf 22 = .ok (.ior, 1) := by decide +kernel
theorem dX8_basisOf_23 : decode cX8_basisOf 23 = .ok (.aload_n 0, 1) := by decide +kernel
theorem dX8_basisOf_24 : decode cX8_basisOf 24 = .ok (.iload_n 1, 1) := by decide +kernel
theorem dX8_basisOf_25 : decode cX8_basisOf 25 = .ok (.bipush 10, 2) := by decide +kernel
theorem dX8_basisOf_27 : decode cX8_basisOf 27 = .ok (.invokevirtual 67, 3) := by decide +kernel
theorem dX8_basisOf_30 : decode cX8_basisOf 30 = .ok (.ior, 1) := by decide +kernel
theorem dX8_basisOf_31 : decode cX8_basisOf 31 = .ok (.ireturn, 1) := by decide +kernel
theorem dX8_loadBut_0 : decode cX8_loadBut 0 = .ok (.iconst 0, 1) := by decide +kernel
theorem dX8_loadBut_1 : decode cX8_loadBut 1 = .ok (.istore 6, 2) := by decide +kernel
theorem dX8_loadBut_3 : decode cX8_loadBut 3 = .ok (.iconst 0, 1) := by decide +kernel
theorem dX8_loadBut_4 : decode cX8_loadBut 4 = .ok (.istore 7, 2) := by decide +kernel
theorem dX8_loadBut_6 : decode cX8_loadBut 6 = .ok (.iload 7, 2) := by decide +kernel
theorem dX8_loadBut_8 : decode cX8_loadBut 8 = .ok (.aload_n 0, 1) := by decide +kernel
theorem dX8_loadBut_9 : decode cX8_loadBut 9 = .ok (.getfield 16, 3) := by decide +kernel
theorem dX8_loadBut_12 : decode cX8_loadBut 12 = .ok (.iconst 2, 1) := by decide +kernel
theorem dX8_loadBut_13 : decode cX8_loadBut 13 = .ok (.iaload, 1) := by decide +kernel
theorem dX8_loadBut_14 : decode cX8_loadBut 14 = .ok (.if_icmp .ge 83, 3) := by decide +kernel
theorem dX8_loadBut_17 : decode cX8_loadBut 17 = .ok (.iload 7, 2) := by decide +kernel
theorem dX8_loadBut_19 : decode cX8_loadBut 19 = .ok (.iload 5, 2) := by decide +kernel
theorem dX8_loadBut_21 : decode cX8_loadBut 21 = .ok (.if_icmp .eq 70, 3) := by decide +kernel
theorem dX8_loadBut_24 : decode cX8_loadBut 24 = .ok (.aload_n 0, 1) := by decide +kernel
theorem dX8_loadBut_25 : decode cX8_loadBut 25 = .ok (.iload 7, 2) := by decide +kernel
theorem dX8_loadBut_27 : decode cX8_loadBut 27 = .ok (.iconst 1, 1) := by decide +kernel
theorem dX8_loadBut_28 : decode cX8_loadBut 28 = .ok (.invokevirtual 67, 3) := by decide +kernel
theorem dX8_loadBut_31 : decode cX8_loadBut 31 = .ok (.iload_n 2, 1) := by decide +kernel
theorem dX8_loadBut_32 : decode cX8_loadBut 32 = .ok (.if_icmp .ne 59, 3) := by decide +kernel
theorem dX8_loadBut_35 : decode cX8_loadBut 35 = .ok (.aload_n 0, 1) := by decide +kernel
theorem dX8_loadBut_36 : decode cX8_loadBut 36 = .ok (.iload 7, 2) := by decide +kernel
theorem dX8_loadBut_38 : decode cX8_loadBut 38 = .ok (.iconst 2, 1) := by decide +kernel
theorem dX8_loadBut_39 : decode cX8_loadBut 39 = .ok (.invokevirtual 67, 3) := by decide +kernel
theorem dX8_loadBut_42 : decode cX8_loadBut 42 = .ok (.iload_n 3, 1) := by decide +kernel
theorem dX8_loadBut_43 : decode cX8_loadBut 43 = .ok (.if_icmp .ne 48, 3) := by decide +kernel
theorem dX8_loadBut_46 : decode cX8_loadBut 46 = .ok (.iload 4, 2) := by decide +kernel
theorem dX8_loadBut_48 : decode cX8_loadBut 48 = .ok (.ifCond .le 20, 3) := by decide +kernel
theorem dX8_loadBut_51 : decode cX8_loadBut 51 = .ok (.aload_n 0, 1) := by decide +kernel
theorem dX8_loadBut_52 : decode cX8_loadBut 52 = .ok (.iload 7, 2) := by decide +kernel
theorem dX8_loadBut_54 : decode cX8_loadBut 54 = .ok (.iconst 3, 1) := by decide +kernel
theorem dX8_loadBut_55 : decode cX8_loadBut 55 = .ok (.invokevirtual 67, 3) := by decide +kernel
theorem dX8_loadBut_58 : decode cX8_loadBut 58 = .ok (.iload 4, 2) := by decide +kernel
theorem dX8_loadBut_60 : decode cX8_loadBut 60 = .ok (.iconst 1, 1) := by decide +kernel
theorem dX8_loadBut_61 : decode cX8_loadBut 61 = .ok (.isub, 1) := by decide +kernel
theorem dX8_loadBut_62 : decode cX8_loadBut 62 = .ok (.if_icmp .eq 6, 3) := by decide +kernel
theorem dX8_loadBut_65 : decode cX8_loadBut 65 = .ok (.goto 26, 3) := by decide +kernel
theorem dX8_loadBut_68 : decode cX8_loadBut 68 = .ok (.iload 6, 2) := by decide +kernel
theorem dX8_loadBut_70 : decode cX8_loadBut 70 = .ok (.aload_n 0, 1) := by decide +kernel
theorem dX8_loadBut_71 : decode cX8_loadBut 71 = .ok (.iload 7, 2) := by decide +kernel
theorem dX8_loadBut_73 : decode cX8_loadBut 73 = .ok (.invokevirtual 71, 3) := by decide +kernel
theorem dX8_loadBut_76 : decode cX8_loadBut 76 = .ok (.iload_n 1, 1) := by decide +kernel
theorem dX8_loadBut_77 : decode cX8_loadBut 77 = .ok (.invokestatic 75, 3) := by decide +kernel
theorem dX8_loadBut_80 : decode cX8_loadBut 80 = .ok (.ifCond .eq 7, 3) := by decide +kernel
theorem dX8_loadBut_83 : decode cX8_loadBut 83 = .ok (.iconst 1, 1) := by decide +kernel
theorem dX8_loadBut_84 : decode cX8_loadBut 84 = .ok (.goto 4, 3) := by decide +kernel
theorem dX8_loadBut_87 : decode cX8_loadBut 87 = .ok (.iconst 0, 1) := by decide +kernel
theorem dX8_loadBut_88 : decode cX8_loadBut 88 = .ok (.iadd, 1) := by decide +kernel
theorem dX8_loadBut_89 : decode cX8_loadBut 89 = .ok (.istore 6, 2) := by decide +kernel
theorem dX8_loadBut_91 : decode cX8_loadBut 91 = .ok (.iinc 7 1, 3) := by decide +kernel
theorem dX8_loadBut_94 : decode cX8_loadBut 94 = .ok (.goto (-88), 3) := by decide +kernel
theorem dX8_loadBut_97 : decode cX8_loadBut 97 = .ok (.iload 6, 2) := by decide +kernel
theorem dX8_loadBut_99 : decode cX8_loadBut 99 = .ok (.ireturn, 1) := by decide +kernel
theorem dX8_span_0 : decode cX8_span 0 = .ok (.iload_n 0, 1) := by decide +kernel
theorem dX8_span_1 : decode cX8_span 1 = .ok (.iload_n 1, 1) := by decide +kernel
theorem dX8_span_2 : decode cX8_span 2 = .ok (.if_icmp .le 7, 3) := by decide +kernel
theorem dX8_span_5 : decode cX8_span 5 = .ok (.iconst 0, 1) := by decide +kernel
theorem dX8_span_6 : decode cX8_span 6 = .ok (.goto 13, 3) := by decide +kernel
theorem dX8_span_9 : decode cX8_span 9 = .ok (.lconst 1, 1) := by decide +kernel
theorem dX8_span_10 : decode cX8_span 10 = .ok (.iload_n 1, 1) := by decide +kernel
theorem dX8_span_11 : decode cX8_span 11 = .ok (.iconst 1, 1) := by decide +kernel
theorem dX8_span_12 : decode cX8_span 12 = .ok (.iadd, 1) := by decide +kernel
theorem dX8_span_13 : decode cX8_span 13 = .ok (.lshl, 1) := by decide +kernel
theorem dX8_span_14 : decode cX8_span 14 = .ok (.lconst 1, 1) := by decide +kernel
theorem dX8_span_15 : decode cX8_span 15 = .ok (.iload_n 0, 1) := by decide +kernel
theorem dX8_span_16 : decode cX8_span 16 = .ok (.lshl, 1) := by decide +kernel
theorem dX8_span_17 : decode cX8_span 17 = .ok (.lsub, 1) := by decide +kernel
theorem dX8_span_18 : decode cX8_span 18 = .ok (.l2i, 1) := by decide +kernel
theorem dX8_span_19 : decode cX8_span 19 = .ok (.ireturn, 1) := by decide +kernel
theorem dX8_fromNow_0 : decode cX8_fromNow 0 = .ok (.aload_n 0, 1) := by decide +kernel
theorem dX8_fromNow_1 : decode cX8_fromNow 1 = .ok (.getfield 16, 3) := by decide +kernel
theorem dX8_fromNow_4 : decode cX8_fromNow 4 = .ok (.iconst 4, 1) := by decide +kernel
theorem dX8_fromNow_5 : decode cX8_fromNow 5 = .ok (.iaload, 1) := by decide +kernel
theorem dX8_fromNow_6 : decode cX8_fromNow 6 = .ok (.aload_n 0, 1) := by decide +kernel
theorem dX8_fromNow_7 : decode cX8_fromNow 7 = .ok (.getfield 16, 3) := by decide +kernel
theorem dX8_fromNow_10 : decode cX8_fromNow 10 = .ok (.iconst 0, 1) := by decide +kernel
theorem dX8_fromNow_11 : decode cX8_fromNow 11 = .ok (.iaload, 1) := by decide +kernel
theorem dX8_fromNow_12 : decode cX8_fromNow 12 = .ok (.iconst 1, 1) := by decide +kernel
theorem dX8_fromNow_13 : decode cX8_fromNow 13 = .ok (.isub, 1) := by decide +kernel
theorem dX8_fromNow_14 : decode cX8_fromNow 14 = .ok (.invokestatic 79, 3) := by decide +kernel
theorem dX8_fromNow_17 : decode cX8_fromNow 17 = .ok (.ireturn, 1) := by decide +kernel
theorem dX8_canBe_0 : decode cX8_canBe 0 = .ok (.iconst 0, 1) := by decide +kernel
theorem dX8_canBe_1 : decode cX8_canBe 1 = .ok (.istore 6, 2) := by decide +kernel
theorem dX8_canBe_3 : decode cX8_canBe 3 = .ok (.iload 6, 2) := by decide +kernel
theorem dX8_canBe_5 : decode cX8_canBe 5 = .ok (.aload_n 0, 1) := by decide +kernel
theorem dX8_canBe_6 : decode cX8_canBe 6 = .ok (.getfield 16, 3) := by decide +kernel
theorem dX8_canBe_9 : decode cX8_canBe 9 = .ok (.iconst 0, 1) := by decide +kernel
theorem dX8_canBe_10 : decode cX8_canBe 10 = .ok (.iaload, 1) := by decide +kernel
theorem dX8_canBe_11 : decode cX8_canBe 11 = .ok (.if_icmp .ge 87, 3) := by decide +kernel
theorem dX8_canBe_14 : decode cX8_canBe 14 = .ok (.iload_n 1, 1) := by decide +kernel
theorem dX8_canBe_15 : decode cX8_canBe 15 = .ok (.aload_n 0, 1) := by decide +kernel
theorem dX8_canBe_16 : decode cX8_canBe 16 = .ok (.invokevirtual 82, 3) := by decide +kernel
theorem dX8_canBe_19 : decode cX8_canBe 19 = .ok (.iand, 1) := by decide +kernel
theorem dX8_canBe_20 : decode cX8_canBe 20 = .ok (.iload 6, 2) := by decide +kernel
theorem dX8_canBe_22 : decode cX8_canBe 22 = .ok (.invokestatic 75, 3) := by decide +kernel
theorem dX8_canBe_25 : decode cX8_canBe 25 = .ok (.ifCond .ne 6, 3) := by decide +kernel
theorem dX8_canBe_28 : decode cX8_canBe 28 = .ok (.goto 64, 3) := by decide +kernel
theorem dX8_canBe_31 : decode cX8_canBe 31 = .ok (.aload_n 0, 1) := by decide +kernel
theorem dX8_canBe_32 : decode cX8_canBe 32 = .ok (.iload 6, 2) := by decide +kernel
theorem dX8_canBe_34 : decode cX8_canBe 34 = .ok (.iload_n 2, 1) := by decide +kernel
theorem dX8_canBe_35 : decode cX8_canBe 35 = .ok (.iload_n 3, 1) := by decide +kernel
theorem dX8_canBe_36 : decode cX8_canBe 36 = .ok (.iconst 0, 1) := by decide +kernel
theorem dX8_canBe_37 : decode cX8_canBe 37 = .ok (.iload 5, 2) := by decide +kernel
theorem dX8_canBe_39 : decode cX8_canBe 39 = .ok (.invokevirtual 86, 3) := by decide +kernel
theorem dX8_canBe_42 : decode cX8_canBe 42 = .ok (.aload_n 0, 1) := by decide +kernel
theorem dX8_canBe_43 : decode cX8_canBe 43 = .ok (.getfield 16, 3) := by decide +kernel
theorem dX8_canBe_46 : decode cX8_canBe 46 = .ok (.bipush 6, 2) := by decide +kernel
theorem dX8_canBe_48 : decode cX8_canBe 48 = .ok (.iconst 2, 1) := by decide +kernel
theorem dX8_canBe_49 : decode cX8_canBe 49 = .ok (.iload_n 3, 1) := by decide +kernel
theorem dX8_canBe_50 : decode cX8_canBe 50 = .ok (.imul, 1) := by decide +kernel
theorem dX8_canBe_51 : decode cX8_canBe 51 = .ok (.iadd, 1) := by decide +kernel
theorem dX8_canBe_52 : decode cX8_canBe 52 = .ok (.iaload, 1) := by decide +kernel
theorem dX8_canBe_53 : decode cX8_canBe 53 = .ok (.if_icmp .lt 5, 3) := by decide +kernel
theorem dX8_canBe_56 : decode cX8_canBe 56 = .ok (.iconst 0, 1) := by decide +kernel
theorem dX8_canBe_57 : decode cX8_canBe 57 = .ok (.ireturn, 1) := by decide +kernel
theorem dX8_canBe_58 : decode cX8_canBe 58 = .ok (.iload 4, 2) := by decide +kernel
theorem dX8_canBe_60 : decode cX8_canBe 60 = .ok (.ifCond .ne 32, 3) := by decide +kernel
theorem dX8_canBe_63 : decode cX8_canBe 63 = .ok (.aload_n 0, 1) := by decide +kernel
theorem dX8_canBe_64 : decode cX8_canBe 64 = .ok (.iload 6, 2) := by decide +kernel
theorem dX8_canBe_66 : decode cX8_canBe 66 = .ok (.iload_n 2, 1) := by decide +kernel
theorem dX8_canBe_67 : decode cX8_canBe 67 = .ok (.iload_n 3, 1) := by decide +kernel
theorem dX8_canBe_68 : decode cX8_canBe 68 = .ok (.iconst 1, 1) := by decide +kernel
theorem dX8_canBe_69 : decode cX8_canBe 69 = .ok (.iload 5, 2) := by decide +kernel
theorem dX8_canBe_71 : decode cX8_canBe 71 = .ok (.invokevirtual 86, 3) := by decide +kernel
theorem dX8_canBe_74 : decode cX8_canBe 74 = .ok (.aload_n 0, 1) := by decide +kernel
theorem dX8_canBe_75 : decode cX8_canBe 75 = .ok (.getfield 16, 3) := by decide +kernel
theorem dX8_canBe_78 : decode cX8_canBe 78 = .ok (.bipush 6, 2) := by decide +kernel
theorem dX8_canBe_80 : decode cX8_canBe 80 = .ok (.iconst 2, 1) := by decide +kernel
theorem dX8_canBe_81 : decode cX8_canBe 81 = .ok (.iload_n 3, 1) := by decide +kernel
theorem dX8_canBe_82 : decode cX8_canBe 82 = .ok (.imul, 1) := by decide +kernel
theorem dX8_canBe_83 : decode cX8_canBe 83 = .ok (.iadd, 1) := by decide +kernel
theorem dX8_canBe_84 : decode cX8_canBe 84 = .ok (.iconst 1, 1) := by decide +kernel
theorem dX8_canBe_85 : decode cX8_canBe 85 = .ok (.iadd, 1) := by decide +kernel
theorem dX8_canBe_86 : decode cX8_canBe 86 = .ok (.iaload, 1) := by decide +kernel
theorem dX8_canBe_87 : decode cX8_canBe 87 = .ok (.if_icmp .lt 5, 3) := by decide +kernel
theorem dX8_canBe_90 : decode cX8_canBe 90 = .ok (.iconst 0, 1) := by decide +kernel
theorem dX8_canBe_91 : decode cX8_canBe 91 = .ok (.ireturn, 1) := by decide +kernel
theorem dX8_canBe_92 : decode cX8_canBe 92 = .ok (.iinc 6 1, 3) := by decide +kernel
theorem dX8_canBe_95 : decode cX8_canBe 95 = .ok (.goto (-92), 3) := by decide +kernel
theorem dX8_canBe_98 : decode cX8_canBe 98 = .ok (.iconst 1, 1) := by decide +kernel
theorem dX8_canBe_99 : decode cX8_canBe 99 = .ok (.ireturn, 1) := by decide +kernel
theorem dX8_canBeAt_0 : decode cX8_canBeAt 0 = .ok (.aload_n 0, 1) := by decide +kernel
theorem dX8_canBeAt_1 : decode cX8_canBeAt 1 = .ok (.aload_n 0, 1) := by decide +kernel
theorem dX8_canBeAt_2 : decode cX8_canBeAt 2 = .ok (.iload_n 1, 1) := by decide +kernel
theorem dX8_canBeAt_3 : decode cX8_canBeAt 3 = .ok (.invokevirtual 71, 3) := by decide +kernel
theorem dX8_canBeAt_6 : decode cX8_canBeAt 6 = .ok (.aload_n 0, 1) := by decide +kernel
theorem dX8_canBeAt_7 : decode cX8_canBeAt 7 = .ok (.iload_n 1, 1) := by decide +kernel
theorem dX8_canBeAt_8 : decode cX8_canBeAt 8 = .ok (.iconst 1, 1) := by decide +kernel
theorem dX8_canBeAt_9 : decode cX8_canBeAt 9 = .ok (.invokevirtual 67, 3) := by decide +kernel
theorem dX8_canBeAt_12 : decode cX8_canBeAt 12 = .ok (.iload_n 2, 1) := by decide +kernel
theorem dX8_canBeAt_13 : decode cX8_canBeAt 13 = .ok (.aload_n 0, 1) := by decide +kernel
theorem dX8_canBeAt_14 : decode cX8_canBeAt 14 = .ok (.iload_n 1, 1) := by decide +kernel
theorem dX8_canBeAt_15 : decode cX8_canBeAt 15 = .ok (.iconst 3, 1) := by decide +kernel
theorem dX8_canBeAt_16 : decode cX8_canBeAt 16 = .ok (.invokevirtual 67, 3) := by decide +kernel
theorem dX8_canBeAt_19 : decode cX8_canBeAt 19 = .ok (.iload_n 1, 1) := by decide +kernel
theorem dX8_canBeAt_20 : decode cX8_canBeAt 20 = .ok (.invokevirtual 90, 3) := by decide +kernel
theorem dX8_canBeAt_23 : decode cX8_canBeAt 23 = .ok (.ireturn, 1) := by decide +kernel
theorem dX8_puts4_0 : decode cX8_puts4 0 = .ok (.bipush 24, 2) := by decide +kernel
theorem dX8_puts4_2 : decode cX8_puts4 2 = .ok (.istore_n 2, 1) := by decide +kernel
theorem dX8_puts4_3 : decode cX8_puts4 3 = .ok (.iload_n 2, 1) := by decide +kernel
theorem dX8_puts4_4 : decode cX8_puts4 4 = .ok (.ifCond .lt 32, 3) := by decide +kernel
theorem dX8_puts4_7 : decode cX8_puts4 7 = .ok (.aload_n 0, 1) := by decide +kernel
theorem dX8_puts4_8 : decode cX8_puts4 8 = .ok (.getfield 19, 3) := by decide +kernel
theorem dX8_puts4_11 : decode cX8_puts4 11 = .ok (.aload_n 0, 1) := by decide +kernel
theorem dX8_puts4_12 : decode cX8_puts4 12 = .ok (.getfield 94, 3) := by decide +kernel
theorem dX8_puts4_15 : decode cX8_puts4 15 = .ok (.iload_n 1, 1) := by decide +kernel
theorem dX8_puts4_16 : decode cX8_puts4 16 = .ok (.iload_n 2, 1) := by decide +kernel
theorem dX8_puts4_17 : decode cX8_puts4 17 = .ok (.ishr, 1) := by decide +kernel
theorem dX8_puts4_18 : decode cX8_puts4 18 = .ok (.i2b, 1) := by decide +kernel
theorem dX8_puts4_19 : decode cX8_puts4 19 = .ok (.bastore, 1) := by decide +kernel
theorem dX8_puts4_20 : decode cX8_puts4 20 = .ok (.aload_n 0, 1) := by decide +kernel
theorem dX8_puts4_21 : decode cX8_puts4 21 = .ok (.dup, 1) := by decide +kernel
theorem dX8_puts4_22 : decode cX8_puts4 22 = .ok (.getfield 94, 3) := by decide +kernel
theorem dX8_puts4_25 : decode cX8_puts4 25 = .ok (.iconst 1, 1) := by decide +kernel
theorem dX8_puts4_26 : decode cX8_puts4 26 = .ok (.iadd, 1) := by decide +kernel
theorem dX8_puts4_27 : decode cX8_puts4 27 = .ok (.putfield 94, 3) := by decide +kernel
theorem dX8_puts4_30 : decode cX8_puts4 30 = .ok (.iinc 2 (-8), 3) := by decide +kernel
theorem dX8_puts4_33 : decode cX8_puts4 33 = .ok (.goto (-30), 3) := by decide +kernel
theorem dX8_puts4_36 : decode cX8_puts4 36 = .ok (.return_, 1) := by decide +kernel
theorem dX8_feed_0 : decode cX8_feed 0 = .ok (.aload_n 0, 1) := by decide +kernel
theorem dX8_feed_1 : decode cX8_feed 1 = .ok (.getfield 94, 3) := by decide +kernel
theorem dX8_feed_4 : decode cX8_feed 4 = .ok (.bipush 20, 2) := by decide +kernel
theorem dX8_feed_6 : decode cX8_feed 6 = .ok (.iadd, 1) := by decide +kernel
theorem dX8_feed_7 : decode cX8_feed 7 = .ok (.sipush 1200, 3) := by decide +kernel
theorem dX8_feed_10 : decode cX8_feed 10 = .ok (.if_icmp .le 5, 3) := by decide +kernel
theorem dX8_feed_13 : decode cX8_feed 13 = .ok (.iconst (-1), 1) := by decide +kernel
theorem dX8_feed_14 : decode cX8_feed 14 = .ok (.ireturn, 1) := by decide +kernel
theorem dX8_feed_15 : decode cX8_feed 15 = .ok (.aload_n 0, 1) := by decide +kernel
theorem dX8_feed_16 : decode cX8_feed 16 = .ok (.iload_n 1, 1) := by decide +kernel
theorem dX8_feed_17 : decode cX8_feed 17 = .ok (.invokevirtual 97, 3) := by decide +kernel
theorem dX8_feed_20 : decode cX8_feed 20 = .ok (.aload_n 0, 1) := by decide +kernel
theorem dX8_feed_21 : decode cX8_feed 21 = .ok (.iload_n 2, 1) := by decide +kernel
theorem dX8_feed_22 : decode cX8_feed 22 = .ok (.invokevirtual 97, 3) := by decide +kernel
theorem dX8_feed_25 : decode cX8_feed 25 = .ok (.aload_n 0, 1) := by decide +kernel
theorem dX8_feed_26 : decode cX8_feed 26 = .ok (.iload_n 3, 1) := by decide +kernel
theorem dX8_feed_27 : decode cX8_feed 27 = .ok (.invokevirtual 97, 3) := by decide +kernel
theorem dX8_feed_30 : decode cX8_feed 30 = .ok (.aload_n 0, 1) := by decide +kernel
theorem dX8_feed_31 : decode cX8_feed 31 = .ok (.iload 4, 2) := by decide +kernel
theorem dX8_feed_33 : decode cX8_feed 33 = .ok (.invokevirtual 97, 3) := by decide +kernel
theorem dX8_feed_36 : decode cX8_feed 36 = .ok (.aload_n 0, 1) := by decide +kernel
theorem dX8_feed_37 : decode cX8_feed 37 = .ok (.iload 5, 2) := by decide +kernel
theorem dX8_feed_39 : decode cX8_feed 39 = .ok (.invokevirtual 97, 3) := by decide +kernel
theorem dX8_feed_42 : decode cX8_feed 42 = .ok (.aload_n 0, 1) := by decide +kernel
theorem dX8_feed_43 : decode cX8_feed 43 = .ok (.getfield 94, 3) := by decide +kernel
theorem dX8_feed_46 : decode cX8_feed 46 = .ok (.ireturn, 1) := by decide +kernel
theorem dX8_end_0 : decode cX8_end 0 = .ok (.iload_n 1, 1) := by decide +kernel
theorem dX8_end_1 : decode cX8_end 1 = .ok (.i2l, 1) := by decide +kernel
theorem dX8_end_2 : decode cX8_end 2 = .ok (.lconst 0, 1) := by decide +kernel
theorem dX8_end_3 : decode cX8_end 3 = .ok (.aload_n 0, 1) := by decide +kernel
theorem dX8_end_4 : decode cX8_end 4 = .ok (.getfield 94, 3) := by decide +kernel
theorem dX8_end_7 : decode cX8_end 7 = .ok (.i2l, 1) := by decide +kernel
theorem dX8_end_8 : decode cX8_end 8 = .ok (.invokestatic 45, 3) := by decide +kernel
theorem dX8_end_11 : decode cX8_end 11 = .ok (.ifCond .ne 5, 3) := by decide +kernel
theorem dX8_end_14 : decode cX8_end 14 = .ok (.iconst (-1), 1) := by decide +kernel
theorem dX8_end_15 : decode cX8_end 15 = .ok (.ireturn, 1) := by decide +kernel
theorem dX8_end_16 : decode cX8_end 16 = .ok (.aload_n 0, 1) := by decide +kernel
theorem dX8_end_17 : decode cX8_end 17 = .ok (.iload_n 1, 1) := by decide +kernel
theorem dX8_end_18 : decode cX8_end 18 = .ok (.putfield 94, 3) := by decide +kernel
theorem dX8_end_21 : decode cX8_end 21 = .ok (.iload_n 1, 1) := by decide +kernel
theorem dX8_end_22 : decode cX8_end 22 = .ok (.ireturn, 1) := by decide +kernel
theorem dX8_good_0 : decode cX8_good 0 = .ok (.aload_n 0, 1) := by decide +kernel
theorem dX8_good_1 : decode cX8_good 1 = .ok (.getfield 101, 3) := by decide +kernel
theorem dX8_good_4 : decode cX8_good 4 = .ok (.ifCond .ne 7, 3) := by decide +kernel
theorem dX8_good_7 : decode cX8_good 7 = .ok (.iconst 1, 1) := by decide +kernel
theorem dX8_good_8 : decode cX8_good 8 = .ok (.goto 4, 3) := by decide +kernel
theorem dX8_good_11 : decode cX8_good 11 = .ok (.iconst 0, 1) := by decide +kernel
theorem dX8_good_12 : decode cX8_good 12 = .ok (.ireturn, 1) := by decide +kernel
theorem dX8_errs_0 : decode cX8_errs 0 = .ok (.aload_n 0, 1) := by decide +kernel
theorem dX8_errs_1 : decode cX8_errs 1 = .ok (.invokevirtual 104, 3) := by decide +kernel
theorem dX8_errs_4 : decode cX8_errs 4 = .ok (.ifCond .ne 4, 3) := by decide +kernel
theorem dX8_errs_7 : decode cX8_errs 7 = .ok (.return_, 1) := by decide +kernel
theorem dX8_errs_8 : decode cX8_errs 8 = .ok (.aload_n 0, 1) := by decide +kernel
theorem dX8_errs_9 : decode cX8_errs 9 = .ok (.iload_n 1, 1) := by decide +kernel
theorem dX8_errs_10 : decode cX8_errs 10 = .ok (.putfield 101, 3) := by decide +kernel
theorem dX8_errs_13 : decode cX8_errs 13 = .ok (.aload_n 0, 1) := by decide +kernel
theorem dX8_errs_14 : decode cX8_errs 14 = .ok (.iload_n 2, 1) := by decide +kernel
theorem dX8_errs_15 : decode cX8_errs 15 = .ok (.putfield 23, 3) := by decide +kernel
theorem dX8_errs_18 : decode cX8_errs 18 = .ok (.return_, 1) := by decide +kernel
theorem dX8_see_0 : decode cX8_see 0 = .ok (.iload_n 1, 1) := by decide +kernel
theorem dX8_see_1 : decode cX8_see 1 = .ok (.aload_n 0, 1) := by decide +kernel
theorem dX8_see_2 : decode cX8_see 2 = .ok (.getfield 107, 3) := by decide +kernel
theorem dX8_see_5 : decode cX8_see 5 = .ok (.if_icmp .ge 16, 3) := by decide +kernel
theorem dX8_see_8 : decode cX8_see 8 = .ok (.aload_n 0, 1) := by decide +kernel
theorem dX8_see_9 : decode cX8_see 9 = .ok (.getfield 19, 3) := by decide +kernel
theorem dX8_see_12 : decode cX8_see 12 = .ok (.iload_n 1, 1) := by decide +kernel
theorem dX8_see_13 : decode cX8_see 13 = .ok (.baload, 1) := by decide +kernel
theorem dX8_see_14 : decode cX8_see 14 = .ok (.sipush 255, 3) := by decide +kernel
theorem dX8_see_17 : decode cX8_see 17 = .ok (.iand, 1) := by decide +kernel
theorem dX8_see_18 : decode cX8_see 18 = .ok (.goto 4, 3) := by decide +kernel
theorem dX8_see_21 : decode cX8_see 21 = .ok (.iconst (-1), 1) := by decide +kernel
theorem dX8_see_22 : decode cX8_see 22 = .ok (.ireturn, 1) := by decide +kernel
theorem dX8_advance_0 : decode cX8_advance 0 = .ok (.aload_n 0, 1) := by decide +kernel
theorem dX8_advance_1 : decode cX8_advance 1 = .ok (.aload_n 0, 1) := by decide +kernel
theorem dX8_advance_2 : decode cX8_advance 2 = .ok (.getfield 110, 3) := by decide +kernel
theorem dX8_advance_5 : decode cX8_advance 5 = .ok (.invokevirtual 113, 3) := by decide +kernel
theorem dX8_advance_8 : decode cX8_advance 8 = .ok (.bipush 32, 2) := by decide +kernel
theorem dX8_advance_10 : decode cX8_advance 10 = .ok (.if_icmp .eq 16, 3) := by decide +kernel
theorem dX8_advance_13 : decode cX8_advance 13 = .ok (.aload_n 0, 1) := by decide +kernel
theorem dX8_advance_14 : decode cX8_advance 14 = .ok (.aload_n 0, 1) := by decide +kernel
theorem dX8_advance_15 : decode cX8_advance 15 = .ok (.getfield 110, 3) := by decide +kernel
theorem dX8_advance_18 : decode cX8_advance 18 = .ok (.invokevirtual 113, 3) := by decide +kernel
theorem dX8_advance_21 : decode cX8_advance 21 = .ok (.bipush 10, 2) := by decide +kernel
theorem dX8_advance_23 : decode cX8_advance 23 = .ok (.if_icmp .ne 16, 3) := by decide +kernel
theorem dX8_advance_26 : decode cX8_advance 26 = .ok (.aload_n 0, 1) := by decide +kernel
theorem dX8_advance_27 : decode cX8_advance 27 = .ok (.dup, 1) := by decide +kernel
theorem dX8_advance_28 : decode cX8_advance 28 = .ok (.getfield 110, 3) := by decide +kernel
theorem dX8_advance_31 : decode cX8_advance 31 = .ok (.iconst 1, 1) := by decide +kernel
theorem dX8_advance_32 : decode cX8_advance 32 = .ok (.iadd, 1) := by decide +kernel
theorem dX8_advance_33 : decode cX8_advance 33 = .ok (.putfield 110, 3) := by decide +kernel
theorem dX8_advance_36 : decode cX8_advance 36 = .ok (.goto (-36), 3) := by decide +kernel
theorem dX8_advance_39 : decode cX8_advance 39 = .ok (.aload_n 0, 1) := by decide +kernel
theorem dX8_advance_40 : decode cX8_advance 40 = .ok (.aload_n 0, 1) := by decide +kernel
theorem dX8_advance_41 : decode cX8_advance 41 = .ok (.getfield 110, 3) := by decide +kernel
theorem dX8_advance_44 : decode cX8_advance 44 = .ok (.putfield 116, 3) := by decide +kernel
theorem dX8_advance_47 : decode cX8_advance 47 = .ok (.aload_n 0, 1) := by decide +kernel
theorem dX8_advance_48 : decode cX8_advance 48 = .ok (.aload_n 0, 1) := by decide +kernel
theorem dX8_advance_49 : decode cX8_advance 49 = .ok (.getfield 110, 3) := by decide +kernel
theorem dX8_advance_52 : decode cX8_advance 52 = .ok (.invokevirtual 113, 3) := by decide +kernel
theorem dX8_advance_55 : decode cX8_advance 55 = .ok (.istore_n 1, 1) := by decide +kernel
theorem dX8_advance_56 : decode cX8_advance 56 = .ok (.iload_n 1, 1) := by decide +kernel
theorem dX8_advance_57 : decode cX8_advance 57 = .ok (.iconst (-1), 1) := by decide +kernel
theorem dX8_advance_58 : decode cX8_advance 58 = .ok (.if_icmp .ne 11, 3) := by decide +kernel
theorem dX8_advance_61 : decode cX8_advance 61 = .ok (.aload_n 0, 1) := by decide +kernel
theorem dX8_advance_62 : decode cX8_advance 62 = .ok (.iconst 0, 1) := by decide +kernel
theorem dX8_advance_63 : decode cX8_advance 63 = .ok (.putfield 119, 3) := by decide +kernel
theorem dX8_advance_66 : decode cX8_advance 66 = .ok (.goto 169, 3) := by decide +kernel
theorem dX8_advance_69 : decode cX8_advance 69 = .ok (.iload_n 1, 1) := by decide +kernel
theorem dX8_advance_70 : decode cX8_advance 70 = .ok (.i2l, 1) := by decide +kernel
theorem dX8_advance_71 : decode cX8_advance 71 = .ok (.ldc2_w 122, 3) := by decide +kernel
theorem dX8_advance_74 : decode cX8_advance 74 = .ok (.ldc2_w 124, 3) := by decide +kernel
theorem dX8_advance_77 : decode cX8_advance 77 = .ok (.invokestatic 45, 3) := by decide +kernel
theorem dX8_advance_80 : decode cX8_advance 80 = .ok (.ifCond .eq 45, 3) := by decide +kernel
theorem dX8_advance_83 : decode cX8_advance 83 = .ok (.aload_n 0, 1) := by decide +kernel
theorem dX8_advance_84 : decode cX8_advance 84 = .ok (.aload_n 0, 1) := by decide +kernel
theorem dX8_advance_85 : decode cX8_advance 85 = .ok (.getfield 110, 3) := by decide +kernel
theorem dX8_advance_88 : decode cX8_advance 88 = .ok (.invokevirtual 113, 3) := by decide +kernel
theorem dX8_advance_91 : decode cX8_advance 91 = .ok (.i2l, 1) := by decide +kernel
theorem dX8_advance_92 : decode cX8_advance 92 = .ok (.ldc2_w 122, 3) := by decide +kernel
theorem dX8_advance_95 : decode cX8_advance 95 = .ok (.ldc2_w 124, 3) := by decide +kernel
theorem dX8_advance_98 : decode cX8_advance 98 = .ok (.invokestatic 45, 3) := by decide +kernel
theorem dX8_advance_101 : decode cX8_advance 101 = .ok (.ifCond .eq 16, 3) := by decide +kernel
theorem dX8_advance_104 : decode cX8_advance 104 = .ok (.aload_n 0, 1) := by decide +kernel
theorem dX8_advance_105 : decode cX8_advance 105 = .ok (.dup, 1) := by decide +kernel
