theorem dX8_peak_35 : decode cX8_peak 35 = .ok (.iconst (-1), 1) := by decide +kernel
theorem dX8_peak_36 : decode cX8_peak 36 = .ok (.ireturn, 1) := by decide +kernel
theorem dX8_peak_37 : decode cX8_peak 37 = .ok (.iconst (-1), 1) := by decide +kernel
theorem dX8_peak_38 : decode cX8_peak 38 = .ok (.istore_n 2, 1) := by decide +kernel
theorem dX8_peak_39 : decode cX8_peak 39 = .ok (.iconst (-1), 1) := by decide +kernel
theorem dX8_peak_40 : decode cX8_peak 40 = .ok (.istore_n 3, 1) := by decide +kernel
theorem dX8_peak_41 : decode cX8_peak 41 = .ok (.aload_n 0, 1) := by decide +kernel
theorem dX8_peak_42 : decode cX8_peak 42 = .ok (.getfield 9, 3) := by decide +kernel
theorem dX8_peak_45 : decode cX8_peak 45 = .ok (.iconst 4, 1) := by decide +kernel
theorem dX8_peak_46 : decode cX8_peak 46 = .ok (.iaload, 1) := by decide +kernel
theorem dX8_peak_47 : decode cX8_peak 47 = .ok (.istore 4, 2) := by decide +kernel
theorem dX8_peak_49 : decode cX8_peak 49 = .ok (.iload 4, 2) := by decide +kernel
theorem dX8_peak_51 : decode cX8_peak 51 = .ok (.aload_n 0, 1) := by decide +kernel
theorem dX8_peak_52 : decode cX8_peak 52 = .ok (.getfield 9, 3) := by decide +kernel
theorem dX8_peak_55 : decode cX8_peak 55 = .ok (.iconst 0, 1) := by decide +kernel
theorem dX8_peak_56 : decode cX8_peak 56 = .ok (.iaload, 1) := by decide +kernel
theorem dX8_peak_57 : decode cX8_peak 57 = .ok (.if_icmp .ge 83, 3) := by decide +kernel
theorem dX8_peak_60 : decode cX8_peak 60 = .ok (.iconst 0, 1) := by decide +kernel
theorem dX8_peak_61 : decode cX8_peak 61 = .ok (.istore 5, 2) := by decide +kernel
theorem dX8_peak_63 : decode cX8_peak 63 = .ok (.iload 5, 2) := by decide +kernel
theorem dX8_peak_65 : decode cX8_peak 65 = .ok (.bipush 7, 2) := by decide +kernel
theorem dX8_peak_67 : decode cX8_peak 67 = .ok (.if_icmp .ge 67, 3) := by decide +kernel
theorem dX8_peak_70 : decode cX8_peak 70 = .ok (.iconst 0, 1) := by decide +kernel
theorem dX8_peak_71 : decode cX8_peak 71 = .ok (.istore 6, 2) := by decide +kernel
theorem dX8_peak_73 : decode cX8_peak 73 = .ok (.iload 6, 2) := by decide +kernel
theorem dX8_peak_75 : decode cX8_peak 75 = .ok (.bipush 24, 2) := by decide +kernel
theorem dX8_peak_77 : decode cX8_peak 77 = .ok (.if_icmp .ge 51, 3) := by decide +kernel
theorem dX8_peak_80 : decode cX8_peak 80 = .ok (.aload_n 0, 1) := by decide +kernel
theorem dX8_peak_81 : decode cX8_peak 81 = .ok (.iload 4, 2) := by decide +kernel
theorem dX8_peak_83 : decode cX8_peak 83 = .ok (.iload 5, 2) := by decide +kernel
theorem dX8_peak_85 : decode cX8_peak 85 = .ok (.iload 6, 2) := by decide +kernel
theorem dX8_peak_87 : decode cX8_peak 87 = .ok (.iconst 0, 1) := by decide +kernel
theorem dX8_peak_88 : decode cX8_peak 88 = .ok (.iconst (-1), 1) := by decide +kernel
theorem dX8_peak_89 : decode cX8_peak 89 = .ok (.invokevirtual 86, 3) := by decide +kernel
theorem dX8_peak_92 : decode cX8_peak 92 = .ok (.istore 7, 2) := by decide +kernel
theorem dX8_peak_94 : decode cX8_peak 94 = .ok (.iload 7, 2) := by decide +kernel
theorem dX8_peak_96 : decode cX8_peak 96 = .ok (.iload_n 2, 1) := by decide +kernel
theorem dX8_peak_97 : decode cX8_peak 97 = .ok (.if_icmp .gt 6, 3) := by decide +kernel
theorem dX8_peak_100 : decode cX8_peak 100 = .ok (.goto 22, 3) := by decide +kernel
theorem dX8_peak_103 : decode cX8_peak 103 = .ok (.iload 7, 2) := by decide +kernel
theorem dX8_peak_105 : decode cX8_peak 105 = .ok (.istore_n 2, 1) := by decide +kernel
theorem dX8_peak_106 : decode cX8_peak 106 = .ok (.sipush 1000, 3) := by decide +kernel
theorem dX8_peak_109 : decode cX8_peak 109 = .ok (.iload 4, 2) := by decide +kernel
theorem dX8_peak_111 : decode cX8_peak 111 = .ok (.imul, 1) := by decide +kernel
theorem dX8_peak_112 : decode cX8_peak 112 = .ok (.bipush 100, 2) := by decide +kernel
theorem dX8_peak_114 : decode cX8_peak 114 = .ok (.iload 5, 2) := by decide +kernel
theorem dX8_peak_116 : decode cX8_peak 116 = .ok (.imul, 1) := by decide +kernel
theorem dX8_peak_117 : decode cX8_peak 117 = .ok (.iadd, 1) := by decide +kernel
theorem dX8_peak_118 : decode cX8_peak 118 = .ok (.iload 6, 2) := by decide +kernel
theorem dX8_peak_120 : decode cX8_peak 120 = .ok (.iadd, 1) := by decide +kernel
theorem dX8_peak_121 : decode cX8_peak 121 = .ok (.istore_n 3, 1) := by decide +kernel
theorem dX8_peak_122 : decode cX8_peak 122 = .ok (.iinc 6 1, 3) := by decide +kernel
theorem dX8_peak_125 : decode cX8_peak 125 = .ok (.goto (-52), 3) := by decide +kernel
theorem dX8_peak_128 : decode cX8_peak 128 = .ok (.iinc 5 1, 3) := by decide +kernel
theorem dX8_peak_131 : decode cX8_peak 131 = .ok (.goto (-68), 3) := by decide +kernel
theorem dX8_peak_134 : decode cX8_peak 134 = .ok (.iinc 4 1, 3) := by decide +kernel
theorem dX8_peak_137 : decode cX8_peak 137 = .ok (.goto (-88), 3) := by decide +kernel
theorem dX8_peak_140 : decode cX8_peak 140 = .ok (.iload_n 1, 1) := by decide +kernel
theorem dX8_peak_141 : decode cX8_peak 141 = .ok (.ifCond .ne 7, 3) := by decide +kernel
theorem dX8_peak_144 : decode cX8_peak 144 = .ok (.iload_n 2, 1) := by decide +kernel
theorem dX8_peak_145 : decode cX8_peak 145 = .ok (.goto 4, 3) := by decide +kernel
theorem dX8_peak_148 : decode cX8_peak 148 = .ok (.iload_n 3, 1) := by decide +kernel
theorem dX8_peak_149 : decode cX8_peak 149 = .ok (.ireturn, 1) := by decide +kernel
theorem dX8_full_0 : decode cX8_full 0 = .ok (.aload_n 0, 1) := by decide +kernel
theorem dX8_full_1 : decode cX8_full 1 = .ok (.iload_n 1, 1) := by decide +kernel
theorem dX8_full_2 : decode cX8_full 2 = .ok (.invokevirtual 61, 3) := by decide +kernel
theorem dX8_full_5 : decode cX8_full 5 = .ok (.ifCond .ne 6, 3) := by decide +kernel
theorem dX8_full_8 : decode cX8_full 8 = .ok (.bipush (-2), 2) := by decide +kernel
theorem dX8_full_10 : decode cX8_full 10 = .ok (.ireturn, 1) := by decide +kernel
theorem dX8_full_11 : decode cX8_full 11 = .ok (.iconst 0, 1) := by decide +kernel
theorem dX8_full_12 : decode cX8_full 12 = .ok (.istore_n 2, 1) := by decide +kernel
theorem dX8_full_13 : decode cX8_full 13 = .ok (.aload_n 0, 1) := by decide +kernel
theorem dX8_full_14 : decode cX8_full 14 = .ok (.getfield 9, 3) := by decide +kernel
theorem dX8_full_17 : decode cX8_full 17 = .ok (.iconst 4, 1) := by decide +kernel
theorem dX8_full_18 : decode cX8_full 18 = .ok (.iaload, 1) := by decide +kernel
theorem dX8_full_19 : decode cX8_full 19 = .ok (.istore_n 3, 1) := by decide +kernel
theorem dX8_full_20 : decode cX8_full 20 = .ok (.iload_n 3, 1) := by decide +kernel
theorem dX8_full_21 : decode cX8_full 21 = .ok (.aload_n 0, 1) := by decide +kernel
theorem dX8_full_22 : decode cX8_full 22 = .ok (.getfield 9, 3) := by decide +kernel
theorem dX8_full_25 : decode cX8_full 25 = .ok (.iconst 0, 1) := by decide +kernel
theorem dX8_full_26 : decode cX8_full 26 = .ok (.iaload, 1) := by decide +kernel
theorem dX8_full_27 : decode cX8_full 27 = .ok (.if_icmp .ge 58, 3) := by decide +kernel
theorem dX8_full_30 : decode cX8_full 30 = .ok (.iconst 0, 1) := by decide +kernel
theorem dX8_full_31 : decode cX8_full 31 = .ok (.istore 4, 2) := by decide +kernel
theorem dX8_full_33 : decode cX8_full 33 = .ok (.iload 4, 2) := by decide +kernel
theorem dX8_full_35 : decode cX8_full 35 = .ok (.bipush 24, 2) := by decide +kernel
theorem dX8_full_37 : decode cX8_full 37 = .ok (.if_icmp .ge 42, 3) := by decide +kernel
theorem dX8_full_40 : decode cX8_full 40 = .ok (.iload_n 2, 1) := by decide +kernel
theorem dX8_full_41 : decode cX8_full 41 = .ok (.aload_n 0, 1) := by decide +kernel
theorem dX8_full_42 : decode cX8_full 42 = .ok (.iload_n 3, 1) := by decide +kernel
theorem dX8_full_43 : decode cX8_full 43 = .ok (.iload_n 1, 1) := by decide +kernel
theorem dX8_full_44 : decode cX8_full 44 = .ok (.iload 4, 2) := by decide +kernel
theorem dX8_full_46 : decode cX8_full 46 = .ok (.iconst 0, 1) := by decide +kernel
theorem dX8_full_47 : decode cX8_full 47 = .ok (.iconst (-1), 1) := by decide +kernel
theorem dX8_full_48 : decode cX8_full 48 = .ok (.invokevirtual 86, 3) := by decide +kernel
theorem dX8_full_51 : decode cX8_full 51 = .ok (.aload_n 0, 1) := by decide +kernel
theorem dX8_full_52 : decode cX8_full 52 = .ok (.getfield 9, 3) := by decide +kernel
theorem dX8_full_55 : decode cX8_full 55 = .ok (.bipush 6, 2) := by decide +kernel
theorem dX8_full_57 : decode cX8_full 57 = .ok (.iconst 2, 1) := by decide +kernel
theorem dX8_full_58 : decode cX8_full 58 = .ok (.iload 4, 2) := by decide +kernel
theorem dX8_full_60 : decode cX8_full 60 = .ok (.imul, 1) := by decide +kernel
theorem dX8_full_61 : decode cX8_full 61 = .ok (.iadd, 1) := by decide +kernel
theorem dX8_full_62 : decode cX8_full 62 = .ok (.iaload, 1) := by decide +kernel
theorem dX8_full_63 : decode cX8_full 63 = .ok (.if_icmp .lt 7, 3) := by decide +kernel
theorem dX8_full_66 : decode cX8_full 66 = .ok (.iconst 1, 1) := by decide +kernel
theorem dX8_full_67 : decode cX8_full 67 = .ok (.goto 4, 3) := by decide +kernel
theorem dX8_full_70 : decode cX8_full 70 = .ok (.iconst 0, 1) := by decide +kernel
theorem dX8_full_71 : decode cX8_full 71 = .ok (.iadd, 1) := by decide +kernel
theorem dX8_full_72 : decode cX8_full 72 = .ok (.istore_n 2, 1) := by decide +kernel
theorem dX8_full_73 : decode cX8_full 73 = .ok (.iinc 4 1, 3) := by decide +kernel
theorem dX8_full_76 : decode cX8_full 76 = .ok (.goto (-43), 3) := by decide +kernel
theorem dX8_full_79 : decode cX8_full 79 = .ok (.iinc 3 1, 3) := by decide +kernel
theorem dX8_full_82 : decode cX8_full 82 = .ok (.goto (-62), 3) := by decide +kernel
theorem dX8_full_85 : decode cX8_full 85 = .ok (.iload_n 2, 1) := by decide +kernel
theorem dX8_full_86 : decode cX8_full 86 = .ok (.ireturn, 1) := by decide +kernel
theorem dX8_idle_0 : decode cX8_idle 0 = .ok (.aload_n 0, 1) := by decide +kernel
theorem dX8_idle_1 : decode cX8_idle 1 = .ok (.iload_n 1, 1) := by decide +kernel
theorem dX8_idle_2 : decode cX8_idle 2 = .ok (.invokevirtual 61, 3) := by decide +kernel
theorem dX8_idle_5 : decode cX8_idle 5 = .ok (.ifCond .ne 6, 3) := by decide +kernel
theorem dX8_idle_8 : decode cX8_idle 8 = .ok (.bipush (-2), 2) := by decide +kernel
theorem dX8_idle_10 : decode cX8_idle 10 = .ok (.ireturn, 1) := by decide +kernel
theorem dX8_idle_11 : decode cX8_idle 11 = .ok (.iconst 0, 1) := by decide +kernel
theorem dX8_idle_12 : decode cX8_idle 12 = .ok (.istore_n 2, 1) := by decide +kernel
theorem dX8_idle_13 : decode cX8_idle 13 = .ok (.iconst 0, 1) := by decide +kernel
theorem dX8_idle_14 : decode cX8_idle 14 = .ok (.istore_n 3, 1) := by decide +kernel
theorem dX8_idle_15 : decode cX8_idle 15 = .ok (.iload_n 3, 1) := by decide +kernel
theorem dX8_idle_16 : decode cX8_idle 16 = .ok (.bipush 24, 2) := by decide +kernel
theorem dX8_idle_18 : decode cX8_idle 18 = .ok (.if_icmp .ge 77, 3) := by decide +kernel
theorem dX8_idle_21 : decode cX8_idle 21 = .ok (.iconst 1, 1) := by decide +kernel
theorem dX8_idle_22 : decode cX8_idle 22 = .ok (.istore 4, 2) := by decide +kernel
theorem dX8_idle_24 : decode cX8_idle 24 = .ok (.aload_n 0, 1) := by decide +kernel
theorem dX8_idle_25 : decode cX8_idle 25 = .ok (.getfield 9, 3) := by decide +kernel
theorem dX8_idle_28 : decode cX8_idle 28 = .ok (.iconst 4, 1) := by decide +kernel
theorem dX8_idle_29 : decode cX8_idle 29 = .ok (.iaload, 1) := by decide +kernel
theorem dX8_idle_30 : decode cX8_idle 30 = .ok (.istore 5, 2) := by decide +kernel
theorem dX8_idle_32 : decode cX8_idle 32 = .ok (.iload 5, 2) := by decide +kernel
theorem dX8_idle_34 : decode cX8_idle 34 = .ok (.aload_n 0, 1) := by decide +kernel
theorem dX8_idle_35 : decode cX8_idle 35 = .ok (.getfield 9, 3) := by decide +kernel
theorem dX8_idle_38 : decode cX8_idle 38 = .ok (.iconst 0, 1) := by decide +kernel
theorem dX8_idle_39 : decode cX8_idle 39 = .ok (.iaload, 1) := by decide +kernel
theorem dX8_idle_40 : decode cX8_idle 40 = .ok (.if_icmp .ge 34, 3) := by decide +kernel
theorem dX8_idle_43 : decode cX8_idle 43 = .ok (.iload 4, 2) := by decide +kernel
theorem dX8_idle_45 : decode cX8_idle 45 = .ok (.ifCond .eq 29, 3) := by decide +kernel
theorem dX8_idle_48 : decode cX8_idle 48 = .ok (.aload_n 0, 1) := by decide +kernel
theorem dX8_idle_49 : decode cX8_idle 49 = .ok (.iload 5, 2) := by decide +kernel
theorem dX8_idle_51 : decode cX8_idle 51 = .ok (.iload_n 1, 1) := by decide +kernel
theorem dX8_idle_52 : decode cX8_idle 52 = .ok (.iload_n 3, 1) := by decide +kernel
theorem dX8_idle_53 : decode cX8_idle 53 = .ok (.iconst 0, 1) := by decide +kernel
theorem dX8_idle_54 : decode cX8_idle 54 = .ok (.iconst (-1), 1) := by decide +kernel
theorem dX8_idle_55 : decode cX8_idle 55 = .ok (.invokevirtual 86, 3) := by decide +kernel
theorem dX8_idle_58 : decode cX8_idle 58 = .ok (.ifCond .ne 7, 3) := by decide +kernel
theorem dX8_idle_61 : decode cX8_idle 61 = .ok (.iconst 1, 1) := by decide +kernel
theorem dX8_idle_62 : decode cX8_idle 62 = .ok (.goto 4, 3) := by decide +kernel
theorem dX8_idle_65 : decode cX8_idle 65 = .ok (.iconst 0, 1) := by decide +kernel
theorem dX8_idle_66 : decode cX8_idle 66 = .ok (.istore 4, 2) := by decide +kernel
theorem dX8_idle_68 : decode cX8_idle 68 = .ok (.iinc 5 1, 3) := by decide +kernel
theorem dX8_idle_71 : decode cX8_idle 71 = .ok (.goto (-39), 3) := by decide +kernel
theorem dX8_idle_74 : decode cX8_idle 74 = .ok (.iload_n 2, 1) := by decide +kernel
theorem dX8_idle_75 : decode cX8_idle 75 = .ok (.iload 4, 2) := by decide +kernel
theorem dX8_idle_77 : decode cX8_idle 77 = .ok (.ifCond .eq 9, 3) := by decide +kernel
theorem dX8_idle_80 : decode cX8_idle 80 = .ok (.iconst 1, 1) := by decide +kernel
theorem dX8_idle_81 : decode cX8_idle 81 = .ok (.iload_n 3, 1) := by decide +kernel
theorem dX8_idle_82 : decode cX8_idle 82 = .ok (.ishl, 1) := by decide +kernel
theorem dX8_idle_83 : decode cX8_idle 83 = .ok (.goto 4, 3) := by decide +kernel
theorem dX8_idle_86 : decode cX8_idle 86 = .ok (.iconst 0, 1) := by decide +kernel
theorem dX8_idle_87 : decode cX8_idle 87 = .ok (.ior, 1) := by decide +kernel
theorem dX8_idle_88 : decode cX8_idle 88 = .ok (.istore_n 2, 1) := by decide +kernel
theorem dX8_idle_89 : decode cX8_idle 89 = .ok (.iinc 3 1, 3) := by decide +kernel
theorem dX8_idle_92 : decode cX8_idle 92 = .ok (.goto (-77), 3) := by decide +kernel
theorem dX8_idle_95 : decode cX8_idle 95 = .ok (.iload_n 2, 1) := by decide +kernel
theorem dX8_idle_96 : decode cX8_idle 96 = .ok (.ireturn, 1) := by decide +kernel
theorem dX8_fitting_0 : decode cX8_fitting 0 = .ok (.aload_n 0, 1) := by decide +kernel
theorem dX8_fitting_1 : decode cX8_fitting 1 = .ok (.iload_n 1, 1) := by decide +kernel
theorem dX8_fitting_2 : decode cX8_fitting 2 = .ok (.invokevirtual 61, 3) := by decide +kernel
theorem dX8_fitting_5 : decode cX8_fitting 5 = .ok (.ifCond .eq 36, 3) := by decide +kernel
theorem dX8_fitting_8 : decode cX8_fitting 8 = .ok (.iload_n 2, 1) := by decide +kernel
theorem dX8_fitting_9 : decode cX8_fitting 9 = .ok (.i2l, 1) := by decide +kernel
theorem dX8_fitting_10 : decode cX8_fitting 10 = .ok (.lconst 0, 1) := by decide +kernel
theorem dX8_fitting_11 : decode cX8_fitting 11 = .ok (.lconst 1, 1) := by decide +kernel
theorem dX8_fitting_12 : decode cX8_fitting 12 = .ok (.invokestatic 45, 3) := by decide +kernel
theorem dX8_fitting_15 : decode cX8_fitting 15 = .ok (.ifCond .eq 26, 3) := by decide +kernel
theorem dX8_fitting_18 : decode cX8_fitting 18 = .ok (.aload_n 0, 1) := by decide +kernel
theorem dX8_fitting_19 : decode cX8_fitting 19 = .ok (.iload_n 3, 1) := by decide +kernel
theorem dX8_fitting_20 : decode cX8_fitting 20 = .ok (.invokevirtual 57, 3) := by decide +kernel
theorem dX8_fitting_23 : decode cX8_fitting 23 = .ok (.ifCond .eq 18, 3) := by decide +kernel
theorem dX8_fitting_26 : decode cX8_fitting 26 = .ok (.aload_n 0, 1) := by decide +kernel
theorem dX8_fitting_27 : decode cX8_fitting 27 = .ok (.iload 4, 2) := by decide +kernel
theorem dX8_fitting_29 : decode cX8_fitting 29 = .ok (.invokevirtual 57, 3) := by decide +kernel
theorem dX8_fitting_32 : decode cX8_fitting 32 = .ok (.ifCond .eq 9, 3) := by decide +kernel
theorem dX8_fitting_35 : decode cX8_fitting 35 = .ok (.iload 4, 2) := by decide +kernel
theorem dX8_fitting_37 : decode cX8_fitting 37 = .ok (.iload_n 3, 1) := by decide +kernel
theorem dX8_fitting_38 : decode cX8_fitting 38 = .ok (.if_icmp .ge 6, 3) := by decide +kernel
theorem dX8_fitting_41 : decode cX8_fitting 41 = .ok (.bipush (-2), 2) := by decide +kernel
theorem dX8_fitting_43 : decode cX8_fitting 43 = .ok (.ireturn, 1) := by decide +kernel
theorem dX8_fitting_44 : decode cX8_fitting 44 = .ok (.iconst 0, 1) := by decide +kernel
theorem dX8_fitting_45 : decode cX8_fitting 45 = .ok (.istore 5, 2) := by decide +kernel
theorem dX8_fitting_47 : decode cX8_fitting 47 = .ok (.iconst 0, 1) := by decide +kernel
theorem dX8_fitting_48 : decode cX8_fitting 48 = .ok (.istore 6, 2) := by decide +kernel
theorem dX8_fitting_50 : decode cX8_fitting 50 = .ok (.iload 6, 2) := by decide +kernel
theorem dX8_fitting_52 : decode cX8_fitting 52 = .ok (.bipush 24, 2) := by decide +kernel
theorem dX8_fitting_54 : decode cX8_fitting 54 = .ok (.if_icmp .ge 40, 3) := by decide +kernel
theorem dX8_fitting_57 : decode cX8_fitting 57 = .ok (.iload 5, 2) := by decide +kernel
theorem dX8_fitting_59 : decode cX8_fitting 59 = .ok (.aload_n 0, 1) := by decide +kernel
theorem dX8_fitting_60 : decode cX8_fitting 60 = .ok (.iload_n 3, 1) := by decide +kernel
theorem dX8_fitting_61 : decode cX8_fitting 61 = .ok (.iload 4, 2) := by decide +kernel
theorem dX8_fitting_63 : decode cX8_fitting 63 = .ok (.invokestatic 79, 3) := by decide +kernel
theorem dX8_fitting_66 : decode cX8_fitting 66 = .ok (.iload_n 1, 1) := by decide +kernel
theorem dX8_fitting_67 : decode cX8_fitting 67 = .ok (.iload 6, 2) := by decide +kernel
theorem dX8_fitting_69 : decode cX8_fitting 69 = .ok (.iload_n 2, 1) := by decide +kernel
theorem dX8_fitting_70 : decode cX8_fitting 70 = .ok (.iconst (-1), 1) := by decide +kernel
theorem dX8_fitting_71 : decode cX8_fitting 71 = .ok (.invokevirtual 90, 3) := by decide +kernel
theorem dX8_fitting_74 : decode cX8_fitting 74 = .ok (.ifCond .eq 10, 3) := by decide +kernel
theorem dX8_fitting_77 : decode cX8_fitting 77 = .ok (.iconst 1, 1) := by decide +kernel
theorem dX8_fitting_78 : decode cX8_fitting 78 = .ok (.iload 6, 2) := by decide +kernel
theorem dX8_fitting_80 : decode cX8_fitting 80 = .ok (.ishl, 1) := by decide +kernel
theorem dX8_fitting_81 : decode cX8_fitting 81 = .ok (.goto 4, 3) := by decide +kernel
theorem dX8_fitting_84 : decode cX8_fitting 84 = .ok (.iconst 0, 1) := by decide +kernel
theorem dX8_fitting_85 : decode cX8_fitting 85 = .ok (.ior, 1) := by decide +kernel
theorem dX8_fitting_86 : decode cX8_fitting 86 = .ok (.istore 5, 2) := by decide +kernel
theorem dX8_fitting_88 : decode cX8_fitting 88 = .ok (.iinc 6 1, 3) := by decide +kernel
theorem dX8_fitting_91 : decode cX8_fitting 91 = .ok (.goto (-41), 3) := by decide +kernel
theorem dX8_fitting_94 : decode cX8_fitting 94 = .ok (.iload 5, 2) := by decide +kernel
theorem dX8_fitting_96 : decode cX8_fitting 96 = .ok (.ireturn, 1) := by decide +kernel
theorem dX8_weeksOf_0 : decode cX8_weeksOf 0 = .ok (.aload_n 0, 1) := by decide +kernel
theorem dX8_weeksOf_1 : decode cX8_weeksOf 1 = .ok (.iload_n 1, 1) := by decide +kernel
theorem dX8_weeksOf_2 : decode cX8_weeksOf 2 = .ok (.iconst 4, 1) := by decide +kernel
theorem dX8_weeksOf_3 : decode cX8_weeksOf 3 = .ok (.invokevirtual 284, 3) := by decide +kernel
theorem dX8_weeksOf_6 : decode cX8_weeksOf 6 = .ok (.aload_n 0, 1) := by decide +kernel
theorem dX8_weeksOf_7 : decode cX8_weeksOf 7 = .ok (.iload_n 1, 1) := by decide +kernel
theorem dX8_weeksOf_8 : decode cX8_weeksOf 8 = .ok (.iconst 5, 1) := by decide +kernel
theorem dX8_weeksOf_9 : decode cX8_weeksOf 9 = .ok (.invokevirtual 284, 3) := by decide +kernel
theorem dX8_weeksOf_12 : decode cX8_weeksOf 12 = .ok (.invokestatic 79, 3) := by decide +kernel
theorem dX8_weeksOf_15 : decode cX8_weeksOf 15 = .ok (.aload_n 0, 1) := by decide +kernel
theorem dX8_weeksOf_16 : decode cX8_weeksOf 16 = .ok (.invokevirtual 82, 3) := by decide +kernel
theorem dX8_weeksOf_19 : decode cX8_weeksOf 19 = .ok (.iand, 1) := by decide +kernel
theorem dX8_weeksOf_20 : decode cX8_weeksOf 20 = .ok (.ireturn, 1) := by decide +kernel
theorem dX8_canAsk_0 : decode cX8_canAsk 0 = .ok (.aload_n 0, 1) := by decide +kernel
theorem dX8_canAsk_1 : decode cX8_canAsk 1 = .ok (.aload_n 0, 1) := by decide +kernel
theorem dX8_canAsk_2 : decode cX8_canAsk 2 = .ok (.iload_n 1, 1) := by decide +kernel
theorem dX8_canAsk_3 : decode cX8_canAsk 3 = .ok (.invokevirtual 326, 3) := by decide +kernel
theorem dX8_canAsk_6 : decode cX8_canAsk 6 = .ok (.aload_n 0, 1) := by decide +kernel
theorem dX8_canAsk_7 : decode cX8_canAsk 7 = .ok (.iload_n 1, 1) := by decide +kernel
theorem dX8_canAsk_8 : decode cX8_canAsk 8 = .ok (.iconst 1, 1) := by decide +kernel
theorem dX8_canAsk_9 : decode cX8_canAsk 9 = .ok (.invokevirtual 284, 3) := by decide +kernel
theorem dX8_canAsk_12 : decode cX8_canAsk 12 = .ok (.iload_n 2, 1) := by decide +kernel
theorem dX8_canAsk_13 : decode cX8_canAsk 13 = .ok (.aload_n 0, 1) := by decide +kernel
theorem dX8_canAsk_14 : decode cX8_canAsk 14 = .ok (.iload_n 1, 1) := by decide +kernel
theorem dX8_canAsk_15 : decode cX8_canAsk 15 = .ok (.iconst 3, 1) := by decide +kernel
theorem dX8_canAsk_16 : decode cX8_canAsk 16 = .ok (.invokevirtual 284, 3) := by decide +kernel
theorem dX8_canAsk_19 : decode cX8_canAsk 19 = .ok (.iload_n 3, 1) := by decide +kernel
theorem dX8_canAsk_20 : decode cX8_canAsk 20 = .ok (.invokevirtual 90, 3) := by decide +kernel
theorem dX8_canAsk_23 : decode cX8_canAsk 23 = .ok (.ireturn, 1) := by decide +kernel
theorem dX8_fits_0 : decode cX8_fits 0 = .ok (.aload_n 0, 1) := by decide +kernel
theorem dX8_fits_1 : decode cX8_fits 1 = .ok (.iload_n 1, 1) := by decide +kernel
theorem dX8_fits_2 : decode cX8_fits 2 = .ok (.invokevirtual 281, 3) := by decide +kernel
theorem dX8_fits_5 : decode cX8_fits 5 = .ok (.ifCond .ne 6, 3) := by decide +kernel
theorem dX8_fits_8 : decode cX8_fits 8 = .ok (.bipush (-2), 2) := by decide +kernel
theorem dX8_fits_10 : decode cX8_fits 10 = .ok (.ireturn, 1) := by decide +kernel
theorem dX8_fits_11 : decode cX8_fits 11 = .ok (.aload_n 0, 1) := by decide +kernel
theorem dX8_fits_12 : decode cX8_fits 12 = .ok (.iload_n 1, 1) := by decide +kernel
theorem dX8_fits_13 : decode cX8_fits 13 = .ok (.invokevirtual 326, 3) := by decide +kernel
theorem dX8_fits_16 : decode cX8_fits 16 = .ok (.ifCond .ne 7, 3) := by decide +kernel
theorem dX8_fits_19 : decode cX8_fits 19 = .ok (.iconst (-1), 1) := by decide +kernel
theorem dX8_fits_20 : decode cX8_fits 20 = .ok (.goto 23, 3) := by decide +kernel
theorem dX8_fits_23 : decode cX8_fits 23 = .ok (.aload_n 0, 1) := by decide +kernel
theorem dX8_fits_24 : decode cX8_fits 24 = .ok (.iload_n 1, 1) := by decide +kernel
theorem dX8_fits_25 : decode cX8_fits 25 = .ok (.aload_n 0, 1) := by decide +kernel
theorem dX8_fits_26 : decode cX8_fits 26 = .ok (.iload_n 1, 1) := by decide +kernel
theorem dX8_fits_27 : decode cX8_fits 27 = .ok (.iconst 2, 1) := by decide +kernel
theorem dX8_fits_28 : decode cX8_fits 28 = .ok (.invokevirtual 284, 3) := by decide +kernel
theorem dX8_fits_31 : decode cX8_fits 31 = .ok (.iconst (-1), 1) := by decide +kernel
theorem dX8_fits_32 : decode cX8_fits 32 = .ok (.invokevirtual 329, 3) := by decide +kernel
theorem dX8_fits_35 : decode cX8_fits 35 = .ok (.ifCond .eq 7, 3) := by decide +kernel
theorem dX8_fits_38 : decode cX8_fits 38 = .ok (.iconst 1, 1) := by decide +kernel
theorem dX8_fits_39 : decode cX8_fits 39 = .ok (.goto 4, 3) := by decide +kernel
theorem dX8_fits_42 : decode cX8_fits 42 = .ok (.iconst 0, 1) := by decide +kernel
theorem dX8_fits_43 : decode cX8_fits 43 = .ok (.ireturn, 1) := by decide +kernel
theorem dX8_hourFor_0 : decode cX8_hourFor 0 = .ok (.aload_n 0, 1) := by decide +kernel
theorem dX8_hourFor_1 : decode cX8_hourFor 1 = .ok (.iload_n 1, 1) := by decide +kernel
theorem dX8_hourFor_2 : decode cX8_hourFor 2 = .ok (.invokevirtual 326, 3) := by decide +kernel
theorem dX8_hourFor_5 : decode cX8_hourFor 5 = .ok (.ifCond .eq 14, 3) := by decide +kernel
theorem dX8_hourFor_8 : decode cX8_hourFor 8 = .ok (.aload_n 0, 1) := by decide +kernel
theorem dX8_hourFor_9 : decode cX8_hourFor 9 = .ok (.getfield 16, 3) := by decide +kernel
theorem dX8_hourFor_12 : decode cX8_hourFor 12 = .ok (.iconst 2, 1) := by decide +kernel
theorem dX8_hourFor_13 : decode cX8_hourFor 13 = .ok (.iaload, 1) := by decide +kernel
theorem dX8_hourFor_14 : decode cX8_hourFor 14 = .ok (.bipush 24, 2) := by decide +kernel
theorem dX8_hourFor_16 : decode cX8_hourFor 16 = .ok (.if_icmp .ne 5, 3) := by decide +kernel
theorem dX8_hourFor_19 : decode cX8_hourFor 19 = .ok (.iconst (-1), 1) := by decide +kernel
theorem dX8_hourFor_20 : decode cX8_hourFor 20 = .ok (.ireturn, 1) := by decide +kernel
theorem dX8_hourFor_21 : decode cX8_hourFor 21 = .ok (.aload_n 0, 1) := by decide +kernel
theorem dX8_hourFor_22 : decode cX8_hourFor 22 = .ok (.iload_n 1, 1) := by decide +kernel
theorem dX8_hourFor_23 : decode cX8_hourFor 23 = .ok (.iconst 2, 1) := by decide +kernel
theorem dX8_hourFor_24 : decode cX8_hourFor 24 = .ok (.invokevirtual 284, 3) := by decide +kernel
theorem dX8_hourFor_27 : decode cX8_hourFor 27 = .ok (.istore_n 2, 1) := by decide +kernel
theorem dX8_hourFor_28 : decode cX8_hourFor 28 = .ok (.iconst 0, 1) := by decide +kernel
theorem dX8_hourFor_29 : decode cX8_hourFor 29 = .ok (.istore_n 3, 1) := by decide +kernel
theorem dX8_hourFor_30 : decode cX8_hourFor 30 = .ok (.iload_n 3, 1) := by decide +kernel
theorem dX8_hourFor_31 : decode cX8_hourFor 31 = .ok (.aload_n 0, 1) := by decide +kernel
theorem dX8_hourFor_32 : decode cX8_hourFor 32 = .ok (.iload_n 1, 1) := by decide +kernel
theorem dX8_hourFor_33 : decode cX8_hourFor 33 = .ok (.bipush 6, 2) := by decide +kernel
theorem dX8_hourFor_35 : decode cX8_hourFor 35 = .ok (.invokevirtual 284, 3) := by decide +kernel
theorem dX8_hourFor_38 : decode cX8_hourFor 38 = .ok (.if_icmp .gt 54, 3) := by decide +kernel
theorem dX8_hourFor_41 : decode cX8_hourFor 41 = .ok (.iload_n 2, 1) := by decide +kernel
theorem dX8_hourFor_42 : decode cX8_hourFor 42 = .ok (.iload_n 3, 1) := by decide +kernel
theorem dX8_hourFor_43 : decode cX8_hourFor 43 = .ok (.if_icmp .lt 19, 3) := by decide +kernel
theorem dX8_hourFor_46 : decode cX8_hourFor 46 = .ok (.aload_n 0, 1) := by decide +kernel
theorem dX8_hourFor_47 : decode cX8_hourFor 47 = .ok (.iload_n 1, 1) := by decide +kernel
theorem dX8_hourFor_48 : decode cX8_hourFor 48 = .ok (.iload_n 2, 1) := by decide +kernel
theorem dX8_hourFor_49 : decode cX8_hourFor 49 = .ok (.iload_n 3, 1) := by decide +kernel
theorem dX8_hourFor_50 : decode cX8_hourFor 50 = .ok (.isub, 1) := by decide +kernel
theorem dX8_hourFor_51 : decode cX8_hourFor 51 = .ok (.iconst (-1), 1) := by decide +kernel
theorem dX8_hourFor_52 : decode cX8_hourFor 52 = .ok (.invokevirtual 329, 3) := by decide +kernel
theorem dX8_hourFor_55 : decode cX8_hourFor 55 = .ok (.ifCond .eq 7, 3) := by decide +kernel
theorem dX8_hourFor_58 : decode cX8_hourFor 58 = .ok (.iload_n 2, 1) := by decide +kernel
theorem dX8_hourFor_59 : decode cX8_hourFor 59 = .ok (.iload_n 3, 1) := by decide +kernel
theorem dX8_hourFor_60 : decode cX8_hourFor 60 = .ok (.isub, 1) := by decide +kernel
theorem dX8_hourFor_61 : decode cX8_hourFor 61 = .ok (.ireturn, 1) := by decide +kernel
theorem dX8_hourFor_62 : decode cX8_hourFor 62 = .ok (.iload_n 2, 1) := by decide +kernel
theorem dX8_hourFor_63 : decode cX8_hourFor 63 = .ok (.iload_n 3, 1) := by decide +kernel
theorem dX8_hourFor_64 : decode cX8_hourFor 64 = .ok (.iadd, 1) := by decide +kernel
theorem dX8_hourFor_65 : decode cX8_hourFor 65 = .ok (.bipush 24, 2) := by decide +kernel
theorem dX8_hourFor_67 : decode cX8_hourFor 67 = .ok (.if_icmp .ge 19, 3) := by decide +kernel
theorem dX8_hourFor_70 : decode cX8_hourFor 70 = .ok (.aload_n 0, 1) := by decide +kernel
theorem dX8_hourFor_71 : decode cX8_hourFor 71 = .ok (.iload_n 1, 1) := by decide +kernel
theorem dX8_hourFor_72 : decode cX8_hourFor 72 = .ok (.iload_n 2, 1) := by decide +kernel
theorem dX8_hourFor_73 : decode cX8_hourFor 73 = .ok (.iload_n 3, 1) := by decide +kernel
theorem dX8_hourFor_74 : decode cX8_hourFor 74 = .ok (.iadd, 1) := by decide +kernel
theorem dX8_hourFor_75 : decode cX8_hourFor 75 = .ok (.iconst (-1), 1) := by decide +kernel
theorem dX8_hourFor_76 : decode cX8_hourFor 76 = .ok (.invokevirtual 329, 3) := by decide +kernel
theorem dX8_hourFor_79 : decode cX8_hourFor 79 = .ok (.ifCond .eq 7, 3) := by decide +kernel
theorem dX8_hourFor_82 : decode cX8_hourFor 82 = .ok (.iload_n 2, 1) := by decide +kernel
theorem dX8_hourFor_83 : decode cX8_hourFor 83 = .ok (.iload_n 3, 1) := by decide +kernel
theorem dX8_hourFor_84 : decode cX8_hourFor 84 = .ok (.iadd, 1) := by decide +kernel
theorem dX8_hourFor_85 : decode cX8_hourFor 85 = .ok (.ireturn, 1) := by decide +kernel
theorem dX8_hourFor_86 : decode cX8_hourFor 86 = .ok (.iinc 3 1, 3) := by decide +kernel
theorem dX8_hourFor_89 : decode cX8_hourFor 89 = .ok (.goto (-59), 3) := by decide +kernel
theorem dX8_hourFor_92 : decode cX8_hourFor 92 = .ok (.iconst (-1), 1) := by decide +kernel
theorem dX8_hourFor_93 : decode cX8_hourFor 93 = .ok (.ireturn, 1) := by decide +kernel
theorem dX8_where_0 : decode cX8_where 0 = .ok (.aload_n 0, 1) := by decide +kernel
theorem dX8_where_1 : decode cX8_where 1 = .ok (.iload_n 1, 1) := by decide +kernel
theorem dX8_where_2 : decode cX8_where 2 = .ok (.invokevirtual 281, 3) := by decide +kernel
theorem dX8_where_5 : decode cX8_where 5 = .ok (.ifCond .eq 11, 3) := by decide +kernel
theorem dX8_where_8 : decode cX8_where 8 = .ok (.aload_n 0, 1) := by decide +kernel
theorem dX8_where_9 : decode cX8_where 9 = .ok (.iload_n 1, 1) := by decide +kernel
theorem dX8_where_10 : decode cX8_where 10 = .ok (.invokevirtual 332, 3) := by decide +kernel
theorem dX8_where_13 : decode cX8_where 13 = .ok (.goto 5, 3) := by decide +kernel
theorem dX8_where_16 : decode cX8_where 16 = .ok (.bipush (-2), 2) := by decide +kernel
theorem dX8_where_18 : decode cX8_where 18 = .ok (.ireturn, 1) := by decide +kernel
theorem dX8_blocked_0 : decode cX8_blocked 0 = .ok (.aload_n 0, 1) := by decide +kernel
theorem dX8_blocked_1 : decode cX8_blocked 1 = .ok (.iload_n 1, 1) := by decide +kernel
theorem dX8_blocked_2 : decode cX8_blocked 2 = .ok (.invokevirtual 281, 3) := by decide +kernel
theorem dX8_blocked_5 : decode cX8_blocked 5 = .ok (.ifCond .ne 6, 3) := by decide +kernel
theorem dX8_blocked_8 : decode cX8_blocked 8 = .ok (.bipush (-2), 2) := by decide +kernel
theorem dX8_blocked_10 : decode cX8_blocked 10 = .ok (.ireturn, 1) := by decide +kernel
theorem dX8_blocked_11 : decode cX8_blocked 11 = .ok (.aload_n 0, 1) := by decide +kernel
theorem dX8_blocked_12 : decode cX8_blocked 12 = .ok (.iload_n 1, 1) := by decide +kernel
theorem dX8_blocked_13 : decode cX8_blocked 13 = .ok (.invokevirtual 326, 3) := by decide +kernel
theorem dX8_blocked_16 : decode cX8_blocked 16 = .ok (.ifCond .eq 18, 3) := by decide +kernel
theorem dX8_blocked_19 : decode cX8_blocked 19 = .ok (.aload_n 0, 1) := by decide +kernel
theorem dX8_blocked_20 : decode cX8_blocked 20 = .ok (.iload_n 1, 1) := by decide +kernel
theorem dX8_blocked_21 : decode cX8_blocked 21 = .ok (.aload_n 0, 1) := by decide +kernel
theorem dX8_blocked_22 : decode cX8_blocked 22 = .ok (.iload_n 1, 1) := by decide +kernel
theorem dX8_blocked_23 : decode cX8_blocked 23 = .ok (.iconst 2, 1) := by decide +kernel
theorem dX8_blocked_24 : decode cX8_blocked 24 = .ok (.invokevirtual 284, 3) := by decide +kernel
theorem dX8_blocked_27 : decode cX8_blocked 27 = .ok (.iconst (-1), 1) := by decide +kernel
theorem dX8_blocked_28 : decode cX8_blocked 28 = .ok (.invokevirtual 329, 3) := by decide +kernel
theorem dX8_blocked_31 : decode cX8_blocked 31 = .ok (.ifCond .eq 5, 3) := by decide +kernel
theorem dX8_blocked_34 : decode cX8_blocked 34 = .ok (.iconst 0, 1) := by decide +kernel
theorem dX8_blocked_35 : decode cX8_blocked 35 = .ok (.ireturn, 1) := by decide +kernel
theorem dX8_blocked_36 : decode cX8_blocked 36 = .ok (.iconst 0, 1) := by decide +kernel
theorem dX8_blocked_37 : decode cX8_blocked 37 = .ok (.istore_n 2, 1) := by decide +kernel
theorem dX8_blocked_38 : decode cX8_blocked 38 = .ok (.iconst 0, 1) := by decide +kernel
theorem dX8_blocked_39 : decode cX8_blocked 39 = .ok (.istore_n 3, 1) := by decide +kernel
theorem dX8_blocked_40 : decode cX8_blocked 40 = .ok (.iload_n 3, 1) := by decide +kernel
theorem dX8_blocked_41 : decode cX8_blocked 41 = .ok (.aload_n 0, 1) := by decide +kernel
theorem dX8_blocked_42 : decode cX8_blocked 42 = .ok (.getfield 9, 3) := by decide +kernel
theorem dX8_blocked_45 : decode cX8_blocked 45 = .ok (.iconst 2, 1) := by decide +kernel
theorem dX8_blocked_46 : decode cX8_blocked 46 = .ok (.iaload, 1) := by decide +kernel
theorem dX8_blocked_47 : decode cX8_blocked 47 = .ok (.if_icmp .ge 34, 3) := by decide +kernel
theorem dX8_blocked_50 : decode cX8_blocked 50 = .ok (.iload_n 2, 1) := by decide +kernel
theorem dX8_blocked_51 : decode cX8_blocked 51 = .ok (.aload_n 0, 1) := by decide +kernel
theorem dX8_blocked_52 : decode cX8_blocked 52 = .ok (.iload_n 1, 1) := by decide +kernel
theorem dX8_blocked_53 : decode cX8_blocked 53 = .ok (.aload_n 0, 1) := by decide +kernel
theorem dX8_blocked_54 : decode cX8_blocked 54 = .ok (.iload_n 1, 1) := by decide +kernel
theorem dX8_blocked_55 : decode cX8_blocked 55 = .ok (.iconst 2, 1) := by decide +kernel
theorem dX8_blocked_56 : decode cX8_blocked 56 = .ok (.invokevirtual 284, 3) := by decide +kernel
theorem dX8_blocked_59 : decode cX8_blocked 59 = .ok (.iload_n 3, 1) := by decide +kernel
theorem dX8_blocked_60 : decode cX8_blocked 60 = .ok (.invokevirtual 329, 3) := by decide +kernel
theorem dX8_blocked_63 : decode cX8_blocked 63 = .ok (.ifCond .eq 9, 3) := by decide +kernel
theorem dX8_blocked_66 : decode cX8_blocked 66 = .ok (.iconst 1, 1) := by decide +kernel
theorem dX8_blocked_67 : decode cX8_blocked 67 = .ok (.iload_n 3, 1) := by decide +kernel
theorem dX8_blocked_68 : decode cX8_blocked 68 = .ok (.ishl, 1) := by decide +kernel
theorem dX8_blocked_69 : decode cX8_blocked 69 = .ok (.goto 4, 3) := by decide +kernel
theorem dX8_blocked_72 : decode cX8_blocked 72 = .ok (.iconst 0, 1) := by decide +kernel
theorem dX8_blocked_73 : decode cX8_blocked 73 = .ok (.ior, 1) := by decide +kernel
theorem dX8_blocked_74 : decode cX8_blocked 74 = .ok (.istore_n 2, 1) := by decide +kernel
theorem dX8_blocked_75 : decode cX8_blocked 75 = .ok (.iinc 3 1, 3) := by decide +kernel
theorem dX8_blocked_78 : decode cX8_blocked 78 = .ok (.goto (-38), 3) := by decide +kernel
theorem dX8_blocked_81 : decode cX8_blocked 81 = .ok (.iload_n 2, 1) := by decide +kernel
theorem dX8_blocked_82 : decode cX8_blocked 82 = .ok (.ireturn, 1) := by decide +kernel
theorem dX8_clash_0 : decode cX8_clash 0 = .ok (.aload_n 0, 1) := by decide +kernel
theorem dX8_clash_1 : decode cX8_clash 1 = .ok (.iload_n 1, 1) := by decide +kernel
theorem dX8_clash_2 : decode cX8_clash 2 = .ok (.invokevirtual 281, 3) := by decide +kernel
theorem dX8_clash_5 : decode cX8_clash 5 = .ok (.ifCond .eq 11, 3) := by decide +kernel
theorem dX8_clash_8 : decode cX8_clash 8 = .ok (.aload_n 0, 1) := by decide +kernel
theorem dX8_clash_9 : decode cX8_clash 9 = .ok (.iload_n 2, 1) := by decide +kernel
theorem dX8_clash_10 : decode cX8_clash 10 = .ok (.invokevirtual 281, 3) := by decide +kernel
theorem dX8_clash_13 : decode cX8_clash 13 = .ok (.ifCond .ne 6, 3) := by decide +kernel
theorem dX8_clash_16 : decode cX8_clash 16 = .ok (.bipush (-2), 2) := by decide +kernel
theorem dX8_clash_18 : decode cX8_clash 18 = .ok (.ireturn, 1) := by decide +kernel
theorem dX8_clash_19 : decode cX8_clash 19 = .ok (.aload_n 0, 1) := by decide +kernel
theorem dX8_clash_20 : decode cX8_clash 20 = .ok (.iload_n 1, 1) := by decide +kernel
theorem dX8_clash_21 : decode cX8_clash 21 = .ok (.iconst 1, 1) := by decide +kernel
theorem dX8_clash_22 : decode cX8_clash 22 = .ok (.invokevirtual 284, 3) := by decide +kernel
theorem dX8_clash_25 : decode cX8_clash 25 = .ok (.aload_n 0, 1) := by decide +kernel
theorem dX8_clash_26 : decode cX8_clash 26 = .ok (.iload_n 2, 1) := by decide +kernel
theorem dX8_clash_27 : decode cX8_clash 27 = .ok (.iconst 1, 1) := by decide +kernel
theorem dX8_clash_28 : decode cX8_clash 28 = .ok (.invokevirtual 284, 3) := by decide +kernel
theorem dX8_clash_31 : decode cX8_clash 31 = .ok (.if_icmp .ne 22, 3) := by decide +kernel
theorem dX8_clash_34 : decode cX8_clash 34 = .ok (.aload_n 0, 1) := by decide +kernel
theorem dX8_clash_35 : decode cX8_clash 35 = .ok (.iload_n 1, 1) := by decide +kernel
theorem dX8_clash_36 : decode cX8_clash 36 = .ok (.iconst 2, 1) := by decide +kernel
theorem dX8_clash_37 : decode cX8_clash 37 = .ok (.invokevirtual 284, 3) := by decide +kernel
theorem dX8_clash_40 : decode cX8_clash 40 = .ok (.aload_n 0, 1) := by decide +kernel
theorem dX8_clash_41 : decode cX8_clash 41 = .ok (.iload_n 2, 1) := by decide +kernel
theorem dX8_clash_42 : decode cX8_clash 42 = .ok (.iconst 2, 1) := by decide +kernel
theorem dX8_clash_43 : decode cX8_clash 43 = .ok (.invokevirtual 284, 3) := by decide +kernel
theorem dX8_clash_46 : decode cX8_clash 46 = .ok (.if_icmp .ne 7, 3) := by decide +kernel
theorem dX8_clash_49 : decode cX8_clash 49 = .ok (.iconst 1, 1) := by decide +kernel
theorem dX8_clash_50 : decode cX8_clash 50 = .ok (.goto 4, 3) := by decide +kernel
theorem dX8_clash_53 : decode cX8_clash 53 = .ok (.iconst 0, 1) := by decide +kernel
theorem dX8_clash_54 : decode cX8_clash 54 = .ok (.istore_n 3, 1) := by decide +kernel
theorem dX8_clash_55 : decode cX8_clash 55 = .ok (.iload_n 3, 1) := by decide +kernel
theorem dX8_clash_56 : decode cX8_clash 56 = .ok (.ifCond .eq 40, 3) := by decide +kernel
theorem dX8_clash_59 : decode cX8_clash 59 = .ok (.aload_n 0, 1) := by decide +kernel
theorem dX8_clash_60 : decode cX8_clash 60 = .ok (.iload_n 1, 1) := by decide +kernel
theorem dX8_clash_61 : decode cX8_clash 61 = .ok (.iconst 4, 1) := by decide +kernel
theorem dX8_clash_62 : decode cX8_clash 62 = .ok (.invokevirtual 284, 3) := by decide +kernel
theorem dX8_clash_65 : decode cX8_clash 65 = .ok (.aload_n 0, 1) := by decide +kernel
theorem dX8_clash_66 : decode cX8_clash 66 = .ok (.iload_n 1, 1) := by decide +kernel
theorem dX8_clash_67 : decode cX8_clash 67 = .ok (.iconst 5, 1) := by decide +kernel
theorem dX8_clash_68 : decode cX8_clash 68 = .ok (.invokevirtual 284, 3) := by decide +kernel
theorem dX8_clash_71 : decode cX8_clash 71 = .ok (.invokestatic 79, 3) := by decide +kernel
theorem dX8_clash_74 : decode cX8_clash 74 = .ok (.aload_n 0, 1) := by decide +kernel
theorem dX8_clash_75 : decode cX8_clash 75 = .ok (.iload_n 2, 1) := by decide +kernel
theorem dX8_clash_76 : decode cX8_clash 76 = .ok (.iconst 4, 1) := by decide +kernel
theorem dX8_clash_77 : decode cX8_clash 77 = .ok (.invokevirtual 284, 3) := by decide +kernel
theorem dX8_clash_80 : decode cX8_clash 80 = .ok (.aload_n 0, 1) := by decide +kernel
theorem dX8_clash_81 : decode cX8_clash 81 = .ok (.iload_n 2, 1) := by decide +kernel
theorem dX8_clash_82 : decode cX8_clash 82 = .ok (.iconst 5, 1) := by decide +kernel
theorem dX8_clash_83 : decode cX8_clash 83 = .ok (.invokevirtual 284, 3) := by decide +kernel
theorem dX8_clash_86 : decode cX8_clash 86 = .ok (.invokestatic 79, 3) := by decide +kernel
theorem dX8_clash_89 : decode cX8_clash 89 = .ok (.iand, 1) := by decide +kernel
theorem dX8_clash_90 : decode cX8_clash 90 = .ok (.invokestatic 296, 3) := by decide +kernel
theorem dX8_clash_93 : decode cX8_clash 93 = .ok (.goto 4, 3) := by decide +kernel
theorem dX8_clash_96 : decode cX8_clash 96 = .ok (.iconst 0, 1) := by decide +kernel
theorem dX8_clash_97 : decode cX8_clash 97 = .ok (.ireturn, 1) := by decide +kernel
theorem dX8_common_0 : decode cX8_common 0 = .ok (.aload_n 0, 1) := by decide +kernel
theorem dX8_common_1 : decode cX8_common 1 = .ok (.iload_n 1, 1) := by decide +kernel
theorem dX8_common_2 : decode cX8_common 2 = .ok (.invokevirtual 273, 3) := by decide +kernel
theorem dX8_common_5 : decode cX8_common 5 = .ok (.ifCond .eq 11, 3) := by decide +kernel
theorem dX8_common_8 : decode cX8_common 8 = .ok (.aload_n 0, 1) := by decide +kernel
theorem dX8_common_9 : decode cX8_common 9 = .ok (.iload_n 2, 1) := by decide +kernel
theorem dX8_common_10 : decode cX8_common 10 = .ok (.invokevirtual 273, 3) := by decide +kernel
theorem dX8_common_13 : decode cX8_common 13 = .ok (.ifCond .ne 6, 3) := by decide +kernel
theorem dX8_common_16 : decode cX8_common 16 = .ok (.bipush (-2), 2) := by decide +kernel
theorem dX8_common_18 : decode cX8_common 18 = .ok (.ireturn, 1) := by decide +kernel
theorem dX8_common_19 : decode cX8_common 19 = .ok (.aload_n 0, 1) := by decide +kernel
theorem dX8_common_20 : decode cX8_common 20 = .ok (.iload_n 1, 1) := by decide +kernel
theorem dX8_common_21 : decode cX8_common 21 = .ok (.iconst 1, 1) := by decide +kernel
theorem dX8_common_22 : decode cX8_common 22 = .ok (.invokevirtual 67, 3) := by decide +kernel
theorem dX8_common_25 : decode cX8_common 25 = .ok (.aload_n 0, 1) := by decide +kernel
theorem dX8_common_26 : decode cX8_common 26 = .ok (.iload_n 2, 1) := by decide +kernel
theorem dX8_common_27 : decode cX8_common 27 = .ok (.iconst 1, 1) := by decide +kernel
theorem dX8_common_28 : decode cX8_common 28 = .ok (.invokevirtual 67, 3) := by decide +kernel
theorem dX8_common_31 : decode cX8_common 31 = .ok (.if_icmp .ne 35, 3) := by decide +kernel
theorem dX8_common_34 : decode cX8_common 34 = .ok (.aload_n 0, 1) := by decide +kernel
theorem dX8_common_35 : decode cX8_common 35 = .ok (.iload_n 1, 1) := by decide +kernel
theorem dX8_common_36 : decode cX8_common 36 = .ok (.iconst 2, 1) := by decide +kernel
theorem dX8_common_37 : decode cX8_common 37 = .ok (.invokevirtual 67, 3) := by decide +kernel
theorem dX8_common_40 : decode cX8_common 40 = .ok (.aload_n 0, 1) := by decide +kernel
theorem dX8_common_41 : decode cX8_common 41 = .ok (.iload_n 2, 1) := by decide +kernel
theorem dX8_common_42 : decode cX8_common 42 = .ok (.iconst 2, 1) := by decide +kernel
theorem dX8_common_43 : decode cX8_common 43 = .ok (.invokevirtual 67, 3) := by decide +kernel
theorem dX8_common_46 : decode cX8_common 46 = .ok (.if_icmp .ne 20, 3) := by decide +kernel
theorem dX8_common_49 : decode cX8_common 49 = .ok (.aload_n 0, 1) := by decide +kernel
theorem dX8_common_50 : decode cX8_common 50 = .ok (.iload_n 1, 1) := by decide +kernel
theorem dX8_common_51 : decode cX8_common 51 = .ok (.invokevirtual 71, 3) := by decide +kernel
theorem dX8_common_54 : decode cX8_common 54 = .ok (.aload_n 0, 1) := by decide +kernel
theorem dX8_common_55 : decode cX8_common 55 = .ok (.iload_n 2, 1) := by decide +kernel
theorem dX8_common_56 : decode cX8_common 56 = .ok (.invokevirtual 71, 3) := by decide +kernel
theorem dX8_common_59 : decode cX8_common 59 = .ok (.iand, 1) := by decide +kernel
theorem dX8_common_60 : decode cX8_common 60 = .ok (.invokestatic 296, 3) := by decide +kernel
theorem dX8_common_63 : decode cX8_common 63 = .ok (.goto 4, 3) := by decide +kernel
theorem dX8_common_66 : decode cX8_common 66 = .ok (.iconst 0, 1) := by decide +kernel
theorem dX8_common_67 : decode cX8_common 67 = .ok (.ireturn, 1) := by decide +kernel
theorem dX8_pairs_0 : decode cX8_pairs 0 = .ok (.aload_n 0, 1) := by decide +kernel
theorem dX8_pairs_1 : decode cX8_pairs 1 = .ok (.iload_n 1, 1) := by decide +kernel
theorem dX8_pairs_2 : decode cX8_pairs 2 = .ok (.invokevirtual 265, 3) := by decide +kernel
theorem dX8_pairs_5 : decode cX8_pairs 5 = .ok (.ifCond .eq 23, 3) := by decide +kernel
theorem dX8_pairs_8 : decode cX8_pairs 8 = .ok (.aload_n 0, 1) := by decide +kernel
theorem dX8_pairs_9 : decode cX8_pairs 9 = .ok (.iload_n 2, 1) := by decide +kernel
theorem dX8_pairs_10 : decode cX8_pairs 10 = .ok (.invokevirtual 61, 3) := by decide +kernel
theorem dX8_pairs_13 : decode cX8_pairs 13 = .ok (.ifCond .eq 15, 3) := by decide +kernel
theorem dX8_pairs_16 : decode cX8_pairs 16 = .ok (.iload_n 3, 1) := by decide +kernel
theorem dX8_pairs_17 : decode cX8_pairs 17 = .ok (.i2l, 1) := by decide +kernel
theorem dX8_pairs_18 : decode cX8_pairs 18 = .ok (.lconst 0, 1) := by decide +kernel
theorem dX8_pairs_19 : decode cX8_pairs 19 = .ok (.ldc2_w 55, 3) := by decide +kernel
theorem dX8_pairs_22 : decode cX8_pairs 22 = .ok (.invokestatic 45, 3) := by decide +kernel
theorem dX8_pairs_25 : decode cX8_pairs 25 = .ok (.ifCond .ne 6, 3) := by decide +kernel
theorem dX8_pairs_28 : decode cX8_pairs 28 = .ok (.bipush (-2), 2) := by decide +kernel
theorem dX8_pairs_30 : decode cX8_pairs 30 = .ok (.ireturn, 1) := by decide +kernel
theorem dX8_pairs_31 : decode cX8_pairs 31 = .ok (.iconst 0, 1) := by decide +kernel
theorem dX8_pairs_32 : decode cX8_pairs 32 = .ok (.istore 4, 2) := by decide +kernel
theorem dX8_pairs_34 : decode cX8_pairs 34 = .ok (.iconst 0, 1) := by decide +kernel
theorem dX8_pairs_35 : decode cX8_pairs 35 = .ok (.istore 5, 2) := by decide +kernel
theorem dX8_pairs_37 : decode cX8_pairs 37 = .ok (.iload 5, 2) := by decide +kernel
theorem dX8_pairs_39 : decode cX8_pairs 39 = .ok (.aload_n 0, 1) := by decide +kernel
theorem dX8_pairs_40 : decode cX8_pairs 40 = .ok (.getfield 9, 3) := by decide +kernel
theorem dX8_pairs_43 : decode cX8_pairs 43 = .ok (.iconst 2, 1) := by decide +kernel
theorem dX8_pairs_44 : decode cX8_pairs 44 = .ok (.iaload, 1) := by decide +kernel
theorem dX8_pairs_45 : decode cX8_pairs 45 = .ok (.if_icmp .ge 169, 3) := by decide +kernel
theorem dX8_pairs_48 : decode cX8_pairs 48 = .ok (.iconst 0, 1) := by decide +kernel
theorem dX8_pairs_49 : decode cX8_pairs 49 = .ok (.istore 6, 2) := by decide +kernel
theorem dX8_pairs_51 : decode cX8_pairs 51 = .ok (.iload 6, 2) := by decide +kernel
theorem dX8_pairs_53 : decode cX8_pairs 53 = .ok (.aload_n 0, 1) := by decide +kernel
theorem dX8_pairs_54 : decode cX8_pairs 54 = .ok (.getfield 9, 3) := by decide +kernel
theorem dX8_pairs_57 : decode cX8_pairs 57 = .ok (.iconst 2, 1) := by decide +kernel
theorem dX8_pairs_58 : decode cX8_pairs 58 = .ok (.iaload, 1) := by decide +kernel
theorem dX8_pairs_59 : decode cX8_pairs 59 = .ok (.if_icmp .ge 149, 3) := by decide +kernel
theorem dX8_pairs_62 : decode cX8_pairs 62 = .ok (.aload_n 0, 1) := by decide +kernel
theorem dX8_pairs_63 : decode cX8_pairs 63 = .ok (.iload 5, 2) := by decide +kernel
theorem dX8_pairs_65 : decode cX8_pairs 65 = .ok (.iconst 0, 1) := by decide +kernel
theorem dX8_pairs_66 : decode cX8_pairs 66 = .ok (.invokevirtual 67, 3) := by decide +kernel
theorem dX8_pairs_69 : decode cX8_pairs 69 = .ok (.iload_n 1, 1) := by decide +kernel
theorem dX8_pairs_70 : decode cX8_pairs 70 = .ok (.if_icmp .ne 40, 3) := by decide +kernel
theorem dX8_pairs_73 : decode cX8_pairs 73 = .ok (.aload_n 0, 1) := by decide +kernel
theorem dX8_pairs_74 : decode cX8_pairs 74 = .ok (.iload 6, 2) := by decide +kernel
theorem dX8_pairs_76 : decode cX8_pairs 76 = .ok (.iconst 0, 1) := by decide +kernel
theorem dX8_pairs_77 : decode cX8_pairs 77 = .ok (.invokevirtual 67, 3) := by decide +kernel
theorem dX8_pairs_80 : decode cX8_pairs 80 = .ok (.iload_n 1, 1) := by decide +kernel
theorem dX8_pairs_81 : decode cX8_pairs 81 = .ok (.if_icmp .ne 29, 3) := by decide +kernel
theorem dX8_pairs_84 : decode cX8_pairs 84 = .ok (.aload_n 0, 1) := by decide +kernel
theorem dX8_pairs_85 : decode cX8_pairs 85 = .ok (.iload 5, 2) := by decide +kernel
theorem dX8_pairs_87 : decode cX8_pairs 87 = .ok (.iconst 1, 1) := by decide +kernel
theorem dX8_pairs_88 : decode cX8_pairs 88 = .ok (.invokevirtual 67, 3) := by decide +kernel
theorem dX8_pairs_91 : decode cX8_pairs 91 = .ok (.iload_n 2, 1) := by decide +kernel
theorem dX8_pairs_92 : decode cX8_pairs 92 = .ok (.if_icmp .ne 18, 3) := by decide +kernel
theorem dX8_pairs_95 : decode cX8_pairs 95 = .ok (.aload_n 0, 1) := by decide +kernel
theorem dX8_pairs_96 : decode cX8_pairs 96 = .ok (.iload 6, 2) := by decide +kernel
theorem dX8_pairs_98 : decode cX8_pairs 98 = .ok (.iconst 1, 1) := by decide +kernel
theorem dX8_pairs_99 : decode cX8_pairs 99 = .ok (.invokevirtual 67, 3) := by decide +kernel
theorem dX8_pairs_102 : decode cX8_pairs 102 = .ok (.iload_n 2, 1) := by decide +kernel
theorem dX8_pairs_103 : decode cX8_pairs 103 = .ok (.if_icmp .ne 7, 3) := by decide +kernel
theorem dX8_pairs_106 : decode cX8_pairs 106 = .ok (.iconst 1, 1) := by decide +kernel
theorem dX8_pairs_107 : decode cX8_pairs 107 = .ok (.goto 4, 3) := by decide +kernel
theorem dX8_pairs_110 : decode cX8_pairs 110 = .ok (.iconst 0, 1) := by decide +kernel
theorem dX8_pairs_111 : decode cX8_pairs 111 = .ok (.istore 7, 2) := by decide +kernel
theorem dX8_pairs_113 : decode cX8_pairs 113 = .ok (.aload_n 0, 1) := by decide +kernel
theorem dX8_pairs_114 : decode cX8_pairs 114 = .ok (.iload 5, 2) := by decide +kernel
theorem dX8_pairs_116 : decode cX8_pairs 116 = .ok (.iconst 3, 1) := by decide +kernel
theorem dX8_pairs_117 : decode cX8_pairs 117 = .ok (.invokevirtual 67, 3) := by decide +kernel
theorem dX8_pairs_120 : decode cX8_pairs 120 = .ok (.ifCond .ne 43, 3) := by decide +kernel
theorem dX8_pairs_123 : decode cX8_pairs 123 = .ok (.aload_n 0, 1) := by decide +kernel
theorem dX8_pairs_124 : decode cX8_pairs 124 = .ok (.iload 6, 2) := by decide +kernel
theorem dX8_pairs_126 : decode cX8_pairs 126 = .ok (.iconst 3, 1) := by decide +kernel
theorem dX8_pairs_127 : decode cX8_pairs 127 = .ok (.invokevirtual 67, 3) := by decide +kernel
theorem dX8_pairs_130 : decode cX8_pairs 130 = .ok (.iconst 1, 1) := by decide +kernel
theorem dX8_pairs_131 : decode cX8_pairs 131 = .ok (.if_icmp .ne 32, 3) := by decide +kernel
theorem dX8_pairs_134 : decode cX8_pairs 134 = .ok (.aload_n 0, 1) := by decide +kernel
theorem dX8_pairs_135 : decode cX8_pairs 135 = .ok (.iload 6, 2) := by decide +kernel
theorem dX8_pairs_137 : decode cX8_pairs 137 = .ok (.iconst 2, 1) := by decide +kernel
theorem dX8_pairs_138 : decode cX8_pairs 138 = .ok (.invokevirtual 67, 3) := by decide +kernel
theorem dX8_pairs_141 : decode cX8_pairs 141 = .ok (.aload_n 0, 1) := by decide +kernel
theorem dX8_pairs_142 : decode cX8_pairs 142 = .ok (.iload 5, 2) := by decide +kernel
theorem dX8_pairs_144 : decode cX8_pairs 144 = .ok (.iconst 2, 1) := by decide +kernel
theorem dX8_pairs_145 : decode cX8_pairs 145 = .ok (.invokevirtual 67, 3) := by decide +kernel
theorem dX8_pairs_148 : decode cX8_pairs 148 = .ok (.isub, 1) := by decide +kernel
theorem dX8_pairs_149 : decode cX8_pairs 149 = .ok (.i2l, 1) := by decide +kernel
theorem dX8_pairs_150 : decode cX8_pairs 150 = .ok (.lconst 0, 1) := by decide +kernel
theorem dX8_pairs_151 : decode cX8_pairs 151 = .ok (.iload_n 3, 1) := by decide +kernel
theorem dX8_pairs_152 : decode cX8_pairs 152 = .ok (.i2l, 1) := by decide +kernel
theorem dX8_pairs_153 : decode cX8_pairs 153 = .ok (.invokestatic 45, 3) := by decide +kernel
theorem dX8_pairs_156 : decode cX8_pairs 156 = .ok (.ifCond .eq 7, 3) := by decide +kernel
theorem dX8_pairs_159 : decode cX8_pairs 159 = .ok (.iconst 1, 1) := by decide +kernel
theorem dX8_pairs_160 : decode cX8_pairs 160 = .ok (.goto 4, 3) := by decide +kernel
theorem dX8_pairs_163 : decode cX8_pairs 163 = .ok (.iconst 0, 1) := by decide +kernel
theorem dX8_pairs_164 : decode cX8_pairs 164 = .ok (.istore 8, 2) := by decide +kernel
theorem dX8_pairs_166 : decode cX8_pairs 166 = .ok (.iload 4, 2) := by decide +kernel
theorem dX8_pairs_168 : decode cX8_pairs 168 = .ok (.iload 7, 2) := by decide +kernel
theorem dX8_pairs_170 : decode cX8_pairs 170 = .ok (.ifCond .eq 28, 3) := by decide +kernel
theorem dX8_pairs_173 : decode cX8_pairs 173 = .ok (.iload 8, 2) := by decide +kernel
theorem dX8_pairs_175 : decode cX8_pairs 175 = .ok (.ifCond .eq 23, 3) := by decide +kernel
theorem dX8_pairs_178 : decode cX8_pairs 178 = .ok (.aload_n 0, 1) := by decide +kernel
theorem dX8_pairs_179 : decode cX8_pairs 179 = .ok (.iload 5, 2) := by decide +kernel
theorem dX8_pairs_181 : decode cX8_pairs 181 = .ok (.invokevirtual 71, 3) := by decide +kernel
theorem dX8_pairs_184 : decode cX8_pairs 184 = .ok (.aload_n 0, 1) := by decide +kernel
theorem dX8_pairs_185 : decode cX8_pairs 185 = .ok (.iload 6, 2) := by decide +kernel
theorem dX8_pairs_187 : decode cX8_pairs 187 = .ok (.invokevirtual 71, 3) := by decide +kernel
theorem dX8_pairs_190 : decode cX8_pairs 190 = .ok (.iand, 1) := by decide +kernel
theorem dX8_pairs_191 : decode cX8_pairs 191 = .ok (.ifCond .eq 7, 3) := by decide +kernel
theorem dX8_pairs_194 : decode cX8_pairs 194 = .ok (.iconst 1, 1) := by decide +kernel
theorem dX8_pairs_195 : decode cX8_pairs 195 = .ok (.goto 4, 3) := by decide +kernel
theorem dX8_pairs_198 : decode cX8_pairs 198 = .ok (.iconst 0, 1) := by decide +kernel
theorem dX8_pairs_199 : decode cX8_pairs 199 = .ok (.iadd, 1) := by decide +kernel
theorem dX8_pairs_200 : decode cX8_pairs 200 = .ok (.istore 4, 2) := by decide +kernel
theorem dX8_pairs_202 : decode cX8_pairs 202 = .ok (.iinc 6 1, 3) := by decide +kernel
theorem dX8_pairs_205 : decode cX8_pairs 205 = .ok (.goto (-154), 3) := by decide +kernel
theorem dX8_pairs_208 : decode cX8_pairs 208 = .ok (.iinc 5 1, 3) := by decide +kernel
theorem dX8_pairs_211 : decode cX8_pairs 211 = .ok (.goto (-174), 3) := by decide +kernel
theorem dX8_pairs_214 : decode cX8_pairs 214 = .ok (.iload 4, 2) := by decide +kernel
theorem dX8_pairs_216 : decode cX8_pairs 216 = .ok (.ireturn, 1) := by decide +kernel
theorem dX8_kept_0 : decode cX8_kept 0 = .ok (.aload_n 0, 1) := by decide +kernel
theorem dX8_kept_1 : decode cX8_kept 1 = .ok (.invokevirtual 49, 3) := by decide +kernel
theorem dX8_kept_4 : decode cX8_kept 4 = .ok (.ifCond .eq 13, 3) := by decide +kernel
theorem dX8_kept_7 : decode cX8_kept 7 = .ok (.iload_n 1, 1) := by decide +kernel
theorem dX8_kept_8 : decode cX8_kept 8 = .ok (.i2l, 1) := by decide +kernel
theorem dX8_kept_9 : decode cX8_kept 9 = .ok (.lconst 0, 1) := by decide +kernel
theorem dX8_kept_10 : decode cX8_kept 10 = .ok (.lconst 1, 1) := by decide +kernel
theorem dX8_kept_11 : decode cX8_kept 11 = .ok (.invokestatic 45, 3) := by decide +kernel
theorem dX8_kept_14 : decode cX8_kept 14 = .ok (.ifCond .ne 6, 3) := by decide +kernel
theorem dX8_kept_17 : decode cX8_kept 17 = .ok (.bipush (-2), 2) := by decide +kernel
theorem dX8_kept_19 : decode cX8_kept 19 = .ok (.ireturn, 1) := by decide +kernel
theorem dX8_kept_20 : decode cX8_kept 20 = .ok (.iconst 0, 1) := by decide +kernel
theorem dX8_kept_21 : decode cX8_kept 21 = .ok (.istore_n 2, 1) := by decide +kernel
theorem dX8_kept_22 : decode cX8_kept 22 = .ok (.iconst 0, 1) := by decide +kernel
theorem dX8_kept_23 : decode cX8_kept 23 = .ok (.istore_n 3, 1) := by decide +kernel
theorem dX8_kept_24 : decode cX8_kept 24 = .ok (.iload_n 3, 1) := by decide +kernel
theorem dX8_kept_25 : decode cX8_kept 25 = .ok (.aload_n 0, 1) := by decide +kernel
theorem dX8_kept_26 : decode cX8_kept 26 = .ok (.getfield 9, 3) := by decide +kernel
theorem dX8_kept_29 : decode cX8_kept 29 = .ok (.iconst 2, 1) := by decide +kernel
theorem dX8_kept_30 : decode cX8_kept 30 = .ok (.iaload, 1) := by decide +kernel
theorem dX8_kept_31 : decode cX8_kept 31 = .ok (.if_icmp .ge 30, 3) := by decide +kernel
theorem dX8_kept_34 : decode cX8_kept 34 = .ok (.iload_n 2, 1) := by decide +kernel
theorem dX8_kept_35 : decode cX8_kept 35 = .ok (.aload_n 0, 1) := by decide +kernel
theorem dX8_kept_36 : decode cX8_kept 36 = .ok (.iload_n 3, 1) := by decide +kernel
theorem dX8_kept_37 : decode cX8_kept 37 = .ok (.invokevirtual 305, 3) := by decide +kernel
theorem dX8_kept_40 : decode cX8_kept 40 = .ok (.iload_n 1, 1) := by decide +kernel
theorem dX8_kept_41 : decode cX8_kept 41 = .ok (.iconst 1, 1) := by decide +kernel
theorem dX8_kept_42 : decode cX8_kept 42 = .ok (.iadd, 1) := by decide +kernel
theorem dX8_kept_43 : decode cX8_kept 43 = .ok (.if_icmp .ne 9, 3) := by decide +kernel
theorem dX8_kept_46 : decode cX8_kept 46 = .ok (.iconst 1, 1) := by decide +kernel
theorem dX8_kept_47 : decode cX8_kept 47 = .ok (.iload_n 3, 1) := by decide +kernel
theorem dX8_kept_48 : decode cX8_kept 48 = .ok (.ishl, 1) := by decide +kernel
theorem dX8_kept_49 : decode cX8_kept 49 = .ok (.goto 4, 3) := by decide +kernel
theorem dX8_kept_52 : decode cX8_kept 52 = .ok (.iconst 0, 1) := by decide +kernel
theorem dX8_kept_53 : decode cX8_kept 53 = .ok (.ior, 1) := by decide +kernel
theorem dX8_kept_54 : decode cX8_kept 54 = .ok (.istore_n 2, 1) := by decide +kernel
theorem dX8_kept_55 : decode cX8_kept 55 = .ok (.iinc 3 1, 3) := by decide +kernel
theorem dX8_kept_58 : decode cX8_kept 58 = .ok (.goto (-34), 3) := by decide +kernel
theorem dX8_kept_61 : decode cX8_kept 61 = .ok (.iload_n 2, 1) := by decide +kernel
theorem dX8_kept_62 : decode cX8_kept 62 = .ok (.ireturn, 1) := by decide +kernel
theorem dX8_chosen_0 : decode cX8_chosen 0 = .ok (.iconst (-1), 1) := by decide +kernel
theorem dX8_chosen_1 : decode cX8_chosen 1 = .ok (.istore_n 2, 1) := by decide +kernel
theorem dX8_chosen_2 : decode cX8_chosen 2 = .ok (.iconst 0, 1) := by decide +kernel
theorem dX8_chosen_3 : decode cX8_chosen 3 = .ok (.istore_n 3, 1) := by decide +kernel
theorem dX8_chosen_4 : decode cX8_chosen 4 = .ok (.iload_n 3, 1) := by decide +kernel
theorem dX8_chosen_5 : decode cX8_chosen 5 = .ok (.aload_n 0, 1) := by decide +kernel
theorem dX8_chosen_6 : decode cX8_chosen 6 = .ok (.getfield 16, 3) := by decide +kernel
theorem dX8_chosen_9 : decode cX8_chosen 9 = .ok (.iconst 3, 1) := by decide +kernel
theorem dX8_chosen_10 : decode cX8_chosen 10 = .ok (.iaload, 1) := by decide +kernel
theorem dX8_chosen_11 : decode cX8_chosen 11 = .ok (.if_icmp .ge 94, 3) := by decide +kernel
theorem dX8_chosen_14 : decode cX8_chosen 14 = .ok (.aload_n 0, 1) := by decide +kernel
theorem dX8_chosen_15 : decode cX8_chosen 15 = .ok (.getfield 30, 3) := by decide +kernel
theorem dX8_chosen_18 : decode cX8_chosen 18 = .ok (.iload_n 3, 1) := by decide +kernel
theorem dX8_chosen_19 : decode cX8_chosen 19 = .ok (.iaload, 1) := by decide +kernel
theorem dX8_chosen_20 : decode cX8_chosen 20 = .ok (.iconst (-1), 1) := by decide +kernel
theorem dX8_chosen_21 : decode cX8_chosen 21 = .ok (.if_icmp .ne 78, 3) := by decide +kernel
theorem dX8_chosen_24 : decode cX8_chosen 24 = .ok (.aload_n 0, 1) := by decide +kernel
theorem dX8_chosen_25 : decode cX8_chosen 25 = .ok (.aload_n 0, 1) := by decide +kernel
theorem dX8_chosen_26 : decode cX8_chosen 26 = .ok (.iload_n 3, 1) := by decide +kernel
theorem dX8_chosen_27 : decode cX8_chosen 27 = .ok (.iconst 0, 1) := by decide +kernel
theorem dX8_chosen_28 : decode cX8_chosen 28 = .ok (.invokevirtual 284, 3) := by decide +kernel
theorem dX8_chosen_31 : decode cX8_chosen 31 = .ok (.aload_n 0, 1) := by decide +kernel
theorem dX8_chosen_32 : decode cX8_chosen 32 = .ok (.iload_n 3, 1) := by decide +kernel
theorem dX8_chosen_33 : decode cX8_chosen 33 = .ok (.iconst 1, 1) := by decide +kernel
theorem dX8_chosen_34 : decode cX8_chosen 34 = .ok (.invokevirtual 284, 3) := by decide +kernel
theorem dX8_chosen_37 : decode cX8_chosen 37 = .ok (.invokevirtual 313, 3) := by decide +kernel
theorem dX8_chosen_40 : decode cX8_chosen 40 = .ok (.iload_n 1, 1) := by decide +kernel
theorem dX8_chosen_41 : decode cX8_chosen 41 = .ok (.if_icmp .eq 6, 3) := by decide +kernel
theorem dX8_chosen_44 : decode cX8_chosen 44 = .ok (.goto 55, 3) := by decide +kernel
theorem dX8_chosen_47 : decode cX8_chosen 47 = .ok (.iload_n 2, 1) := by decide +kernel
theorem dX8_chosen_48 : decode cX8_chosen 48 = .ok (.iconst (-1), 1) := by decide +kernel
theorem dX8_chosen_49 : decode cX8_chosen 49 = .ok (.if_icmp .eq 32, 3) := by decide +kernel
theorem dX8_chosen_52 : decode cX8_chosen 52 = .ok (.aload_n 0, 1) := by decide +kernel
theorem dX8_chosen_53 : decode cX8_chosen 53 = .ok (.iload_n 3, 1) := by decide +kernel
theorem dX8_chosen_54 : decode cX8_chosen 54 = .ok (.iconst 5, 1) := by decide +kernel
theorem dX8_chosen_55 : decode cX8_chosen 55 = .ok (.invokevirtual 284, 3) := by decide +kernel
theorem dX8_chosen_58 : decode cX8_chosen 58 = .ok (.aload_n 0, 1) := by decide +kernel
theorem dX8_chosen_59 : decode cX8_chosen 59 = .ok (.iload_n 3, 1) := by decide +kernel
theorem dX8_chosen_60 : decode cX8_chosen 60 = .ok (.iconst 4, 1) := by decide +kernel
theorem dX8_chosen_61 : decode cX8_chosen 61 = .ok (.invokevirtual 284, 3) := by decide +kernel
theorem dX8_chosen_64 : decode cX8_chosen 64 = .ok (.isub, 1) := by decide +kernel
theorem dX8_chosen_65 : decode cX8_chosen 65 = .ok (.aload_n 0, 1) := by decide +kernel
theorem dX8_chosen_66 : decode cX8_chosen 66 = .ok (.iload_n 2, 1) := by decide +kernel
theorem dX8_chosen_67 : decode cX8_chosen 67 = .ok (.iconst 5, 1) := by decide +kernel
theorem dX8_chosen_68 : decode cX8_chosen 68 = .ok (.invokevirtual 284, 3) := by decide +kernel
theorem dX8_chosen_71 : decode cX8_chosen 71 = .ok (.aload_n 0, 1) := by decide +kernel
theorem dX8_chosen_72 : decode cX8_chosen 72 = .ok (.iload_n 2, 1) := by decide +kernel
theorem dX8_chosen_73 : decode cX8_chosen 73 = .ok (.iconst 4, 1) := by decide +kernel
theorem dX8_chosen_74 : decode cX8_chosen 74 = .ok (.invokevirtual 284, 3) := by decide +kernel
theorem dX8_chosen_77 : decode cX8_chosen 77 = .ok (.isub, 1) := by decide +kernel
theorem dX8_chosen_78 : decode cX8_chosen 78 = .ok (.if_icmp .le 7, 3) := by decide +kernel
theorem dX8_chosen_81 : decode cX8_chosen 81 = .ok (.iconst 1, 1) := by decide +kernel
theorem dX8_chosen_82 : decode cX8_chosen 82 = .ok (.goto 4, 3) := by decide +kernel
theorem dX8_chosen_85 : decode cX8_chosen 85 = .ok (.iconst 0, 1) := by decide +kernel
theorem dX8_chosen_86 : decode cX8_chosen 86 = .ok (.istore 4, 2) := by decide +kernel
theorem dX8_chosen_88 : decode cX8_chosen 88 = .ok (.iload 4, 2) := by decide +kernel
theorem dX8_chosen_90 : decode cX8_chosen 90 = .ok (.ifCond .eq 7, 3) := by decide +kernel
theorem dX8_chosen_93 : decode cX8_chosen 93 = .ok (.iload_n 3, 1) := by decide +kernel
theorem dX8_chosen_94 : decode cX8_chosen 94 = .ok (.goto 4, 3) := by decide +kernel
theorem dX8_chosen_97 : decode cX8_chosen 97 = .ok (.iload_n 2, 1) := by decide +kernel
theorem dX8_chosen_98 : decode cX8_chosen 98 = .ok (.istore_n 2, 1) := by decide +kernel
theorem dX8_chosen_99 : decode cX8_chosen 99 = .ok (.iinc 3 1, 3) := by decide +kernel
theorem dX8_chosen_102 : decode cX8_chosen 102 = .ok (.goto (-98), 3) := by decide +kernel
theorem dX8_chosen_105 : decode cX8_chosen 105 = .ok (.iload_n 2, 1) := by decide +kernel
theorem dX8_chosen_106 : decode cX8_chosen 106 = .ok (.ireturn, 1) := by decide +kernel
theorem dX8_begins_0 : decode cX8_begins 0 = .ok (.aload_n 0, 1) := by decide +kernel
theorem dX8_begins_1 : decode cX8_begins 1 = .ok (.iconst 0, 1) := by decide +kernel
theorem dX8_begins_2 : decode cX8_begins 2 = .ok (.putfield 335, 3) := by decide +kernel
theorem dX8_begins_5 : decode cX8_begins 5 = .ok (.iconst 0, 1) := by decide +kernel
theorem dX8_begins_6 : decode cX8_begins 6 = .ok (.istore_n 1, 1) := by decide +kernel
theorem dX8_begins_7 : decode cX8_begins 7 = .ok (.iload_n 1, 1) := by decide +kernel
theorem dX8_begins_8 : decode cX8_begins 8 = .ok (.bipush 24, 2) := by decide +kernel
theorem dX8_begins_10 : decode cX8_begins 10 = .ok (.if_icmp .ge 23, 3) := by decide +kernel
theorem dX8_begins_13 : decode cX8_begins 13 = .ok (.aload_n 0, 1) := by decide +kernel
theorem dX8_begins_14 : decode cX8_begins 14 = .ok (.getfield 30, 3) := by decide +kernel
theorem dX8_begins_17 : decode cX8_begins 17 = .ok (.iload_n 1, 1) := by decide +kernel
theorem dX8_begins_18 : decode cX8_begins 18 = .ok (.iconst (-1), 1) := by decide +kernel
theorem dX8_begins_19 : decode cX8_begins 19 = .ok (.iastore, 1) := by decide +kernel
theorem dX8_begins_20 : decode cX8_begins 20 = .ok (.aload_n 0, 1) := by decide +kernel
theorem dX8_begins_21 : decode cX8_begins 21 = .ok (.getfield 33, 3) := by decide +kernel
theorem dX8_begins_24 : decode cX8_begins 24 = .ok (.iload_n 1, 1) := by decide +kernel
theorem dX8_begins_25 : decode cX8_begins 25 = .ok (.iconst (-1), 1) := by decide +kernel
theorem dX8_begins_26 : decode cX8_begins 26 = .ok (.iastore, 1) := by decide +kernel
theorem dX8_begins_27 : decode cX8_begins 27 = .ok (.iinc 1 1, 3) := by decide +kernel
theorem dX8_begins_30 : decode cX8_begins 30 = .ok (.goto (-23), 3) := by decide +kernel
theorem dX8_begins_33 : decode cX8_begins 33 = .ok (.return_, 1) := by decide +kernel
theorem dX8_grants_0 : decode cX8_grants 0 = .ok (.iconst 0, 1) := by decide +kernel
theorem dX8_grants_1 : decode cX8_grants 1 = .ok (.istore_n 3, 1) := by decide +kernel
theorem dX8_grants_2 : decode cX8_grants 2 = .ok (.iload_n 3, 1) := by decide +kernel
theorem dX8_grants_3 : decode cX8_grants 3 = .ok (.bipush 7, 2) := by decide +kernel
theorem dX8_grants_5 : decode cX8_grants 5 = .ok (.if_icmp .ge 21, 3) := by decide +kernel
theorem dX8_grants_8 : decode cX8_grants 8 = .ok (.aload_n 0, 1) := by decide +kernel
theorem dX8_grants_9 : decode cX8_grants 9 = .ok (.getfield 27, 3) := by decide +kernel
theorem dX8_grants_12 : decode cX8_grants 12 = .ok (.iload_n 3, 1) := by decide +kernel
theorem dX8_grants_13 : decode cX8_grants 13 = .ok (.aload_n 0, 1) := by decide +kernel
theorem dX8_grants_14 : decode cX8_grants 14 = .ok (.iload_n 1, 1) := by decide +kernel
theorem dX8_grants_15 : decode cX8_grants 15 = .ok (.iload_n 3, 1) := by decide +kernel
theorem dX8_grants_16 : decode cX8_grants 16 = .ok (.invokevirtual 284, 3) := by decide +kernel
theorem dX8_grants_19 : decode cX8_grants 19 = .ok (.iastore, 1) := by decide +kernel
theorem dX8_grants_20 : decode cX8_grants 20 = .ok (.iinc 3 1, 3) := by decide +kernel
theorem dX8_grants_23 : decode cX8_grants 23 = .ok (.goto (-21), 3) := by decide +kernel
theorem dX8_grants_26 : decode cX8_grants 26 = .ok (.aload_n 0, 1) := by decide +kernel
theorem dX8_grants_27 : decode cX8_grants 27 = .ok (.iload_n 2, 1) := by decide +kernel
theorem dX8_grants_28 : decode cX8_grants 28 = .ok (.aload_n 0, 1) := by decide +kernel
theorem dX8_grants_29 : decode cX8_grants 29 = .ok (.iload_n 1, 1) := by decide +kernel
theorem dX8_grants_30 : decode cX8_grants 30 = .ok (.invokevirtual 326, 3) := by decide +kernel
theorem dX8_grants_33 : decode cX8_grants 33 = .ok (.aload_n 0, 1) := by decide +kernel
theorem dX8_grants_34 : decode cX8_grants 34 = .ok (.iload_n 1, 1) := by decide +kernel
theorem dX8_grants_35 : decode cX8_grants 35 = .ok (.iconst 4, 1) := by decide +kernel
theorem dX8_grants_36 : decode cX8_grants 36 = .ok (.invokevirtual 284, 3) := by decide +kernel
theorem dX8_grants_39 : decode cX8_grants 39 = .ok (.aload_n 0, 1) := by decide +kernel
theorem dX8_grants_40 : decode cX8_grants 40 = .ok (.getfield 16, 3) := by decide +kernel
theorem dX8_grants_43 : decode cX8_grants 43 = .ok (.iconst 4, 1) := by decide +kernel
theorem dX8_grants_44 : decode cX8_grants 44 = .ok (.iaload, 1) := by decide +kernel
theorem dX8_grants_45 : decode cX8_grants 45 = .ok (.invokestatic 293, 3) := by decide +kernel
theorem dX8_grants_48 : decode cX8_grants 48 = .ok (.iconst 1, 1) := by decide +kernel
theorem dX8_grants_49 : decode cX8_grants 49 = .ok (.invokevirtual 237, 3) := by decide +kernel
theorem dX8_grants_52 : decode cX8_grants 52 = .ok (.aload_n 0, 1) := by decide +kernel
theorem dX8_grants_53 : decode cX8_grants 53 = .ok (.getfield 33, 3) := by decide +kernel
theorem dX8_grants_56 : decode cX8_grants 56 = .ok (.iload_n 1, 1) := by decide +kernel
theorem dX8_grants_57 : decode cX8_grants 57 = .ok (.iload_n 2, 1) := by decide +kernel
theorem dX8_grants_58 : decode cX8_grants 58 = .ok (.iastore, 1) := by decide +kernel
theorem dX8_grants_59 : decode cX8_grants 59 = .ok (.return_, 1) := by decide +kernel
theorem dX8_plays_0 : decode cX8_plays 0 = .ok (.aload_n 0, 1) := by decide +kernel
theorem dX8_plays_1 : decode cX8_plays 1 = .ok (.invokevirtual 338, 3) := by decide +kernel
theorem dX8_plays_4 : decode cX8_plays 4 = .ok (.iconst 0, 1) := by decide +kernel
theorem dX8_plays_5 : decode cX8_plays 5 = .ok (.istore_n 1, 1) := by decide +kernel
theorem dX8_plays_6 : decode cX8_plays 6 = .ok (.iconst 1, 1) := by decide +kernel
theorem dX8_plays_7 : decode cX8_plays 7 = .ok (.istore_n 2, 1) := by decide +kernel
theorem dX8_plays_8 : decode cX8_plays 8 = .ok (.aload_n 0, 1) := by decide +kernel
theorem dX8_plays_9 : decode cX8_plays 9 = .ok (.getfield 335, 3) := by decide +kernel
theorem dX8_plays_12 : decode cX8_plays 12 = .ok (.aload_n 0, 1) := by decide +kernel
theorem dX8_plays_13 : decode cX8_plays 13 = .ok (.getfield 16, 3) := by decide +kernel
theorem dX8_plays_16 : decode cX8_plays 16 = .ok (.iconst 3, 1) := by decide +kernel
theorem dX8_plays_17 : decode cX8_plays 17 = .ok (.iaload, 1) := by decide +kernel
theorem dX8_plays_18 : decode cX8_plays 18 = .ok (.if_icmp .ge 87, 3) := by decide +kernel
theorem dX8_plays_21 : decode cX8_plays 21 = .ok (.aload_n 0, 1) := by decide +kernel
theorem dX8_plays_22 : decode cX8_plays 22 = .ok (.iload_n 2, 1) := by decide +kernel
theorem dX8_plays_23 : decode cX8_plays 23 = .ok (.invokevirtual 341, 3) := by decide +kernel
theorem dX8_plays_26 : decode cX8_plays 26 = .ok (.istore_n 3, 1) := by decide +kernel
theorem dX8_plays_27 : decode cX8_plays 27 = .ok (.iload_n 3, 1) := by decide +kernel
theorem dX8_plays_28 : decode cX8_plays 28 = .ok (.iconst (-1), 1) := by decide +kernel
theorem dX8_plays_29 : decode cX8_plays 29 = .ok (.if_icmp .ne 17, 3) := by decide +kernel
theorem dX8_plays_32 : decode cX8_plays 32 = .ok (.aload_n 0, 1) := by decide +kernel
theorem dX8_plays_33 : decode cX8_plays 33 = .ok (.iload_n 2, 1) := by decide +kernel
theorem dX8_plays_34 : decode cX8_plays 34 = .ok (.ifCond .ne 7, 3) := by decide +kernel
theorem dX8_plays_37 : decode cX8_plays 37 = .ok (.iconst 1, 1) := by decide +kernel
theorem dX8_plays_38 : decode cX8_plays 38 = .ok (.goto 4, 3) := by decide +kernel
theorem dX8_plays_41 : decode cX8_plays 41 = .ok (.iconst 0, 1) := by decide +kernel
theorem dX8_plays_42 : decode cX8_plays 42 = .ok (.invokevirtual 341, 3) := by decide +kernel
theorem dX8_plays_45 : decode cX8_plays 45 = .ok (.istore_n 3, 1) := by decide +kernel
theorem dX8_plays_46 : decode cX8_plays 46 = .ok (.aload_n 0, 1) := by decide +kernel
theorem dX8_plays_47 : decode cX8_plays 47 = .ok (.getfield 30, 3) := by decide +kernel
theorem dX8_plays_50 : decode cX8_plays 50 = .ok (.iload_n 3, 1) := by decide +kernel
theorem dX8_plays_51 : decode cX8_plays 51 = .ok (.aload_n 0, 1) := by decide +kernel
theorem dX8_plays_52 : decode cX8_plays 52 = .ok (.getfield 335, 3) := by decide +kernel
theorem dX8_plays_55 : decode cX8_plays 55 = .ok (.iastore, 1) := by decide +kernel
theorem dX8_plays_56 : decode cX8_plays 56 = .ok (.aload_n 0, 1) := by decide +kernel
theorem dX8_plays_57 : decode cX8_plays 57 = .ok (.dup, 1) := by decide +kernel
theorem dX8_plays_58 : decode cX8_plays 58 = .ok (.getfield 335, 3) := by decide +kernel
theorem dX8_plays_61 : decode cX8_plays 61 = .ok (.iconst 1, 1) := by decide +kernel
theorem dX8_plays_62 : decode cX8_plays 62 = .ok (.iadd, 1) := by decide +kernel
theorem dX8_plays_63 : decode cX8_plays 63 = .ok (.putfield 335, 3) := by decide +kernel
theorem dX8_plays_66 : decode cX8_plays 66 = .ok (.iload_n 2, 1) := by decide +kernel
theorem dX8_plays_67 : decode cX8_plays 67 = .ok (.ifCond .ne 7, 3) := by decide +kernel
theorem dX8_plays_70 : decode cX8_plays 70 = .ok (.iconst 1, 1) := by decide +kernel
theorem dX8_plays_71 : decode cX8_plays 71 = .ok (.goto 4, 3) := by decide +kernel
theorem dX8_plays_74 : decode cX8_plays 74 = .ok (.iconst 0, 1) := by decide +kernel
theorem dX8_plays_75 : decode cX8_plays 75 = .ok (.istore_n 2, 1) := by decide +kernel
theorem dX8_plays_76 : decode cX8_plays 76 = .ok (.aload_n 0, 1) := by decide +kernel
theorem dX8_plays_77 : decode cX8_plays 77 = .ok (.iload_n 3, 1) := by decide +kernel
theorem dX8_plays_78 : decode cX8_plays 78 = .ok (.invokevirtual 332, 3) := by decide +kernel
theorem dX8_plays_81 : decode cX8_plays 81 = .ok (.istore 4, 2) := by decide +kernel
theorem dX8_plays_83 : decode cX8_plays 83 = .ok (.iload 4, 2) := by decide +kernel
theorem dX8_plays_85 : decode cX8_plays 85 = .ok (.iconst (-1), 1) := by decide +kernel
theorem dX8_plays_86 : decode cX8_plays 86 = .ok (.if_icmp .ne 6, 3) := by decide +kernel
theorem dX8_plays_89 : decode cX8_plays 89 = .ok (.goto (-81), 3) := by decide +kernel
theorem dX8_plays_92 : decode cX8_plays 92 = .ok (.aload_n 0, 1) := by decide +kernel
theorem dX8_plays_93 : decode cX8_plays 93 = .ok (.iload_n 3, 1) := by decide +kernel
theorem dX8_plays_94 : decode cX8_plays 94 = .ok (.iload 4, 2) := by decide +kernel
theorem dX8_plays_96 : decode cX8_plays 96 = .ok (.invokevirtual 345, 3) := by decide +kernel
theorem dX8_plays_99 : decode cX8_plays 99 = .ok (.iinc 1 1, 3) := by decide +kernel
theorem dX8_plays_102 : decode cX8_plays 102 = .ok (.goto (-94), 3) := by decide +kernel
theorem dX8_plays_105 : decode cX8_plays 105 = .ok (.iload_n 1, 1) := by decide +kernel
theorem dX8_plays_106 : decode cX8_plays 106 = .ok (.ireturn, 1) := by decide +kernel
theorem dX8_copies_0 : decode cX8_copies 0 = .ok (.iconst 0, 1) := by decide +kernel
theorem dX8_copies_1 : decode cX8_copies 1 = .ok (.istore_n 1, 1) := by decide +kernel
theorem dX8_copies_2 : decode cX8_copies 2 = .ok (.iload_n 1, 1) := by decide +kernel
theorem dX8_copies_3 : decode cX8_copies 3 = .ok (.sipush 518, 3) := by decide +kernel
theorem dX8_copies_6 : decode cX8_copies 6 = .ok (.if_icmp .ge 21, 3) := by decide +kernel
theorem dX8_copies_9 : decode cX8_copies 9 = .ok (.aload_n 0, 1) := by decide +kernel
theorem dX8_copies_10 : decode cX8_copies 10 = .ok (.getfield 13, 3) := by decide +kernel
theorem dX8_copies_13 : decode cX8_copies 13 = .ok (.iload_n 1, 1) := by decide +kernel
theorem dX8_copies_14 : decode cX8_copies 14 = .ok (.aload_n 0, 1) := by decide +kernel
theorem dX8_copies_15 : decode cX8_copies 15 = .ok (.getfield 9, 3) := by decide +kernel
theorem dX8_copies_18 : decode cX8_copies 18 = .ok (.iload_n 1, 1) := by decide +kernel
theorem dX8_copies_19 : decode cX8_copies 19 = .ok (.iaload, 1) := by decide +kernel
theorem dX8_copies_20 : decode cX8_copies 20 = .ok (.iastore, 1) := by decide +kernel
theorem dX8_copies_21 : decode cX8_copies 21 = .ok (.iinc 1 1, 3) := by decide +kernel
theorem dX8_copies_24 : decode cX8_copies 24 = .ok (.goto (-22), 3) := by decide +kernel
theorem dX8_copies_27 : decode cX8_copies 27 = .ok (.return_, 1) := by decide +kernel
theorem dX8_playsAside_0 : decode cX8_playsAside 0 = .ok (.aload_n 0, 1) := by decide +kernel
theorem dX8_playsAside_1 : decode cX8_playsAside 1 = .ok (.invokevirtual 348, 3) := by decide +kernel
theorem dX8_playsAside_4 : decode cX8_playsAside 4 = .ok (.iload_n 1, 1) := by decide +kernel
theorem dX8_playsAside_5 : decode cX8_playsAside 5 = .ok (.iconst (-1), 1) := by decide +kernel
theorem dX8_playsAside_6 : decode cX8_playsAside 6 = .ok (.if_icmp .eq 35, 3) := by decide +kernel
theorem dX8_playsAside_9 : decode cX8_playsAside 9 = .ok (.aload_n 0, 1) := by decide +kernel
theorem dX8_playsAside_10 : decode cX8_playsAside 10 = .ok (.getfield 13, 3) := by decide +kernel
theorem dX8_playsAside_13 : decode cX8_playsAside 13 = .ok (.bipush 6, 2) := by decide +kernel
theorem dX8_playsAside_15 : decode cX8_playsAside 15 = .ok (.iconst 2, 1) := by decide +kernel
theorem dX8_playsAside_16 : decode cX8_playsAside 16 = .ok (.iload_n 1, 1) := by decide +kernel
theorem dX8_playsAside_17 : decode cX8_playsAside 17 = .ok (.imul, 1) := by decide +kernel
theorem dX8_playsAside_18 : decode cX8_playsAside 18 = .ok (.iadd, 1) := by decide +kernel
theorem dX8_playsAside_19 : decode cX8_playsAside 19 = .ok (.dup2, 1) := by decide +kernel
theorem dX8_playsAside_20 : decode cX8_playsAside 20 = .ok (.iaload, 1) := by decide +kernel
theorem dX8_playsAside_21 : decode cX8_playsAside 21 = .ok (.iconst 1, 1) := by decide +kernel
theorem dX8_playsAside_22 : decode cX8_playsAside 22 = .ok (.iadd, 1) := by decide +kernel
theorem dX8_playsAside_23 : decode cX8_playsAside 23 = .ok (.iastore, 1) := by decide +kernel
theorem dX8_playsAside_24 : decode cX8_playsAside 24 = .ok (.aload_n 0, 1) := by decide +kernel
theorem dX8_playsAside_25 : decode cX8_playsAside 25 = .ok (.getfield 13, 3) := by decide +kernel
theorem dX8_playsAside_28 : decode cX8_playsAside 28 = .ok (.bipush 6, 2) := by decide +kernel
theorem dX8_playsAside_30 : decode cX8_playsAside 30 = .ok (.iconst 2, 1) := by decide +kernel
theorem dX8_playsAside_31 : decode cX8_playsAside 31 = .ok (.iload_n 1, 1) := by decide +kernel
theorem dX8_playsAside_32 : decode cX8_playsAside 32 = .ok (.imul, 1) := by decide +kernel
theorem dX8_playsAside_33 : decode cX8_playsAside 33 = .ok (.iadd, 1) := by decide +kernel
theorem dX8_playsAside_34 : decode cX8_playsAside 34 = .ok (.iconst 1, 1) := by decide +kernel
theorem dX8_playsAside_35 : decode cX8_playsAside 35 = .ok (.iadd, 1) := by decide +kernel
theorem dX8_playsAside_36 : decode cX8_playsAside 36 = .ok (.dup2, 1) := by decide +kernel
theorem dX8_playsAside_37 : decode cX8_playsAside 37 = .ok (.iaload, 1) := by decide +kernel
theorem dX8_playsAside_38 : decode cX8_playsAside 38 = .ok (.iconst 1, 1) := by decide +kernel
theorem dX8_playsAside_39 : decode cX8_playsAside 39 = .ok (.iadd, 1) := by decide +kernel
theorem dX8_playsAside_40 : decode cX8_playsAside 40 = .ok (.iastore, 1) := by decide +kernel
theorem dX8_playsAside_41 : decode cX8_playsAside 41 = .ok (.aload_n 0, 1) := by decide +kernel
theorem dX8_playsAside_42 : decode cX8_playsAside 42 = .ok (.aload_n 0, 1) := by decide +kernel
theorem dX8_playsAside_43 : decode cX8_playsAside 43 = .ok (.getfield 13, 3) := by decide +kernel
theorem dX8_playsAside_46 : decode cX8_playsAside 46 = .ok (.putfield 16, 3) := by decide +kernel
theorem dX8_playsAside_49 : decode cX8_playsAside 49 = .ok (.aload_n 0, 1) := by decide +kernel
theorem dX8_playsAside_50 : decode cX8_playsAside 50 = .ok (.invokevirtual 351, 3) := by decide +kernel
theorem dX8_playsAside_53 : decode cX8_playsAside 53 = .ok (.istore_n 2, 1) := by decide +kernel
theorem dX8_playsAside_54 : decode cX8_playsAside 54 = .ok (.aload_n 0, 1) := by decide +kernel
theorem dX8_playsAside_55 : decode cX8_playsAside 55 = .ok (.aload_n 0, 1) := by decide +kernel
theorem dX8_playsAside_56 : decode cX8_playsAside 56 = .ok (.getfield 9, 3) := by decide +kernel
theorem dX8_playsAside_59 : decode cX8_playsAside 59 = .ok (.putfield 16, 3) := by decide +kernel
theorem dX8_playsAside_62 : decode cX8_playsAside 62 = .ok (.iload_n 2, 1) := by decide +kernel
theorem dX8_playsAside_63 : decode cX8_playsAside 63 = .ok (.ireturn, 1) := by decide +kernel
theorem dX8_first_0 : decode cX8_first 0 = .ok (.aload_n 0, 1) := by decide +kernel
theorem dX8_first_1 : decode cX8_first 1 = .ok (.invokevirtual 49, 3) := by decide +kernel
theorem dX8_first_4 : decode cX8_first 4 = .ok (.ifCond .ne 6, 3) := by decide +kernel
theorem dX8_first_7 : decode cX8_first 7 = .ok (.bipush (-2), 2) := by decide +kernel
theorem dX8_first_9 : decode cX8_first 9 = .ok (.ireturn, 1) := by decide +kernel
theorem dX8_first_10 : decode cX8_first 10 = .ok (.aload_n 0, 1) := by decide +kernel
theorem dX8_first_11 : decode cX8_first 11 = .ok (.invokevirtual 338, 3) := by decide +kernel
theorem dX8_first_14 : decode cX8_first 14 = .ok (.aload_n 0, 1) := by decide +kernel
theorem dX8_first_15 : decode cX8_first 15 = .ok (.iconst 1, 1) := by decide +kernel
theorem dX8_first_16 : decode cX8_first 16 = .ok (.invokevirtual 341, 3) := by decide +kernel
theorem dX8_first_19 : decode cX8_first 19 = .ok (.istore_n 1, 1) := by decide +kernel
theorem dX8_first_20 : decode cX8_first 20 = .ok (.iload_n 1, 1) := by decide +kernel
theorem dX8_first_21 : decode cX8_first 21 = .ok (.iconst (-1), 1) := by decide +kernel
theorem dX8_first_22 : decode cX8_first 22 = .ok (.if_icmp .ne 11, 3) := by decide +kernel
theorem dX8_first_25 : decode cX8_first 25 = .ok (.aload_n 0, 1) := by decide +kernel
theorem dX8_first_26 : decode cX8_first 26 = .ok (.iconst 0, 1) := by decide +kernel
theorem dX8_first_27 : decode cX8_first 27 = .ok (.invokevirtual 341, 3) := by decide +kernel
theorem dX8_first_30 : decode cX8_first 30 = .ok (.goto 4, 3) := by decide +kernel
theorem dX8_first_33 : decode cX8_first 33 = .ok (.iload_n 1, 1) := by decide +kernel
theorem dX8_first_34 : decode cX8_first 34 = .ok (.ireturn, 1) := by decide +kernel
theorem dX8_would_0 : decode cX8_would 0 = .ok (.aload_n 0, 1) := by decide +kernel
theorem dX8_would_1 : decode cX8_would 1 = .ok (.invokevirtual 49, 3) := by decide +kernel
theorem dX8_would_4 : decode cX8_would 4 = .ok (.ifCond .eq 11, 3) := by decide +kernel
theorem dX8_would_7 : decode cX8_would 7 = .ok (.aload_n 0, 1) := by decide +kernel
theorem dX8_would_8 : decode cX8_would 8 = .ok (.iconst (-1), 1) := by decide +kernel
theorem dX8_would_9 : decode cX8_would 9 = .ok (.invokevirtual 354, 3) := by decide +kernel
theorem dX8_would_12 : decode cX8_would 12 = .ok (.goto 5, 3) := by decide +kernel
theorem dX8_would_15 : decode cX8_would 15 = .ok (.bipush (-2), 2) := by decide +kernel
theorem dX8_would_17 : decode cX8_would 17 = .ok (.ireturn, 1) := by decide +kernel
theorem dX8_helps_0 : decode cX8_helps 0 = .ok (.aload_n 0, 1) := by decide +kernel
theorem dX8_helps_1 : decode cX8_helps 1 = .ok (.invokevirtual 49, 3) := by decide +kernel
theorem dX8_helps_4 : decode cX8_helps 4 = .ok (.ifCond .eq 13, 3) := by decide +kernel
theorem dX8_helps_7 : decode cX8_helps 7 = .ok (.iload_n 1, 1) := by decide +kernel
theorem dX8_helps_8 : decode cX8_helps 8 = .ok (.i2l, 1) := by decide +kernel
theorem dX8_helps_9 : decode cX8_helps 9 = .ok (.lconst 0, 1) := by decide +kernel
theorem dX8_helps_10 : decode cX8_helps 10 = .ok (.lconst 1, 1) := by decide +kernel
theorem dX8_helps_11 : decode cX8_helps 11 = .ok (.invokestatic 45, 3) := by decide +kernel
theorem dX8_helps_14 : decode cX8_helps 14 = .ok (.ifCond .ne 6, 3) := by decide +kernel
theorem dX8_helps_17 : decode cX8_helps 17 = .ok (.bipush (-2), 2) := by decide +kernel
theorem dX8_helps_19 : decode cX8_helps 19 = .ok (.ireturn, 1) := by decide +kernel
theorem dX8_helps_20 : decode cX8_helps 20 = .ok (.iconst 0, 1) := by decide +kernel
theorem dX8_helps_21 : decode cX8_helps 21 = .ok (.istore_n 2, 1) := by decide +kernel
theorem dX8_helps_22 : decode cX8_helps 22 = .ok (.iconst (-1), 1) := by decide +kernel
theorem dX8_helps_23 : decode cX8_helps 23 = .ok (.istore_n 3, 1) := by decide +kernel
theorem dX8_helps_24 : decode cX8_helps 24 = .ok (.iconst 0, 1) := by decide +kernel
theorem dX8_helps_25 : decode cX8_helps 25 = .ok (.istore 4, 2) := by decide +kernel
theorem dX8_helps_27 : decode cX8_helps 27 = .ok (.iload 4, 2) := by decide +kernel
theorem dX8_helps_29 : decode cX8_helps 29 = .ok (.bipush 24, 2) := by decide +kernel
theorem dX8_helps_31 : decode cX8_helps 31 = .ok (.if_icmp .ge 32, 3) := by decide +kernel
theorem dX8_helps_34 : decode cX8_helps 34 = .ok (.aload_n 0, 1) := by decide +kernel
theorem dX8_helps_35 : decode cX8_helps 35 = .ok (.iload 4, 2) := by decide +kernel
theorem dX8_helps_37 : decode cX8_helps 37 = .ok (.invokevirtual 354, 3) := by decide +kernel
theorem dX8_helps_40 : decode cX8_helps 40 = .ok (.istore 5, 2) := by decide +kernel
theorem dX8_helps_42 : decode cX8_helps 42 = .ok (.iload 5, 2) := by decide +kernel
theorem dX8_helps_44 : decode cX8_helps 44 = .ok (.iload_n 3, 1) := by decide +kernel
theorem dX8_helps_45 : decode cX8_helps 45 = .ok (.if_icmp .gt 6, 3) := by decide +kernel
theorem dX8_helps_48 : decode cX8_helps 48 = .ok (.goto 9, 3) := by decide +kernel
theorem dX8_helps_51 : decode cX8_helps 51 = .ok (.iload 4, 2) := by decide +kernel
theorem dX8_helps_53 : decode cX8_helps 53 = .ok (.istore_n 2, 1) := by decide +kernel
theorem dX8_helps_54 : decode cX8_helps 54 = .ok (.iload 5, 2) := by decide +kernel
theorem dX8_helps_56 : decode cX8_helps 56 = .ok (.istore_n 3, 1) := by decide +kernel
theorem dX8_helps_57 : decode cX8_helps 57 = .ok (.iinc 4 1, 3) := by decide +kernel
theorem dX8_helps_60 : decode cX8_helps 60 = .ok (.goto (-33), 3) := by decide +kernel
theorem dX8_helps_63 : decode cX8_helps 63 = .ok (.iload_n 1, 1) := by decide +kernel
theorem dX8_helps_64 : decode cX8_helps 64 = .ok (.ifCond .ne 7, 3) := by decide +kernel
theorem dX8_helps_67 : decode cX8_helps 67 = .ok (.iload_n 2, 1) := by decide +kernel
theorem dX8_helps_68 : decode cX8_helps 68 = .ok (.goto 4, 3) := by decide +kernel
theorem dX8_helps_71 : decode cX8_helps 71 = .ok (.iload_n 3, 1) := by decide +kernel
theorem dX8_helps_72 : decode cX8_helps 72 = .ok (.ireturn, 1) := by decide +kernel
theorem dX8_turn_0 : decode cX8_turn 0 = .ok (.aload_n 0, 1) := by decide +kernel
theorem dX8_turn_1 : decode cX8_turn 1 = .ok (.iload_n 1, 1) := by decide +kernel
theorem dX8_turn_2 : decode cX8_turn 2 = .ok (.invokevirtual 281, 3) := by decide +kernel
theorem dX8_turn_5 : decode cX8_turn 5 = .ok (.ifCond .ne 6, 3) := by decide +kernel
theorem dX8_turn_8 : decode cX8_turn 8 = .ok (.bipush (-2), 2) := by decide +kernel
theorem dX8_turn_10 : decode cX8_turn 10 = .ok (.ireturn, 1) := by decide +kernel
theorem dX8_turn_11 : decode cX8_turn 11 = .ok (.aload_n 0, 1) := by decide +kernel
theorem dX8_turn_12 : decode cX8_turn 12 = .ok (.iconst (-1), 1) := by decide +kernel
theorem dX8_turn_13 : decode cX8_turn 13 = .ok (.invokevirtual 354, 3) := by decide +kernel
theorem dX8_turn_16 : decode cX8_turn 16 = .ok (.istore_n 2, 1) := by decide +kernel
theorem dX8_turn_17 : decode cX8_turn 17 = .ok (.aload_n 0, 1) := by decide +kernel
theorem dX8_turn_18 : decode cX8_turn 18 = .ok (.getfield 30, 3) := by decide +kernel
theorem dX8_turn_21 : decode cX8_turn 21 = .ok (.iload_n 1, 1) := by decide +kernel
theorem dX8_turn_22 : decode cX8_turn 22 = .ok (.iaload, 1) := by decide +kernel
theorem dX8_turn_23 : decode cX8_turn 23 = .ok (.ireturn, 1) := by decide +kernel
theorem dX8_granted_0 : decode cX8_granted 0 = .ok (.aload_n 0, 1) := by decide +kernel
theorem dX8_granted_1 : decode cX8_granted 1 = .ok (.iload_n 1, 1) := by decide +kernel
theorem dX8_granted_2 : decode cX8_granted 2 = .ok (.invokevirtual 281, 3) := by decide +kernel
theorem dX8_granted_5 : decode cX8_granted 5 = .ok (.ifCond .ne 6, 3) := by decide +kernel
theorem dX8_granted_8 : decode cX8_granted 8 = .ok (.bipush (-2), 2) := by decide +kernel
theorem dX8_granted_10 : decode cX8_granted 10 = .ok (.ireturn, 1) := by decide +kernel
theorem dX8_granted_11 : decode cX8_granted 11 = .ok (.aload_n 0, 1) := by decide +kernel
theorem dX8_granted_12 : decode cX8_granted 12 = .ok (.iconst (-1), 1) := by decide +kernel
theorem dX8_granted_13 : decode cX8_granted 13 = .ok (.invokevirtual 354, 3) := by decide +kernel
theorem dX8_granted_16 : decode cX8_granted 16 = .ok (.istore_n 2, 1) := by decide +kernel
theorem dX8_granted_17 : decode cX8_granted 17 = .ok (.aload_n 0, 1) := by decide +kernel
theorem dX8_granted_18 : decode cX8_granted 18 = .ok (.getfield 33, 3) := by decide +kernel
theorem dX8_granted_21 : decode cX8_granted 21 = .ok (.iload_n 1, 1) := by decide +kernel
theorem dX8_granted_22 : decode cX8_granted 22 = .ok (.iaload, 1) := by decide +kernel
theorem dX8_granted_23 : decode cX8_granted 23 = .ok (.ireturn, 1) := by decide +kernel
theorem dX8_movable_0 : decode cX8_movable 0 = .ok (.aload_n 0, 1) := by decide +kernel
theorem dX8_movable_1 : decode cX8_movable 1 = .ok (.iload_n 1, 1) := by decide +kernel
theorem dX8_movable_2 : decode cX8_movable 2 = .ok (.invokevirtual 273, 3) := by decide +kernel
theorem dX8_movable_5 : decode cX8_movable 5 = .ok (.ifCond .ne 6, 3) := by decide +kernel
theorem dX8_movable_8 : decode cX8_movable 8 = .ok (.bipush (-2), 2) := by decide +kernel
theorem dX8_movable_10 : decode cX8_movable 10 = .ok (.ireturn, 1) := by decide +kernel
theorem dX8_movable_11 : decode cX8_movable 11 = .ok (.iconst 0, 1) := by decide +kernel
theorem dX8_movable_12 : decode cX8_movable 12 = .ok (.istore_n 2, 1) := by decide +kernel
theorem dX8_movable_13 : decode cX8_movable 13 = .ok (.iconst 0, 1) := by decide +kernel
theorem dX8_movable_14 : decode cX8_movable 14 = .ok (.istore_n 3, 1) := by decide +kernel
theorem dX8_movable_15 : decode cX8_movable 15 = .ok (.iload_n 3, 1) := by decide +kernel
theorem dX8_movable_16 : decode cX8_movable 16 = .ok (.bipush 24, 2) := by decide +kernel
theorem dX8_movable_18 : decode cX8_movable 18 = .ok (.if_icmp .ge 28, 3) := by decide +kernel
theorem dX8_movable_21 : decode cX8_movable 21 = .ok (.iload_n 2, 1) := by decide +kernel
theorem dX8_movable_22 : decode cX8_movable 22 = .ok (.aload_n 0, 1) := by decide +kernel
theorem dX8_movable_23 : decode cX8_movable 23 = .ok (.iload_n 1, 1) := by decide +kernel
theorem dX8_movable_24 : decode cX8_movable 24 = .ok (.iload_n 3, 1) := by decide +kernel
theorem dX8_movable_25 : decode cX8_movable 25 = .ok (.invokevirtual 357, 3) := by decide +kernel
theorem dX8_movable_28 : decode cX8_movable 28 = .ok (.ifCond .eq 9, 3) := by decide +kernel
theorem dX8_movable_31 : decode cX8_movable 31 = .ok (.iconst 1, 1) := by decide +kernel
theorem dX8_movable_32 : decode cX8_movable 32 = .ok (.iload_n 3, 1) := by decide +kernel
theorem dX8_movable_33 : decode cX8_movable 33 = .ok (.ishl, 1) := by decide +kernel
theorem dX8_movable_34 : decode cX8_movable 34 = .ok (.goto 4, 3) := by decide +kernel
theorem dX8_movable_37 : decode cX8_movable 37 = .ok (.iconst 0, 1) := by decide +kernel
theorem dX8_movable_38 : decode cX8_movable 38 = .ok (.ior, 1) := by decide +kernel
theorem dX8_movable_39 : decode cX8_movable 39 = .ok (.istore_n 2, 1) := by decide +kernel
theorem dX8_movable_40 : decode cX8_movable 40 = .ok (.iinc 3 1, 3) := by decide +kernel
theorem dX8_movable_43 : decode cX8_movable 43 = .ok (.goto (-28), 3) := by decide +kernel
theorem dX8_movable_46 : decode cX8_movable 46 = .ok (.iload_n 2, 1) := by decide +kernel
theorem dX8_movable_47 : decode cX8_movable 47 = .ok (.ireturn, 1) := by decide +kernel
theorem dX8_canRetime_0 : decode cX8_canRetime 0 = .ok (.aload_n 0, 1) := by decide +kernel
theorem dX8_canRetime_1 : decode cX8_canRetime 1 = .ok (.getfield 9, 3) := by decide +kernel
theorem dX8_canRetime_4 : decode cX8_canRetime 4 = .ok (.iconst 4, 1) := by decide +kernel
theorem dX8_canRetime_5 : decode cX8_canRetime 5 = .ok (.iaload, 1) := by decide +kernel
theorem dX8_canRetime_6 : decode cX8_canRetime 6 = .ok (.aload_n 0, 1) := by decide +kernel
theorem dX8_canRetime_7 : decode cX8_canRetime 7 = .ok (.getfield 9, 3) := by decide +kernel
theorem dX8_canRetime_10 : decode cX8_canRetime 10 = .ok (.iconst 0, 1) := by decide +kernel
theorem dX8_canRetime_11 : decode cX8_canRetime 11 = .ok (.iaload, 1) := by decide +kernel
theorem dX8_canRetime_12 : decode cX8_canRetime 12 = .ok (.if_icmp .ge 26, 3) := by decide +kernel
theorem dX8_canRetime_15 : decode cX8_canRetime 15 = .ok (.aload_n 0, 1) := by decide +kernel
theorem dX8_canRetime_16 : decode cX8_canRetime 16 = .ok (.iload_n 1, 1) := by decide +kernel
theorem dX8_canRetime_17 : decode cX8_canRetime 17 = .ok (.iconst 2, 1) := by decide +kernel
theorem dX8_canRetime_18 : decode cX8_canRetime 18 = .ok (.invokevirtual 67, 3) := by decide +kernel
theorem dX8_canRetime_21 : decode cX8_canRetime 21 = .ok (.iload_n 2, 1) := by decide +kernel
theorem dX8_canRetime_22 : decode cX8_canRetime 22 = .ok (.if_icmp .eq 16, 3) := by decide +kernel
theorem dX8_canRetime_25 : decode cX8_canRetime 25 = .ok (.aload_n 0, 1) := by decide +kernel
theorem dX8_canRetime_26 : decode cX8_canRetime 26 = .ok (.iload_n 1, 1) := by decide +kernel
theorem dX8_canRetime_27 : decode cX8_canRetime 27 = .ok (.iload_n 2, 1) := by decide +kernel
theorem dX8_canRetime_28 : decode cX8_canRetime 28 = .ok (.invokevirtual 360, 3) := by decide +kernel
theorem dX8_canRetime_31 : decode cX8_canRetime 31 = .ok (.ifCond .eq 7, 3) := by decide +kernel
theorem dX8_canRetime_34 : decode cX8_canRetime 34 = .ok (.iconst 1, 1) := by decide +kernel
theorem dX8_canRetime_35 : decode cX8_canRetime 35 = .ok (.goto 4, 3) := by decide +kernel
theorem dX8_canRetime_38 : decode cX8_canRetime 38 = .ok (.iconst 0, 1) := by decide +kernel
theorem dX8_canRetime_39 : decode cX8_canRetime 39 = .ok (.ireturn, 1) := by decide +kernel
theorem dX8_keeps_0 : decode cX8_keeps 0 = .ok (.aload_n 0, 1) := by decide +kernel
theorem dX8_keeps_1 : decode cX8_keeps 1 = .ok (.getfield 262, 3) := by decide +kernel
theorem dX8_keeps_4 : decode cX8_keeps 4 = .ok (.bipush 10, 2) := by decide +kernel
theorem dX8_keeps_6 : decode cX8_keeps 6 = .ok (.if_icmp .ne 46, 3) := by decide +kernel
theorem dX8_keeps_9 : decode cX8_keeps 9 = .ok (.sipush 518, 3) := by decide +kernel
theorem dX8_keeps_12 : decode cX8_keeps 12 = .ok (.istore_n 1, 1) := by decide +kernel
theorem dX8_keeps_13 : decode cX8_keeps 13 = .ok (.iload_n 1, 1) := by decide +kernel
theorem dX8_keeps_14 : decode cX8_keeps 14 = .ok (.sipush 5180, 3) := by decide +kernel
theorem dX8_keeps_17 : decode cX8_keeps 17 = .ok (.if_icmp .ge 25, 3) := by decide +kernel
theorem dX8_keeps_20 : decode cX8_keeps 20 = .ok (.aload_n 0, 1) := by decide +kernel
theorem dX8_keeps_21 : decode cX8_keeps 21 = .ok (.getfield 36, 3) := by decide +kernel
theorem dX8_keeps_24 : decode cX8_keeps 24 = .ok (.iload_n 1, 1) := by decide +kernel
theorem dX8_keeps_25 : decode cX8_keeps 25 = .ok (.sipush 518, 3) := by decide +kernel
theorem dX8_keeps_28 : decode cX8_keeps 28 = .ok (.isub, 1) := by decide +kernel
theorem dX8_keeps_29 : decode cX8_keeps 29 = .ok (.aload_n 0, 1) := by decide +kernel
theorem dX8_keeps_30 : decode cX8_keeps 30 = .ok (.getfield 36, 3) := by decide +kernel
theorem dX8_keeps_33 : decode cX8_keeps 33 = .ok (.iload_n 1, 1) := by decide +kernel
theorem dX8_keeps_34 : decode cX8_keeps 34 = .ok (.iaload, 1) := by decide +kernel
theorem dX8_keeps_35 : decode cX8_keeps 35 = .ok (.iastore, 1) := by decide +kernel
theorem dX8_keeps_36 : decode cX8_keeps 36 = .ok (.iinc 1 1, 3) := by decide +kernel
theorem dX8_keeps_39 : decode cX8_keeps 39 = .ok (.goto (-26), 3) := by decide +kernel
theorem dX8_keeps_42 : decode cX8_keeps 42 = .ok (.aload_n 0, 1) := by decide +kernel
theorem dX8_keeps_43 : decode cX8_keeps 43 = .ok (.dup, 1) := by decide +kernel
theorem dX8_keeps_44 : decode cX8_keeps 44 = .ok (.getfield 262, 3) := by decide +kernel
theorem dX8_keeps_47 : decode cX8_keeps 47 = .ok (.iconst 1, 1) := by decide +kernel
theorem dX8_keeps_48 : decode cX8_keeps 48 = .ok (.isub, 1) := by decide +kernel
theorem dX8_keeps_49 : decode cX8_keeps 49 = .ok (.putfield 262, 3) := by decide +kernel
theorem dX8_keeps_52 : decode cX8_keeps 52 = .ok (.iconst 0, 1) := by decide +kernel
theorem dX8_keeps_53 : decode cX8_keeps 53 = .ok (.istore_n 1, 1) := by decide +kernel
theorem dX8_keeps_54 : decode cX8_keeps 54 = .ok (.iload_n 1, 1) := by decide +kernel
theorem dX8_keeps_55 : decode cX8_keeps 55 = .ok (.sipush 518, 3) := by decide +kernel
theorem dX8_keeps_58 : decode cX8_keeps 58 = .ok (.if_icmp .ge 30, 3) := by decide +kernel
theorem dX8_keeps_61 : decode cX8_keeps 61 = .ok (.aload_n 0, 1) := by decide +kernel
theorem dX8_keeps_62 : decode cX8_keeps 62 = .ok (.getfield 36, 3) := by decide +kernel
theorem dX8_keeps_65 : decode cX8_keeps 65 = .ok (.sipush 518, 3) := by decide +kernel
theorem dX8_keeps_68 : decode cX8_keeps 68 = .ok (.aload_n 0, 1) := by decide +kernel
theorem dX8_keeps_69 : decode cX8_keeps 69 = .ok (.getfield 262, 3) := by decide +kernel
theorem dX8_keeps_72 : decode cX8_keeps 72 = .ok (.imul, 1) := by decide +kernel
theorem dX8_keeps_73 : decode cX8_keeps 73 = .ok (.iload_n 1, 1) := by decide +kernel
theorem dX8_keeps_74 : decode cX8_keeps 74 = .ok (.iadd, 1) := by decide +kernel
theorem dX8_keeps_75 : decode cX8_keeps 75 = .ok (.aload_n 0, 1) := by decide +kernel
theorem dX8_keeps_76 : decode cX8_keeps 76 = .ok (.getfield 9, 3) := by decide +kernel
theorem dX8_keeps_79 : decode cX8_keeps 79 = .ok (.iload_n 1, 1) := by decide +kernel
theorem dX8_keeps_80 : decode cX8_keeps 80 = .ok (.iaload, 1) := by decide +kernel
theorem dX8_keeps_81 : decode cX8_keeps 81 = .ok (.iastore, 1) := by decide +kernel
theorem dX8_keeps_82 : decode cX8_keeps 82 = .ok (.iinc 1 1, 3) := by decide +kernel
theorem dX8_keeps_85 : decode cX8_keeps 85 = .ok (.goto (-31), 3) := by decide +kernel
theorem dX8_keeps_88 : decode cX8_keeps 88 = .ok (.aload_n 0, 1) := by decide +kernel
theorem dX8_keeps_89 : decode cX8_keeps 89 = .ok (.dup, 1) := by decide +kernel
theorem dX8_keeps_90 : decode cX8_keeps 90 = .ok (.getfield 262, 3) := by decide +kernel
theorem dX8_keeps_93 : decode cX8_keeps 93 = .ok (.iconst 1, 1) := by decide +kernel
theorem dX8_keeps_94 : decode cX8_keeps 94 = .ok (.iadd, 1) := by decide +kernel
theorem dX8_keeps_95 : decode cX8_keeps 95 = .ok (.putfield 262, 3) := by decide +kernel
theorem dX8_keeps_98 : decode cX8_keeps 98 = .ok (.return_, 1) := by decide +kernel
theorem dX8_undo_0 : decode cX8_undo 0 = .ok (.aload_n 0, 1) := by decide +kernel
theorem dX8_undo_1 : decode cX8_undo 1 = .ok (.getfield 262, 3) := by decide +kernel
theorem dX8_undo_4 : decode cX8_undo 4 = .ok (.ifCond .ne 5, 3) := by decide +kernel
theorem dX8_undo_7 : decode cX8_undo 7 = .ok (.iconst (-1), 1) := by decide +kernel
theorem dX8_undo_8 : decode cX8_undo 8 = .ok (.ireturn, 1) := by decide +kernel
theorem dX8_undo_9 : decode cX8_undo 9 = .ok (.aload_n 0, 1) := by decide +kernel
theorem dX8_undo_10 : decode cX8_undo 10 = .ok (.dup, 1) := by decide +kernel
theorem dX8_undo_11 : decode cX8_undo 11 = .ok (.getfield 262, 3) := by decide +kernel
theorem dX8_undo_14 : decode cX8_undo 14 = .ok (.iconst 1, 1) := by decide +kernel
theorem dX8_undo_15 : decode cX8_undo 15 = .ok (.isub, 1) := by decide +kernel
theorem dX8_undo_16 : decode cX8_undo 16 = .ok (.putfield 262, 3) := by decide +kernel
theorem dX8_undo_19 : decode cX8_undo 19 = .ok (.iconst 0, 1) := by decide +kernel
theorem dX8_undo_20 : decode cX8_undo 20 = .ok (.istore_n 1, 1) := by decide +kernel
theorem dX8_undo_21 : decode cX8_undo 21 = .ok (.iload_n 1, 1) := by decide +kernel
theorem dX8_undo_22 : decode cX8_undo 22 = .ok (.sipush 518, 3) := by decide +kernel
theorem dX8_undo_25 : decode cX8_undo 25 = .ok (.if_icmp .ge 30, 3) := by decide +kernel
theorem dX8_undo_28 : decode cX8_undo 28 = .ok (.aload_n 0, 1) := by decide +kernel
theorem dX8_undo_29 : decode cX8_undo 29 = .ok (.getfield 9, 3) := by decide +kernel
theorem dX8_undo_32 : decode cX8_undo 32 = .ok (.iload_n 1, 1) := by decide +kernel
theorem dX8_undo_33 : decode cX8_undo 33 = .ok (.aload_n 0, 1) := by decide +kernel
theorem dX8_undo_34 : decode cX8_undo 34 = .ok (.getfield 36, 3) := by decide +kernel
theorem dX8_undo_37 : decode cX8_undo 37 = .ok (.sipush 518, 3) := by decide +kernel
theorem dX8_undo_40 : decode cX8_undo 40 = .ok (.aload_n 0, 1) := by decide +kernel
theorem dX8_undo_41 : decode cX8_undo 41 = .ok (.getfield 262, 3) := by decide +kernel
theorem dX8_undo_44 : decode cX8_undo 44 = .ok (.imul, 1) := by decide +kernel
theorem dX8_undo_45 : decode cX8_undo 45 = .ok (.iload_n 1, 1) := by decide +kernel
theorem dX8_undo_46 : decode cX8_undo 46 = .ok (.iadd, 1) := by decide +kernel
theorem dX8_undo_47 : decode cX8_undo 47 = .ok (.iaload, 1) := by decide +kernel
theorem dX8_undo_48 : decode cX8_undo 48 = .ok (.iastore, 1) := by decide +kernel
theorem dX8_undo_49 : decode cX8_undo 49 = .ok (.iinc 1 1, 3) := by decide +kernel
theorem dX8_undo_52 : decode cX8_undo 52 = .ok (.goto (-31), 3) := by decide +kernel
theorem dX8_undo_55 : decode cX8_undo 55 = .ok (.aload_n 0, 1) := by decide +kernel
theorem dX8_undo_56 : decode cX8_undo 56 = .ok (.getfield 262, 3) := by decide +kernel
theorem dX8_undo_59 : decode cX8_undo 59 = .ok (.ireturn, 1) := by decide +kernel
theorem dX8_goes_0 : decode cX8_goes 0 = .ok (.aload_n 0, 1) := by decide +kernel
theorem dX8_goes_1 : decode cX8_goes 1 = .ok (.iload_n 1, 1) := by decide +kernel
theorem dX8_goes_2 : decode cX8_goes 2 = .ok (.bipush 7, 2) := by decide +kernel
theorem dX8_goes_4 : decode cX8_goes 4 = .ok (.iload_n 3, 1) := by decide +kernel
theorem dX8_goes_5 : decode cX8_goes 5 = .ok (.iadd, 1) := by decide +kernel
theorem dX8_goes_6 : decode cX8_goes 6 = .ok (.aload_n 0, 1) := by decide +kernel
theorem dX8_goes_7 : decode cX8_goes 7 = .ok (.iload_n 1, 1) := by decide +kernel
theorem dX8_goes_8 : decode cX8_goes 8 = .ok (.bipush 7, 2) := by decide +kernel
theorem dX8_goes_10 : decode cX8_goes 10 = .ok (.iload_n 3, 1) := by decide +kernel
theorem dX8_goes_11 : decode cX8_goes 11 = .ok (.iadd, 1) := by decide +kernel
theorem dX8_goes_12 : decode cX8_goes 12 = .ok (.invokevirtual 67, 3) := by decide +kernel
theorem dX8_goes_15 : decode cX8_goes 15 = .ok (.iload_n 2, 1) := by decide +kernel
theorem dX8_goes_16 : decode cX8_goes 16 = .ok (.iconst (-1), 1) := by decide +kernel
theorem dX8_goes_17 : decode cX8_goes 17 = .ok (.ixor, 1) := by decide +kernel
theorem dX8_goes_18 : decode cX8_goes 18 = .ok (.iand, 1) := by decide +kernel
theorem dX8_goes_19 : decode cX8_goes 19 = .ok (.invokevirtual 230, 3) := by decide +kernel
theorem dX8_goes_22 : decode cX8_goes 22 = .ok (.aload_n 0, 1) := by decide +kernel
theorem dX8_goes_23 : decode cX8_goes 23 = .ok (.iload_n 1, 1) := by decide +kernel
theorem dX8_goes_24 : decode cX8_goes 24 = .ok (.bipush 7, 2) := by decide +kernel
theorem dX8_goes_26 : decode cX8_goes 26 = .ok (.iload 4, 2) := by decide +kernel
theorem dX8_goes_28 : decode cX8_goes 28 = .ok (.iadd, 1) := by decide +kernel
theorem dX8_goes_29 : decode cX8_goes 29 = .ok (.aload_n 0, 1) := by decide +kernel
theorem dX8_goes_30 : decode cX8_goes 30 = .ok (.iload_n 1, 1) := by decide +kernel
theorem dX8_goes_31 : decode cX8_goes 31 = .ok (.bipush 7, 2) := by decide +kernel
theorem dX8_goes_33 : decode cX8_goes 33 = .ok (.iload 4, 2) := by decide +kernel
theorem dX8_goes_35 : decode cX8_goes 35 = .ok (.iadd, 1) := by decide +kernel
theorem dX8_goes_36 : decode cX8_goes 36 = .ok (.invokevirtual 67, 3) := by decide +kernel
theorem dX8_goes_39 : decode cX8_goes 39 = .ok (.iload_n 2, 1) := by decide +kernel
theorem dX8_goes_40 : decode cX8_goes 40 = .ok (.ior, 1) := by decide +kernel
theorem dX8_goes_41 : decode cX8_goes 41 = .ok (.invokevirtual 230, 3) := by decide +kernel
theorem dX8_goes_44 : decode cX8_goes 44 = .ok (.return_, 1) := by decide +kernel
theorem dX8_isComing_0 : decode cX8_isComing 0 = .ok (.iload_n 1, 1) := by decide +kernel
theorem dX8_isComing_1 : decode cX8_isComing 1 = .ok (.aload_n 0, 1) := by decide +kernel
theorem dX8_isComing_2 : decode cX8_isComing 2 = .ok (.getfield 9, 3) := by decide +kernel
theorem dX8_isComing_5 : decode cX8_isComing 5 = .ok (.iconst 4, 1) := by decide +kernel
theorem dX8_isComing_6 : decode cX8_isComing 6 = .ok (.iaload, 1) := by decide +kernel
theorem dX8_isComing_7 : decode cX8_isComing 7 = .ok (.if_icmp .lt 7, 3) := by decide +kernel
theorem dX8_isComing_10 : decode cX8_isComing 10 = .ok (.iconst 1, 1) := by decide +kernel
theorem dX8_isComing_11 : decode cX8_isComing 11 = .ok (.goto 4, 3) := by decide +kernel
theorem dX8_isComing_14 : decode cX8_isComing 14 = .ok (.iconst 0, 1) := by decide +kernel
theorem dX8_isComing_15 : decode cX8_isComing 15 = .ok (.ireturn, 1) := by decide +kernel
theorem dX8_miss_0 : decode cX8_miss 0 = .ok (.aload_n 0, 1) := by decide +kernel
theorem dX8_miss_1 : decode cX8_miss 1 = .ok (.iload_n 1, 1) := by decide +kernel
theorem dX8_miss_2 : decode cX8_miss 2 = .ok (.invokevirtual 273, 3) := by decide +kernel
theorem dX8_miss_5 : decode cX8_miss 5 = .ok (.ifCond .eq 11, 3) := by decide +kernel
theorem dX8_miss_8 : decode cX8_miss 8 = .ok (.aload_n 0, 1) := by decide +kernel
theorem dX8_miss_9 : decode cX8_miss 9 = .ok (.iload_n 2, 1) := by decide +kernel
theorem dX8_miss_10 : decode cX8_miss 10 = .ok (.invokevirtual 57, 3) := by decide +kernel
theorem dX8_miss_13 : decode cX8_miss 13 = .ok (.ifCond .ne 6, 3) := by decide +kernel
theorem dX8_miss_16 : decode cX8_miss 16 = .ok (.bipush (-2), 2) := by decide +kernel
theorem dX8_miss_18 : decode cX8_miss 18 = .ok (.ireturn, 1) := by decide +kernel
theorem dX8_miss_19 : decode cX8_miss 19 = .ok (.aload_n 0, 1) := by decide +kernel
theorem dX8_miss_20 : decode cX8_miss 20 = .ok (.iload_n 1, 1) := by decide +kernel
theorem dX8_miss_21 : decode cX8_miss 21 = .ok (.iload_n 2, 1) := by decide +kernel
theorem dX8_miss_22 : decode cX8_miss 22 = .ok (.invokevirtual 278, 3) := by decide +kernel
theorem dX8_miss_25 : decode cX8_miss 25 = .ok (.ifCond .ne 11, 3) := by decide +kernel
theorem dX8_miss_28 : decode cX8_miss 28 = .ok (.aload_n 0, 1) := by decide +kernel
theorem dX8_miss_29 : decode cX8_miss 29 = .ok (.iload_n 2, 1) := by decide +kernel
theorem dX8_miss_30 : decode cX8_miss 30 = .ok (.invokevirtual 363, 3) := by decide +kernel
theorem dX8_miss_33 : decode cX8_miss 33 = .ok (.ifCond .ne 6, 3) := by decide +kernel
theorem dX8_miss_36 : decode cX8_miss 36 = .ok (.bipush (-6), 2) := by decide +kernel
theorem dX8_miss_38 : decode cX8_miss 38 = .ok (.ireturn, 1) := by decide +kernel
theorem dX8_miss_39 : decode cX8_miss 39 = .ok (.aload_n 0, 1) := by decide +kernel
theorem dX8_miss_40 : decode cX8_miss 40 = .ok (.invokevirtual 366, 3) := by decide +kernel
theorem dX8_miss_43 : decode cX8_miss 43 = .ok (.aload_n 0, 1) := by decide +kernel
theorem dX8_miss_44 : decode cX8_miss 44 = .ok (.iload_n 1, 1) := by decide +kernel
theorem dX8_miss_45 : decode cX8_miss 45 = .ok (.iconst 1, 1) := by decide +kernel
theorem dX8_miss_46 : decode cX8_miss 46 = .ok (.iload_n 2, 1) := by decide +kernel
theorem dX8_miss_47 : decode cX8_miss 47 = .ok (.ishl, 1) := by decide +kernel
theorem dX8_miss_48 : decode cX8_miss 48 = .ok (.iconst 0, 1) := by decide +kernel
theorem dX8_miss_49 : decode cX8_miss 49 = .ok (.iconst 2, 1) := by decide +kernel
theorem dX8_miss_50 : decode cX8_miss 50 = .ok (.invokevirtual 369, 3) := by decide +kernel
theorem dX8_miss_53 : decode cX8_miss 53 = .ok (.aload_n 0, 1) := by decide +kernel
theorem dX8_miss_54 : decode cX8_miss 54 = .ok (.iload_n 1, 1) := by decide +kernel
theorem dX8_miss_55 : decode cX8_miss 55 = .ok (.invokevirtual 308, 3) := by decide +kernel
theorem dX8_miss_58 : decode cX8_miss 58 = .ok (.ireturn, 1) := by decide +kernel
theorem dX8_excuse_0 : decode cX8_excuse 0 = .ok (.aload_n 0, 1) := by decide +kernel
theorem dX8_excuse_1 : decode cX8_excuse 1 = .ok (.iload_n 1, 1) := by decide +kernel
theorem dX8_excuse_2 : decode cX8_excuse 2 = .ok (.invokevirtual 273, 3) := by decide +kernel
theorem dX8_excuse_5 : decode cX8_excuse 5 = .ok (.ifCond .eq 11, 3) := by decide +kernel
theorem dX8_excuse_8 : decode cX8_excuse 8 = .ok (.aload_n 0, 1) := by decide +kernel
theorem dX8_excuse_9 : decode cX8_excuse 9 = .ok (.iload_n 2, 1) := by decide +kernel
theorem dX8_excuse_10 : decode cX8_excuse 10 = .ok (.invokevirtual 57, 3) := by decide +kernel
theorem dX8_excuse_13 : decode cX8_excuse 13 = .ok (.ifCond .ne 6, 3) := by decide +kernel
theorem dX8_excuse_16 : decode cX8_excuse 16 = .ok (.bipush (-2), 2) := by decide +kernel
theorem dX8_excuse_18 : decode cX8_excuse 18 = .ok (.ireturn, 1) := by decide +kernel
theorem dX8_excuse_19 : decode cX8_excuse 19 = .ok (.aload_n 0, 1) := by decide +kernel
theorem dX8_excuse_20 : decode cX8_excuse 20 = .ok (.iload_n 1, 1) := by decide +kernel
theorem dX8_excuse_21 : decode cX8_excuse 21 = .ok (.iload_n 2, 1) := by decide +kernel
theorem dX8_excuse_22 : decode cX8_excuse 22 = .ok (.invokevirtual 278, 3) := by decide +kernel
theorem dX8_excuse_25 : decode cX8_excuse 25 = .ok (.istore_n 3, 1) := by decide +kernel
theorem dX8_excuse_26 : decode cX8_excuse 26 = .ok (.iload_n 3, 1) := by decide +kernel
theorem dX8_excuse_27 : decode cX8_excuse 27 = .ok (.ifCond .eq 11, 3) := by decide +kernel
theorem dX8_excuse_30 : decode cX8_excuse 30 = .ok (.iload_n 3, 1) := by decide +kernel
theorem dX8_excuse_31 : decode cX8_excuse 31 = .ok (.iconst 2, 1) := by decide +kernel
theorem dX8_excuse_32 : decode cX8_excuse 32 = .ok (.if_icmp .eq 6, 3) := by decide +kernel
theorem dX8_excuse_35 : decode cX8_excuse 35 = .ok (.bipush (-6), 2) := by decide +kernel
theorem dX8_excuse_37 : decode cX8_excuse 37 = .ok (.ireturn, 1) := by decide +kernel
theorem dX8_excuse_38 : decode cX8_excuse 38 = .ok (.aload_n 0, 1) := by decide +kernel
theorem dX8_excuse_39 : decode cX8_excuse 39 = .ok (.invokevirtual 366, 3) := by decide +kernel
theorem dX8_excuse_42 : decode cX8_excuse 42 = .ok (.aload_n 0, 1) := by decide +kernel
theorem dX8_excuse_43 : decode cX8_excuse 43 = .ok (.iload_n 1, 1) := by decide +kernel
theorem dX8_excuse_44 : decode cX8_excuse 44 = .ok (.iconst 1, 1) := by decide +kernel
theorem dX8_excuse_45 : decode cX8_excuse 45 = .ok (.iload_n 2, 1) := by decide +kernel
theorem dX8_excuse_46 : decode cX8_excuse 46 = .ok (.ishl, 1) := by decide +kernel
theorem dX8_excuse_47 : decode cX8_excuse 47 = .ok (.iload_n 3, 1) := by decide +kernel
theorem dX8_excuse_48 : decode cX8_excuse 48 = .ok (.iconst 3, 1) := by decide +kernel
theorem dX8_excuse_49 : decode cX8_excuse 49 = .ok (.invokevirtual 369, 3) := by decide +kernel
theorem dX8_excuse_52 : decode cX8_excuse 52 = .ok (.aload_n 0, 1) := by decide +kernel
theorem dX8_excuse_53 : decode cX8_excuse 53 = .ok (.iload_n 1, 1) := by decide +kernel
theorem dX8_excuse_54 : decode cX8_excuse 54 = .ok (.invokevirtual 299, 3) := by decide +kernel
theorem dX8_excuse_57 : decode cX8_excuse 57 = .ok (.ireturn, 1) := by decide +kernel
theorem dX8_fly_0 : decode cX8_fly 0 = .ok (.aload_n 0, 1) := by decide +kernel
theorem dX8_fly_1 : decode cX8_fly 1 = .ok (.iload_n 1, 1) := by decide +kernel
theorem dX8_fly_2 : decode cX8_fly 2 = .ok (.invokevirtual 273, 3) := by decide +kernel
theorem dX8_fly_5 : decode cX8_fly 5 = .ok (.ifCond .eq 11, 3) := by decide +kernel
theorem dX8_fly_8 : decode cX8_fly 8 = .ok (.aload_n 0, 1) := by decide +kernel
theorem dX8_fly_9 : decode cX8_fly 9 = .ok (.iload_n 2, 1) := by decide +kernel
theorem dX8_fly_10 : decode cX8_fly 10 = .ok (.invokevirtual 57, 3) := by decide +kernel
theorem dX8_fly_13 : decode cX8_fly 13 = .ok (.ifCond .ne 6, 3) := by decide +kernel
theorem dX8_fly_16 : decode cX8_fly 16 = .ok (.bipush (-2), 2) := by decide +kernel
theorem dX8_fly_18 : decode cX8_fly 18 = .ok (.ireturn, 1) := by decide +kernel
theorem dX8_fly_19 : decode cX8_fly 19 = .ok (.aload_n 0, 1) := by decide +kernel
theorem dX8_fly_20 : decode cX8_fly 20 = .ok (.iload_n 1, 1) := by decide +kernel
theorem dX8_fly_21 : decode cX8_fly 21 = .ok (.iload_n 2, 1) := by decide +kernel
theorem dX8_fly_22 : decode cX8_fly 22 = .ok (.invokevirtual 278, 3) := by decide +kernel
theorem dX8_fly_25 : decode cX8_fly 25 = .ok (.istore_n 3, 1) := by decide +kernel
theorem dX8_fly_26 : decode cX8_fly 26 = .ok (.iload_n 3, 1) := by decide +kernel
theorem dX8_fly_27 : decode cX8_fly 27 = .ok (.iconst 2, 1) := by decide +kernel
theorem dX8_fly_28 : decode cX8_fly 28 = .ok (.if_icmp .eq 8, 3) := by decide +kernel
theorem dX8_fly_31 : decode cX8_fly 31 = .ok (.iload_n 3, 1) := by decide +kernel
theorem dX8_fly_32 : decode cX8_fly 32 = .ok (.iconst 3, 1) := by decide +kernel
theorem dX8_fly_33 : decode cX8_fly 33 = .ok (.if_icmp .ne 11, 3) := by decide +kernel
theorem dX8_fly_36 : decode cX8_fly 36 = .ok (.aload_n 0, 1) := by decide +kernel
theorem dX8_fly_37 : decode cX8_fly 37 = .ok (.iload_n 2, 1) := by decide +kernel
theorem dX8_fly_38 : decode cX8_fly 38 = .ok (.invokevirtual 363, 3) := by decide +kernel
theorem dX8_fly_41 : decode cX8_fly 41 = .ok (.ifCond .ne 6, 3) := by decide +kernel
theorem dX8_fly_44 : decode cX8_fly 44 = .ok (.bipush (-6), 2) := by decide +kernel
theorem dX8_fly_46 : decode cX8_fly 46 = .ok (.ireturn, 1) := by decide +kernel
theorem dX8_fly_47 : decode cX8_fly 47 = .ok (.aload_n 0, 1) := by decide +kernel
theorem dX8_fly_48 : decode cX8_fly 48 = .ok (.invokevirtual 366, 3) := by decide +kernel
theorem dX8_fly_51 : decode cX8_fly 51 = .ok (.aload_n 0, 1) := by decide +kernel
theorem dX8_fly_52 : decode cX8_fly 52 = .ok (.iload_n 1, 1) := by decide +kernel
theorem dX8_fly_53 : decode cX8_fly 53 = .ok (.iconst 1, 1) := by decide +kernel
theorem dX8_fly_54 : decode cX8_fly 54 = .ok (.iload_n 2, 1) := by decide +kernel
theorem dX8_fly_55 : decode cX8_fly 55 = .ok (.ishl, 1) := by decide +kernel
theorem dX8_fly_56 : decode cX8_fly 56 = .ok (.iload_n 3, 1) := by decide +kernel
theorem dX8_fly_57 : decode cX8_fly 57 = .ok (.iconst 0, 1) := by decide +kernel
theorem dX8_fly_58 : decode cX8_fly 58 = .ok (.invokevirtual 369, 3) := by decide +kernel
theorem dX8_fly_61 : decode cX8_fly 61 = .ok (.iload_n 3, 1) := by decide +kernel
theorem dX8_fly_62 : decode cX8_fly 62 = .ok (.ireturn, 1) := by decide +kernel
theorem dX8_openFrom_0 : decode cX8_openFrom 0 = .ok (.iload_n 2, 1) := by decide +kernel
theorem dX8_openFrom_1 : decode cX8_openFrom 1 = .ok (.aload_n 0, 1) := by decide +kernel
theorem dX8_openFrom_2 : decode cX8_openFrom 2 = .ok (.getfield 9, 3) := by decide +kernel
theorem dX8_openFrom_5 : decode cX8_openFrom 5 = .ok (.iconst 0, 1) := by decide +kernel
theorem dX8_openFrom_6 : decode cX8_openFrom 6 = .ok (.iaload, 1) := by decide +kernel
theorem dX8_openFrom_7 : decode cX8_openFrom 7 = .ok (.if_icmp .ge 26, 3) := by decide +kernel
theorem dX8_openFrom_10 : decode cX8_openFrom 10 = .ok (.aload_n 0, 1) := by decide +kernel
theorem dX8_openFrom_11 : decode cX8_openFrom 11 = .ok (.iload_n 1, 1) := by decide +kernel
theorem dX8_openFrom_12 : decode cX8_openFrom 12 = .ok (.bipush 7, 2) := by decide +kernel
theorem dX8_openFrom_14 : decode cX8_openFrom 14 = .ok (.invokevirtual 67, 3) := by decide +kernel
theorem dX8_openFrom_17 : decode cX8_openFrom 17 = .ok (.iload_n 2, 1) := by decide +kernel
theorem dX8_openFrom_18 : decode cX8_openFrom 18 = .ok (.aload_n 0, 1) := by decide +kernel
theorem dX8_openFrom_19 : decode cX8_openFrom 19 = .ok (.getfield 9, 3) := by decide +kernel
theorem dX8_openFrom_22 : decode cX8_openFrom 22 = .ok (.iconst 0, 1) := by decide +kernel
theorem dX8_openFrom_23 : decode cX8_openFrom 23 = .ok (.iaload, 1) := by decide +kernel
theorem dX8_openFrom_24 : decode cX8_openFrom 24 = .ok (.iconst 1, 1) := by decide +kernel
theorem dX8_openFrom_25 : decode cX8_openFrom 25 = .ok (.isub, 1) := by decide +kernel
theorem dX8_openFrom_26 : decode cX8_openFrom 26 = .ok (.invokestatic 79, 3) := by decide +kernel
theorem dX8_openFrom_29 : decode cX8_openFrom 29 = .ok (.iand, 1) := by decide +kernel
theorem dX8_openFrom_30 : decode cX8_openFrom 30 = .ok (.goto 4, 3) := by decide +kernel
theorem dX8_openFrom_33 : decode cX8_openFrom 33 = .ok (.iconst 0, 1) := by decide +kernel
theorem dX8_openFrom_34 : decode cX8_openFrom 34 = .ok (.ireturn, 1) := by decide +kernel
theorem dX8_back_0 : decode cX8_back 0 = .ok (.aload_n 0, 1) := by decide +kernel
theorem dX8_back_1 : decode cX8_back 1 = .ok (.iload_n 1, 1) := by decide +kernel
theorem dX8_back_2 : decode cX8_back 2 = .ok (.invokevirtual 273, 3) := by decide +kernel
theorem dX8_back_5 : decode cX8_back 5 = .ok (.ifCond .eq 11, 3) := by decide +kernel
theorem dX8_back_8 : decode cX8_back 8 = .ok (.aload_n 0, 1) := by decide +kernel
theorem dX8_back_9 : decode cX8_back 9 = .ok (.iload_n 2, 1) := by decide +kernel
theorem dX8_back_10 : decode cX8_back 10 = .ok (.invokevirtual 57, 3) := by decide +kernel
theorem dX8_back_13 : decode cX8_back 13 = .ok (.ifCond .ne 6, 3) := by decide +kernel
theorem dX8_back_16 : decode cX8_back 16 = .ok (.bipush (-2), 2) := by decide +kernel
theorem dX8_back_18 : decode cX8_back 18 = .ok (.ireturn, 1) := by decide +kernel
theorem dX8_back_19 : decode cX8_back 19 = .ok (.iload_n 2, 1) := by decide +kernel
theorem dX8_back_20 : decode cX8_back 20 = .ok (.aload_n 0, 1) := by decide +kernel
theorem dX8_back_21 : decode cX8_back 21 = .ok (.getfield 9, 3) := by decide +kernel
theorem dX8_back_24 : decode cX8_back 24 = .ok (.iconst 4, 1) := by decide +kernel
theorem dX8_back_25 : decode cX8_back 25 = .ok (.iaload, 1) := by decide +kernel
theorem dX8_back_26 : decode cX8_back 26 = .ok (.iconst 4, 1) := by decide +kernel
theorem dX8_back_27 : decode cX8_back 27 = .ok (.iadd, 1) := by decide +kernel
theorem dX8_back_28 : decode cX8_back 28 = .ok (.if_icmp .ge 6, 3) := by decide +kernel
theorem dX8_back_31 : decode cX8_back 31 = .ok (.bipush (-6), 2) := by decide +kernel
theorem dX8_back_33 : decode cX8_back 33 = .ok (.ireturn, 1) := by decide +kernel
theorem dX8_back_34 : decode cX8_back 34 = .ok (.aload_n 0, 1) := by decide +kernel
theorem dX8_back_35 : decode cX8_back 35 = .ok (.iload_n 1, 1) := by decide +kernel
theorem dX8_back_36 : decode cX8_back 36 = .ok (.iload_n 2, 1) := by decide +kernel
theorem dX8_back_37 : decode cX8_back 37 = .ok (.invokevirtual 373, 3) := by decide +kernel
theorem dX8_back_40 : decode cX8_back 40 = .ok (.istore_n 3, 1) := by decide +kernel
theorem dX8_back_41 : decode cX8_back 41 = .ok (.iload_n 3, 1) := by decide +kernel
theorem dX8_back_42 : decode cX8_back 42 = .ok (.ifCond .ne 5, 3) := by decide +kernel
theorem dX8_back_45 : decode cX8_back 45 = .ok (.iconst 0, 1) := by decide +kernel
theorem dX8_back_46 : decode cX8_back 46 = .ok (.ireturn, 1) := by decide +kernel
theorem dX8_back_47 : decode cX8_back 47 = .ok (.aload_n 0, 1) := by decide +kernel
theorem dX8_back_48 : decode cX8_back 48 = .ok (.invokevirtual 366, 3) := by decide +kernel
theorem dX8_back_51 : decode cX8_back 51 = .ok (.aload_n 0, 1) := by decide +kernel
theorem dX8_back_52 : decode cX8_back 52 = .ok (.iload_n 1, 1) := by decide +kernel
theorem dX8_back_53 : decode cX8_back 53 = .ok (.iload_n 3, 1) := by decide +kernel
theorem dX8_back_54 : decode cX8_back 54 = .ok (.iconst 0, 1) := by decide +kernel
theorem dX8_back_55 : decode cX8_back 55 = .ok (.iconst 4, 1) := by decide +kernel
theorem dX8_back_56 : decode cX8_back 56 = .ok (.invokevirtual 369, 3) := by decide +kernel
theorem dX8_back_59 : decode cX8_back 59 = .ok (.iload_n 3, 1) := by decide +kernel
theorem dX8_back_60 : decode cX8_back 60 = .ok (.invokestatic 296, 3) := by decide +kernel
theorem dX8_back_63 : decode cX8_back 63 = .ok (.ireturn, 1) := by decide +kernel
theorem dX8_gives_0 : decode cX8_gives 0 = .ok (.aload_n 0, 1) := by decide +kernel
theorem dX8_gives_1 : decode cX8_gives 1 = .ok (.iload_n 1, 1) := by decide +kernel
theorem dX8_gives_2 : decode cX8_gives 2 = .ok (.invokevirtual 265, 3) := by decide +kernel
theorem dX8_gives_5 : decode cX8_gives 5 = .ok (.ifCond .eq 11, 3) := by decide +kernel
theorem dX8_gives_8 : decode cX8_gives 8 = .ok (.aload_n 0, 1) := by decide +kernel
theorem dX8_gives_9 : decode cX8_gives 9 = .ok (.iload_n 2, 1) := by decide +kernel
theorem dX8_gives_10 : decode cX8_gives 10 = .ok (.invokevirtual 61, 3) := by decide +kernel
theorem dX8_gives_13 : decode cX8_gives 13 = .ok (.ifCond .ne 6, 3) := by decide +kernel
theorem dX8_gives_16 : decode cX8_gives 16 = .ok (.bipush (-2), 2) := by decide +kernel
theorem dX8_gives_18 : decode cX8_gives 18 = .ok (.ireturn, 1) := by decide +kernel
theorem dX8_gives_19 : decode cX8_gives 19 = .ok (.iconst 0, 1) := by decide +kernel
theorem dX8_gives_20 : decode cX8_gives 20 = .ok (.istore_n 3, 1) := by decide +kernel
theorem dX8_gives_21 : decode cX8_gives 21 = .ok (.iconst 0, 1) := by decide +kernel
theorem dX8_gives_22 : decode cX8_gives 22 = .ok (.istore 4, 2) := by decide +kernel
theorem dX8_gives_24 : decode cX8_gives 24 = .ok (.iload 4, 2) := by decide +kernel
theorem dX8_gives_26 : decode cX8_gives 26 = .ok (.aload_n 0, 1) := by decide +kernel
theorem dX8_gives_27 : decode cX8_gives 27 = .ok (.getfield 9, 3) := by decide +kernel
theorem dX8_gives_30 : decode cX8_gives 30 = .ok (.iconst 2, 1) := by decide +kernel
theorem dX8_gives_31 : decode cX8_gives 31 = .ok (.iaload, 1) := by decide +kernel
theorem dX8_gives_32 : decode cX8_gives 32 = .ok (.if_icmp .ge 81, 3) := by decide +kernel
theorem dX8_gives_35 : decode cX8_gives 35 = .ok (.aload_n 0, 1) := by decide +kernel
theorem dX8_gives_36 : decode cX8_gives 36 = .ok (.iload 4, 2) := by decide +kernel
theorem dX8_gives_38 : decode cX8_gives 38 = .ok (.iconst 0, 1) := by decide +kernel
theorem dX8_gives_39 : decode cX8_gives 39 = .ok (.invokevirtual 67, 3) := by decide +kernel
theorem dX8_gives_42 : decode cX8_gives 42 = .ok (.iload_n 1, 1) := by decide +kernel
theorem dX8_gives_43 : decode cX8_gives 43 = .ok (.if_icmp .ne 64, 3) := by decide +kernel
theorem dX8_gives_46 : decode cX8_gives 46 = .ok (.aload_n 0, 1) := by decide +kernel
theorem dX8_gives_47 : decode cX8_gives 47 = .ok (.iload 4, 2) := by decide +kernel
theorem dX8_gives_49 : decode cX8_gives 49 = .ok (.iconst 1, 1) := by decide +kernel
theorem dX8_gives_50 : decode cX8_gives 50 = .ok (.invokevirtual 67, 3) := by decide +kernel
theorem dX8_gives_53 : decode cX8_gives 53 = .ok (.iload_n 2, 1) := by decide +kernel
theorem dX8_gives_54 : decode cX8_gives 54 = .ok (.if_icmp .eq 6, 3) := by decide +kernel
theorem dX8_gives_57 : decode cX8_gives 57 = .ok (.goto 50, 3) := by decide +kernel
theorem dX8_gives_60 : decode cX8_gives 60 = .ok (.aload_n 0, 1) := by decide +kernel
theorem dX8_gives_61 : decode cX8_gives 61 = .ok (.iload 4, 2) := by decide +kernel
theorem dX8_gives_63 : decode cX8_gives 63 = .ok (.aload_n 0, 1) := by decide +kernel
theorem dX8_gives_64 : decode cX8_gives 64 = .ok (.getfield 9, 3) := by decide +kernel
theorem dX8_gives_67 : decode cX8_gives 67 = .ok (.iconst 4, 1) := by decide +kernel
theorem dX8_gives_68 : decode cX8_gives 68 = .ok (.iaload, 1) := by decide +kernel
theorem dX8_gives_69 : decode cX8_gives 69 = .ok (.iconst 4, 1) := by decide +kernel
theorem dX8_gives_70 : decode cX8_gives 70 = .ok (.iadd, 1) := by decide +kernel
theorem dX8_gives_71 : decode cX8_gives 71 = .ok (.invokevirtual 373, 3) := by decide +kernel
theorem dX8_gives_74 : decode cX8_gives 74 = .ok (.istore 5, 2) := by decide +kernel
theorem dX8_gives_76 : decode cX8_gives 76 = .ok (.iload 5, 2) := by decide +kernel
theorem dX8_gives_78 : decode cX8_gives 78 = .ok (.ifCond .eq 11, 3) := by decide +kernel
theorem dX8_gives_81 : decode cX8_gives 81 = .ok (.iload_n 3, 1) := by decide +kernel
theorem dX8_gives_82 : decode cX8_gives 82 = .ok (.ifCond .ne 7, 3) := by decide +kernel
theorem dX8_gives_85 : decode cX8_gives 85 = .ok (.aload_n 0, 1) := by decide +kernel
theorem dX8_gives_86 : decode cX8_gives 86 = .ok (.invokevirtual 366, 3) := by decide +kernel
theorem dX8_gives_89 : decode cX8_gives 89 = .ok (.iload_n 3, 1) := by decide +kernel
theorem dX8_gives_90 : decode cX8_gives 90 = .ok (.iload 5, 2) := by decide +kernel
theorem dX8_gives_92 : decode cX8_gives 92 = .ok (.invokestatic 296, 3) := by decide +kernel
theorem dX8_gives_95 : decode cX8_gives 95 = .ok (.iadd, 1) := by decide +kernel
theorem dX8_gives_96 : decode cX8_gives 96 = .ok (.istore_n 3, 1) := by decide +kernel
theorem dX8_gives_97 : decode cX8_gives 97 = .ok (.aload_n 0, 1) := by decide +kernel
theorem dX8_gives_98 : decode cX8_gives 98 = .ok (.iload 4, 2) := by decide +kernel
theorem dX8_gives_100 : decode cX8_gives 100 = .ok (.iload 5, 2) := by decide +kernel
theorem dX8_gives_102 : decode cX8_gives 102 = .ok (.iconst 0, 1) := by decide +kernel
theorem dX8_gives_103 : decode cX8_gives 103 = .ok (.iconst 4, 1) := by decide +kernel
theorem dX8_gives_104 : decode cX8_gives 104 = .ok (.invokevirtual 369, 3) := by decide +kernel
theorem dX8_gives_107 : decode cX8_gives 107 = .ok (.iinc 4 1, 3) := by decide +kernel
theorem dX8_gives_110 : decode cX8_gives 110 = .ok (.goto (-86), 3) := by decide +kernel
theorem dX8_gives_113 : decode cX8_gives 113 = .ok (.iload_n 3, 1) := by decide +kernel
theorem dX8_gives_114 : decode cX8_gives 114 = .ok (.ireturn, 1) := by decide +kernel
theorem dX8_tick_0 : decode cX8_tick 0 = .ok (.aload_n 0, 1) := by decide +kernel
theorem dX8_tick_1 : decode cX8_tick 1 = .ok (.invokevirtual 49, 3) := by decide +kernel
theorem dX8_tick_4 : decode cX8_tick 4 = .ok (.ifCond .ne 6, 3) := by decide +kernel
theorem dX8_tick_7 : decode cX8_tick 7 = .ok (.bipush (-2), 2) := by decide +kernel
theorem dX8_tick_9 : decode cX8_tick 9 = .ok (.ireturn, 1) := by decide +kernel
theorem dX8_tick_10 : decode cX8_tick 10 = .ok (.aload_n 0, 1) := by decide +kernel
theorem dX8_tick_11 : decode cX8_tick 11 = .ok (.getfield 9, 3) := by decide +kernel
theorem dX8_tick_14 : decode cX8_tick 14 = .ok (.iconst 4, 1) := by decide +kernel
theorem dX8_tick_15 : decode cX8_tick 15 = .ok (.iaload, 1) := by decide +kernel
theorem dX8_tick_16 : decode cX8_tick 16 = .ok (.aload_n 0, 1) := by decide +kernel
theorem dX8_tick_17 : decode cX8_tick 17 = .ok (.getfield 9, 3) := by decide +kernel
theorem dX8_tick_20 : decode cX8_tick 20 = .ok (.iconst 0, 1) := by decide +kernel
theorem dX8_tick_21 : decode cX8_tick 21 = .ok (.iaload, 1) := by decide +kernel
theorem dX8_tick_22 : decode cX8_tick 22 = .ok (.if_icmp .ne 5, 3) := by decide +kernel
theorem dX8_tick_25 : decode cX8_tick 25 = .ok (.iconst (-1), 1) := by decide +kernel
theorem dX8_tick_26 : decode cX8_tick 26 = .ok (.ireturn, 1) := by decide +kernel
theorem dX8_tick_27 : decode cX8_tick 27 = .ok (.aload_n 0, 1) := by decide +kernel
theorem dX8_tick_28 : decode cX8_tick 28 = .ok (.invokevirtual 366, 3) := by decide +kernel
theorem dX8_tick_31 : decode cX8_tick 31 = .ok (.iconst 0, 1) := by decide +kernel
theorem dX8_tick_32 : decode cX8_tick 32 = .ok (.istore_n 1, 1) := by decide +kernel
theorem dX8_tick_33 : decode cX8_tick 33 = .ok (.iload_n 1, 1) := by decide +kernel
theorem dX8_tick_34 : decode cX8_tick 34 = .ok (.aload_n 0, 1) := by decide +kernel
theorem dX8_tick_35 : decode cX8_tick 35 = .ok (.getfield 9, 3) := by decide +kernel
theorem dX8_tick_38 : decode cX8_tick 38 = .ok (.iconst 2, 1) := by decide +kernel
theorem dX8_tick_39 : decode cX8_tick 39 = .ok (.iaload, 1) := by decide +kernel
theorem dX8_tick_40 : decode cX8_tick 40 = .ok (.if_icmp .ge 32, 3) := by decide +kernel
theorem dX8_tick_43 : decode cX8_tick 43 = .ok (.aload_n 0, 1) := by decide +kernel
theorem dX8_tick_44 : decode cX8_tick 44 = .ok (.iload_n 1, 1) := by decide +kernel
theorem dX8_tick_45 : decode cX8_tick 45 = .ok (.aload_n 0, 1) := by decide +kernel
theorem dX8_tick_46 : decode cX8_tick 46 = .ok (.iload_n 1, 1) := by decide +kernel
theorem dX8_tick_47 : decode cX8_tick 47 = .ok (.bipush 7, 2) := by decide +kernel
theorem dX8_tick_49 : decode cX8_tick 49 = .ok (.invokevirtual 67, 3) := by decide +kernel
theorem dX8_tick_52 : decode cX8_tick 52 = .ok (.iconst 1, 1) := by decide +kernel
theorem dX8_tick_53 : decode cX8_tick 53 = .ok (.aload_n 0, 1) := by decide +kernel
theorem dX8_tick_54 : decode cX8_tick 54 = .ok (.getfield 9, 3) := by decide +kernel
theorem dX8_tick_57 : decode cX8_tick 57 = .ok (.iconst 4, 1) := by decide +kernel
theorem dX8_tick_58 : decode cX8_tick 58 = .ok (.iaload, 1) := by decide +kernel
theorem dX8_tick_59 : decode cX8_tick 59 = .ok (.ishl, 1) := by decide +kernel
theorem dX8_tick_60 : decode cX8_tick 60 = .ok (.iand, 1) := by decide +kernel
theorem dX8_tick_61 : decode cX8_tick 61 = .ok (.iconst 0, 1) := by decide +kernel
theorem dX8_tick_62 : decode cX8_tick 62 = .ok (.iconst 1, 1) := by decide +kernel
theorem dX8_tick_63 : decode cX8_tick 63 = .ok (.invokevirtual 369, 3) := by decide +kernel
theorem dX8_tick_66 : decode cX8_tick 66 = .ok (.iinc 1 1, 3) := by decide +kernel
theorem dX8_tick_69 : decode cX8_tick 69 = .ok (.goto (-36), 3) := by decide +kernel
theorem dX8_tick_72 : decode cX8_tick 72 = .ok (.aload_n 0, 1) := by decide +kernel
theorem dX8_tick_73 : decode cX8_tick 73 = .ok (.getfield 9, 3) := by decide +kernel
theorem dX8_tick_76 : decode cX8_tick 76 = .ok (.iconst 4, 1) := by decide +kernel
theorem dX8_tick_77 : decode cX8_tick 77 = .ok (.dup2, 1) := by decide +kernel
theorem dX8_tick_78 : decode cX8_tick 78 = .ok (.iaload, 1) := by decide +kernel
theorem dX8_tick_79 : decode cX8_tick 79 = .ok (.iconst 1, 1) := by decide +kernel
theorem dX8_tick_80 : decode cX8_tick 80 = .ok (.iadd, 1) := by decide +kernel
theorem dX8_tick_81 : decode cX8_tick 81 = .ok (.iastore, 1) := by decide +kernel
theorem dX8_tick_82 : decode cX8_tick 82 = .ok (.aload_n 0, 1) := by decide +kernel
theorem dX8_tick_83 : decode cX8_tick 83 = .ok (.getfield 9, 3) := by decide +kernel
theorem dX8_tick_86 : decode cX8_tick 86 = .ok (.iconst 4, 1) := by decide +kernel
theorem dX8_tick_87 : decode cX8_tick 87 = .ok (.iaload, 1) := by decide +kernel
theorem dX8_tick_88 : decode cX8_tick 88 = .ok (.ireturn, 1) := by decide +kernel
theorem dX8_pool_0 : decode cX8_pool 0 = .ok (.aload_n 0, 1) := by decide +kernel
theorem dX8_pool_1 : decode cX8_pool 1 = .ok (.invokevirtual 49, 3) := by decide +kernel
theorem dX8_pool_4 : decode cX8_pool 4 = .ok (.ifCond .ne 6, 3) := by decide +kernel
theorem dX8_pool_7 : decode cX8_pool 7 = .ok (.bipush (-2), 2) := by decide +kernel
theorem dX8_pool_9 : decode cX8_pool 9 = .ok (.ireturn, 1) := by decide +kernel
theorem dX8_pool_10 : decode cX8_pool 10 = .ok (.aload_n 0, 1) := by decide +kernel
theorem dX8_pool_11 : decode cX8_pool 11 = .ok (.iconst (-1), 1) := by decide +kernel
theorem dX8_pool_12 : decode cX8_pool 12 = .ok (.invokevirtual 354, 3) := by decide +kernel
theorem dX8_pool_15 : decode cX8_pool 15 = .ok (.istore_n 1, 1) := by decide +kernel
theorem dX8_pool_16 : decode cX8_pool 16 = .ok (.iload_n 1, 1) := by decide +kernel
theorem dX8_pool_17 : decode cX8_pool 17 = .ok (.ifCond .ne 5, 3) := by decide +kernel
theorem dX8_pool_20 : decode cX8_pool 20 = .ok (.iconst 0, 1) := by decide +kernel
theorem dX8_pool_21 : decode cX8_pool 21 = .ok (.ireturn, 1) := by decide +kernel
theorem dX8_pool_22 : decode cX8_pool 22 = .ok (.aload_n 0, 1) := by decide +kernel
theorem dX8_pool_23 : decode cX8_pool 23 = .ok (.invokevirtual 366, 3) := by decide +kernel
theorem dX8_pool_26 : decode cX8_pool 26 = .ok (.iconst 0, 1) := by decide +kernel
theorem dX8_pool_27 : decode cX8_pool 27 = .ok (.istore_n 2, 1) := by decide +kernel
theorem dX8_pool_28 : decode cX8_pool 28 = .ok (.iload_n 2, 1) := by decide +kernel
theorem dX8_pool_29 : decode cX8_pool 29 = .ok (.sipush 518, 3) := by decide +kernel
theorem dX8_pool_32 : decode cX8_pool 32 = .ok (.if_icmp .ge 21, 3) := by decide +kernel
theorem dX8_pool_35 : decode cX8_pool 35 = .ok (.aload_n 0, 1) := by decide +kernel
theorem dX8_pool_36 : decode cX8_pool 36 = .ok (.getfield 9, 3) := by decide +kernel
theorem dX8_pool_39 : decode cX8_pool 39 = .ok (.iload_n 2, 1) := by decide +kernel
theorem dX8_pool_40 : decode cX8_pool 40 = .ok (.aload_n 0, 1) := by decide +kernel
theorem dX8_pool_41 : decode cX8_pool 41 = .ok (.getfield 13, 3) := by decide +kernel
theorem dX8_pool_44 : decode cX8_pool 44 = .ok (.iload_n 2, 1) := by decide +kernel
theorem dX8_pool_45 : decode cX8_pool 45 = .ok (.iaload, 1) := by decide +kernel
theorem dX8_pool_46 : decode cX8_pool 46 = .ok (.iastore, 1) := by decide +kernel
theorem dX8_pool_47 : decode cX8_pool 47 = .ok (.iinc 2 1, 3) := by decide +kernel
theorem dX8_pool_50 : decode cX8_pool 50 = .ok (.goto (-22), 3) := by decide +kernel
theorem dX8_pool_53 : decode cX8_pool 53 = .ok (.bipush 23, 2) := by decide +kernel
theorem dX8_pool_55 : decode cX8_pool 55 = .ok (.istore_n 2, 1) := by decide +kernel
theorem dX8_pool_56 : decode cX8_pool 56 = .ok (.iload_n 2, 1) := by decide +kernel
theorem dX8_pool_57 : decode cX8_pool 57 = .ok (.ifCond .lt 24, 3) := by decide +kernel
theorem dX8_pool_60 : decode cX8_pool 60 = .ok (.aload_n 0, 1) := by decide +kernel
theorem dX8_pool_61 : decode cX8_pool 61 = .ok (.getfield 33, 3) := by decide +kernel
theorem dX8_pool_64 : decode cX8_pool 64 = .ok (.iload_n 2, 1) := by decide +kernel
theorem dX8_pool_65 : decode cX8_pool 65 = .ok (.iaload, 1) := by decide +kernel
theorem dX8_pool_66 : decode cX8_pool 66 = .ok (.iconst (-1), 1) := by decide +kernel
theorem dX8_pool_67 : decode cX8_pool 67 = .ok (.if_icmp .eq 8, 3) := by decide +kernel
theorem dX8_pool_70 : decode cX8_pool 70 = .ok (.aload_n 0, 1) := by decide +kernel
theorem dX8_pool_71 : decode cX8_pool 71 = .ok (.iload_n 2, 1) := by decide +kernel
theorem dX8_pool_72 : decode cX8_pool 72 = .ok (.invokevirtual 376, 3) := by decide +kernel
theorem dX8_pool_75 : decode cX8_pool 75 = .ok (.iinc 2 (-1), 3) := by decide +kernel
theorem dX8_pool_78 : decode cX8_pool 78 = .ok (.goto (-22), 3) := by decide +kernel
theorem dX8_pool_81 : decode cX8_pool 81 = .ok (.iload_n 1, 1) := by decide +kernel
theorem dX8_pool_82 : decode cX8_pool 82 = .ok (.ireturn, 1) := by decide +kernel
theorem dX8_dropsAsk_0 : decode cX8_dropsAsk 0 = .ok (.sipush 350, 3) := by decide +kernel
theorem dX8_dropsAsk_3 : decode cX8_dropsAsk 3 = .ok (.bipush 7, 2) := by decide +kernel
theorem dX8_dropsAsk_5 : decode cX8_dropsAsk 5 = .ok (.iload_n 1, 1) := by decide +kernel
theorem dX8_dropsAsk_6 : decode cX8_dropsAsk 6 = .ok (.imul, 1) := by decide +kernel
theorem dX8_dropsAsk_7 : decode cX8_dropsAsk 7 = .ok (.iadd, 1) := by decide +kernel
theorem dX8_dropsAsk_8 : decode cX8_dropsAsk 8 = .ok (.istore_n 2, 1) := by decide +kernel
theorem dX8_dropsAsk_9 : decode cX8_dropsAsk 9 = .ok (.iload_n 2, 1) := by decide +kernel
theorem dX8_dropsAsk_10 : decode cX8_dropsAsk 10 = .ok (.sipush 511, 3) := by decide +kernel
theorem dX8_dropsAsk_13 : decode cX8_dropsAsk 13 = .ok (.if_icmp .ge 24, 3) := by decide +kernel
theorem dX8_dropsAsk_16 : decode cX8_dropsAsk 16 = .ok (.aload_n 0, 1) := by decide +kernel
theorem dX8_dropsAsk_17 : decode cX8_dropsAsk 17 = .ok (.getfield 9, 3) := by decide +kernel
theorem dX8_dropsAsk_20 : decode cX8_dropsAsk 20 = .ok (.iload_n 2, 1) := by decide +kernel
theorem dX8_dropsAsk_21 : decode cX8_dropsAsk 21 = .ok (.aload_n 0, 1) := by decide +kernel
theorem dX8_dropsAsk_22 : decode cX8_dropsAsk 22 = .ok (.getfield 9, 3) := by decide +kernel
theorem dX8_dropsAsk_25 : decode cX8_dropsAsk 25 = .ok (.iload_n 2, 1) := by decide +kernel
theorem dX8_dropsAsk_26 : decode cX8_dropsAsk 26 = .ok (.bipush 7, 2) := by decide +kernel
theorem dX8_dropsAsk_28 : decode cX8_dropsAsk 28 = .ok (.iadd, 1) := by decide +kernel
theorem dX8_dropsAsk_29 : decode cX8_dropsAsk 29 = .ok (.iaload, 1) := by decide +kernel
theorem dX8_dropsAsk_30 : decode cX8_dropsAsk 30 = .ok (.iastore, 1) := by decide +kernel
theorem dX8_dropsAsk_31 : decode cX8_dropsAsk 31 = .ok (.iinc 2 1, 3) := by decide +kernel
theorem dX8_dropsAsk_34 : decode cX8_dropsAsk 34 = .ok (.goto (-25), 3) := by decide +kernel
theorem dX8_dropsAsk_37 : decode cX8_dropsAsk 37 = .ok (.aload_n 0, 1) := by decide +kernel
theorem dX8_dropsAsk_38 : decode cX8_dropsAsk 38 = .ok (.getfield 9, 3) := by decide +kernel
theorem dX8_dropsAsk_41 : decode cX8_dropsAsk 41 = .ok (.iconst 3, 1) := by decide +kernel
theorem dX8_dropsAsk_42 : decode cX8_dropsAsk 42 = .ok (.dup2, 1) := by decide +kernel
theorem dX8_dropsAsk_43 : decode cX8_dropsAsk 43 = .ok (.iaload, 1) := by decide +kernel
theorem dX8_dropsAsk_44 : decode cX8_dropsAsk 44 = .ok (.iconst 1, 1) := by decide +kernel
theorem dX8_dropsAsk_45 : decode cX8_dropsAsk 45 = .ok (.isub, 1) := by decide +kernel
theorem dX8_dropsAsk_46 : decode cX8_dropsAsk 46 = .ok (.iastore, 1) := by decide +kernel
theorem dX8_dropsAsk_47 : decode cX8_dropsAsk 47 = .ok (.return_, 1) := by decide +kernel
theorem dX8_retime_0 : decode cX8_retime 0 = .ok (.aload_n 0, 1) := by decide +kernel
theorem dX8_retime_1 : decode cX8_retime 1 = .ok (.iload_n 1, 1) := by decide +kernel
theorem dX8_retime_2 : decode cX8_retime 2 = .ok (.invokevirtual 273, 3) := by decide +kernel
theorem dX8_retime_5 : decode cX8_retime 5 = .ok (.ifCond .eq 11, 3) := by decide +kernel
theorem dX8_retime_8 : decode cX8_retime 8 = .ok (.aload_n 0, 1) := by decide +kernel
theorem dX8_retime_9 : decode cX8_retime 9 = .ok (.iload_n 2, 1) := by decide +kernel
theorem dX8_retime_10 : decode cX8_retime 10 = .ok (.invokevirtual 64, 3) := by decide +kernel
theorem dX8_retime_13 : decode cX8_retime 13 = .ok (.ifCond .ne 6, 3) := by decide +kernel
theorem dX8_retime_16 : decode cX8_retime 16 = .ok (.bipush (-2), 2) := by decide +kernel
theorem dX8_retime_18 : decode cX8_retime 18 = .ok (.ireturn, 1) := by decide +kernel
theorem dX8_retime_19 : decode cX8_retime 19 = .ok (.aload_n 0, 1) := by decide +kernel
theorem dX8_retime_20 : decode cX8_retime 20 = .ok (.iload_n 1, 1) := by decide +kernel
theorem dX8_retime_21 : decode cX8_retime 21 = .ok (.iload_n 2, 1) := by decide +kernel
theorem dX8_retime_22 : decode cX8_retime 22 = .ok (.invokevirtual 357, 3) := by decide +kernel
theorem dX8_retime_25 : decode cX8_retime 25 = .ok (.ifCond .ne 6, 3) := by decide +kernel
theorem dX8_retime_28 : decode cX8_retime 28 = .ok (.bipush (-6), 2) := by decide +kernel
theorem dX8_retime_30 : decode cX8_retime 30 = .ok (.ireturn, 1) := by decide +kernel
theorem dX8_retime_31 : decode cX8_retime 31 = .ok (.aload_n 0, 1) := by decide +kernel
theorem dX8_retime_32 : decode cX8_retime 32 = .ok (.invokevirtual 366, 3) := by decide +kernel
theorem dX8_retime_35 : decode cX8_retime 35 = .ok (.aload_n 0, 1) := by decide +kernel
theorem dX8_retime_36 : decode cX8_retime 36 = .ok (.iload_n 1, 1) := by decide +kernel
theorem dX8_retime_37 : decode cX8_retime 37 = .ok (.iconst 2, 1) := by decide +kernel
theorem dX8_retime_38 : decode cX8_retime 38 = .ok (.invokevirtual 67, 3) := by decide +kernel
theorem dX8_retime_41 : decode cX8_retime 41 = .ok (.istore_n 3, 1) := by decide +kernel
theorem dX8_retime_42 : decode cX8_retime 42 = .ok (.aload_n 0, 1) := by decide +kernel
theorem dX8_retime_43 : decode cX8_retime 43 = .ok (.iload_n 1, 1) := by decide +kernel
theorem dX8_retime_44 : decode cX8_retime 44 = .ok (.iconst 2, 1) := by decide +kernel
theorem dX8_retime_45 : decode cX8_retime 45 = .ok (.iload_n 2, 1) := by decide +kernel
theorem dX8_retime_46 : decode cX8_retime 46 = .ok (.invokevirtual 230, 3) := by decide +kernel
theorem dX8_retime_49 : decode cX8_retime 49 = .ok (.iload_n 3, 1) := by decide +kernel
theorem dX8_retime_50 : decode cX8_retime 50 = .ok (.ireturn, 1) := by decide +kernel
theorem dX8_isNew_0 : decode cX8_isNew 0 = .ok (.aload_n 0, 1) := by decide +kernel
theorem dX8_isNew_1 : decode cX8_isNew 1 = .ok (.iload_n 1, 1) := by decide +kernel
theorem dX8_isNew_2 : decode cX8_isNew 2 = .ok (.iconst 4, 1) := by decide +kernel
theorem dX8_isNew_3 : decode cX8_isNew 3 = .ok (.invokevirtual 67, 3) := by decide +kernel
theorem dX8_isNew_6 : decode cX8_isNew 6 = .ok (.iconst 1, 1) := by decide +kernel
theorem dX8_isNew_7 : decode cX8_isNew 7 = .ok (.if_icmp .ne 7, 3) := by decide +kernel
theorem dX8_isNew_10 : decode cX8_isNew 10 = .ok (.iconst 1, 1) := by decide +kernel
theorem dX8_isNew_11 : decode cX8_isNew 11 = .ok (.goto 4, 3) := by decide +kernel
theorem dX8_isNew_14 : decode cX8_isNew 14 = .ok (.iconst 0, 1) := by decide +kernel
theorem dX8_isNew_15 : decode cX8_isNew 15 = .ok (.ireturn, 1) := by decide +kernel
theorem dX8_changesOver_0 : decode cX8_changesOver 0 = .ok (.iconst 1, 1) := by decide +kernel
theorem dX8_changesOver_1 : decode cX8_changesOver 1 = .ok (.istore_n 3, 1) := by decide +kernel
theorem dX8_changesOver_2 : decode cX8_changesOver 2 = .ok (.iload_n 3, 1) := by decide +kernel
theorem dX8_changesOver_3 : decode cX8_changesOver 3 = .ok (.iconst 3, 1) := by decide +kernel
theorem dX8_changesOver_4 : decode cX8_changesOver 4 = .ok (.if_icmp .gt 37, 3) := by decide +kernel
theorem dX8_changesOver_7 : decode cX8_changesOver 7 = .ok (.aload_n 0, 1) := by decide +kernel
theorem dX8_changesOver_8 : decode cX8_changesOver 8 = .ok (.iload_n 1, 1) := by decide +kernel
theorem dX8_changesOver_9 : decode cX8_changesOver 9 = .ok (.iload_n 3, 1) := by decide +kernel
theorem dX8_changesOver_10 : decode cX8_changesOver 10 = .ok (.invokevirtual 67, 3) := by decide +kernel
theorem dX8_changesOver_13 : decode cX8_changesOver 13 = .ok (.istore 4, 2) := by decide +kernel
theorem dX8_changesOver_15 : decode cX8_changesOver 15 = .ok (.aload_n 0, 1) := by decide +kernel
theorem dX8_changesOver_16 : decode cX8_changesOver 16 = .ok (.iload_n 1, 1) := by decide +kernel
theorem dX8_changesOver_17 : decode cX8_changesOver 17 = .ok (.iload_n 3, 1) := by decide +kernel
theorem dX8_changesOver_18 : decode cX8_changesOver 18 = .ok (.aload_n 0, 1) := by decide +kernel
theorem dX8_changesOver_19 : decode cX8_changesOver 19 = .ok (.iload_n 2, 1) := by decide +kernel
theorem dX8_changesOver_20 : decode cX8_changesOver 20 = .ok (.iload_n 3, 1) := by decide +kernel
theorem dX8_changesOver_21 : decode cX8_changesOver 21 = .ok (.invokevirtual 67, 3) := by decide +kernel
theorem dX8_changesOver_24 : decode cX8_changesOver 24 = .ok (.invokevirtual 230, 3) := by decide +kernel
theorem dX8_changesOver_27 : decode cX8_changesOver 27 = .ok (.aload_n 0, 1) := by decide +kernel
theorem dX8_changesOver_28 : decode cX8_changesOver 28 = .ok (.iload_n 2, 1) := by decide +kernel
theorem dX8_changesOver_29 : decode cX8_changesOver 29 = .ok (.iload_n 3, 1) := by decide +kernel
theorem dX8_changesOver_30 : decode cX8_changesOver 30 = .ok (.iload 4, 2) := by decide +kernel
theorem dX8_changesOver_32 : decode cX8_changesOver 32 = .ok (.invokevirtual 230, 3) := by decide +kernel
theorem dX8_changesOver_35 : decode cX8_changesOver 35 = .ok (.iinc 3 1, 3) := by decide +kernel
theorem dX8_changesOver_38 : decode cX8_changesOver 38 = .ok (.goto (-36), 3) := by decide +kernel
theorem dX8_changesOver_41 : decode cX8_changesOver 41 = .ok (.return_, 1) := by decide +kernel
theorem dX8_canSwap_0 : decode cX8_canSwap 0 = .ok (.aload_n 0, 1) := by decide +kernel
theorem dX8_canSwap_1 : decode cX8_canSwap 1 = .ok (.iload_n 1, 1) := by decide +kernel
theorem dX8_canSwap_2 : decode cX8_canSwap 2 = .ok (.iconst 0, 1) := by decide +kernel
theorem dX8_canSwap_3 : decode cX8_canSwap 3 = .ok (.invokevirtual 67, 3) := by decide +kernel
theorem dX8_canSwap_6 : decode cX8_canSwap 6 = .ok (.aload_n 0, 1) := by decide +kernel
theorem dX8_canSwap_7 : decode cX8_canSwap 7 = .ok (.iload_n 2, 1) := by decide +kernel
theorem dX8_canSwap_8 : decode cX8_canSwap 8 = .ok (.iconst 0, 1) := by decide +kernel
theorem dX8_canSwap_9 : decode cX8_canSwap 9 = .ok (.invokevirtual 67, 3) := by decide +kernel
theorem dX8_canSwap_12 : decode cX8_canSwap 12 = .ok (.if_icmp .ne 5, 3) := by decide +kernel
theorem dX8_canSwap_15 : decode cX8_canSwap 15 = .ok (.iconst 0, 1) := by decide +kernel
theorem dX8_canSwap_16 : decode cX8_canSwap 16 = .ok (.ireturn, 1) := by decide +kernel
theorem dX8_canSwap_17 : decode cX8_canSwap 17 = .ok (.aload_n 0, 1) := by decide +kernel
theorem dX8_canSwap_18 : decode cX8_canSwap 18 = .ok (.iload_n 1, 1) := by decide +kernel
theorem dX8_canSwap_19 : decode cX8_canSwap 19 = .ok (.iload_n 2, 1) := by decide +kernel
theorem dX8_canSwap_20 : decode cX8_canSwap 20 = .ok (.invokevirtual 379, 3) := by decide +kernel
theorem dX8_canSwap_23 : decode cX8_canSwap 23 = .ok (.aload_n 0, 1) := by decide +kernel
theorem dX8_canSwap_24 : decode cX8_canSwap 24 = .ok (.iload_n 2, 1) := by decide +kernel
theorem dX8_canSwap_25 : decode cX8_canSwap 25 = .ok (.iconst 1, 1) := by decide +kernel
theorem dX8_canSwap_26 : decode cX8_canSwap 26 = .ok (.invokevirtual 67, 3) := by decide +kernel
theorem dX8_canSwap_29 : decode cX8_canSwap 29 = .ok (.istore_n 3, 1) := by decide +kernel
theorem dX8_canSwap_30 : decode cX8_canSwap 30 = .ok (.aload_n 0, 1) := by decide +kernel
theorem dX8_canSwap_31 : decode cX8_canSwap 31 = .ok (.iload_n 2, 1) := by decide +kernel
theorem dX8_canSwap_32 : decode cX8_canSwap 32 = .ok (.iconst 1, 1) := by decide +kernel
theorem dX8_canSwap_33 : decode cX8_canSwap 33 = .ok (.bipush 7, 2) := by decide +kernel
theorem dX8_canSwap_35 : decode cX8_canSwap 35 = .ok (.invokevirtual 230, 3) := by decide +kernel
theorem dX8_canSwap_38 : decode cX8_canSwap 38 = .ok (.aload_n 0, 1) := by decide +kernel
theorem dX8_canSwap_39 : decode cX8_canSwap 39 = .ok (.iload_n 1, 1) := by decide +kernel
theorem dX8_canSwap_40 : decode cX8_canSwap 40 = .ok (.aload_n 0, 1) := by decide +kernel
theorem dX8_canSwap_41 : decode cX8_canSwap 41 = .ok (.iload_n 1, 1) := by decide +kernel
theorem dX8_canSwap_42 : decode cX8_canSwap 42 = .ok (.iconst 2, 1) := by decide +kernel
theorem dX8_canSwap_43 : decode cX8_canSwap 43 = .ok (.invokevirtual 67, 3) := by decide +kernel
theorem dX8_canSwap_46 : decode cX8_canSwap 46 = .ok (.invokevirtual 360, 3) := by decide +kernel
theorem dX8_canSwap_49 : decode cX8_canSwap 49 = .ok (.istore 4, 2) := by decide +kernel
theorem dX8_canSwap_51 : decode cX8_canSwap 51 = .ok (.aload_n 0, 1) := by decide +kernel
theorem dX8_canSwap_52 : decode cX8_canSwap 52 = .ok (.iload_n 2, 1) := by decide +kernel
theorem dX8_canSwap_53 : decode cX8_canSwap 53 = .ok (.iconst 1, 1) := by decide +kernel
theorem dX8_canSwap_54 : decode cX8_canSwap 54 = .ok (.iload_n 3, 1) := by decide +kernel
theorem dX8_canSwap_55 : decode cX8_canSwap 55 = .ok (.invokevirtual 230, 3) := by decide +kernel
theorem dX8_canSwap_58 : decode cX8_canSwap 58 = .ok (.iload 4, 2) := by decide +kernel
theorem dX8_canSwap_60 : decode cX8_canSwap 60 = .ok (.ifCond .eq 21, 3) := by decide +kernel
theorem dX8_canSwap_63 : decode cX8_canSwap 63 = .ok (.aload_n 0, 1) := by decide +kernel
theorem dX8_canSwap_64 : decode cX8_canSwap 64 = .ok (.iload_n 2, 1) := by decide +kernel
theorem dX8_canSwap_65 : decode cX8_canSwap 65 = .ok (.aload_n 0, 1) := by decide +kernel
theorem dX8_canSwap_66 : decode cX8_canSwap 66 = .ok (.iload_n 2, 1) := by decide +kernel
theorem dX8_canSwap_67 : decode cX8_canSwap 67 = .ok (.iconst 2, 1) := by decide +kernel
theorem dX8_canSwap_68 : decode cX8_canSwap 68 = .ok (.invokevirtual 67, 3) := by decide +kernel
theorem dX8_canSwap_71 : decode cX8_canSwap 71 = .ok (.invokevirtual 360, 3) := by decide +kernel
theorem dX8_canSwap_74 : decode cX8_canSwap 74 = .ok (.ifCond .eq 7, 3) := by decide +kernel
theorem dX8_canSwap_77 : decode cX8_canSwap 77 = .ok (.iconst 1, 1) := by decide +kernel
theorem dX8_canSwap_78 : decode cX8_canSwap 78 = .ok (.goto 4, 3) := by decide +kernel
theorem dX8_canSwap_81 : decode cX8_canSwap 81 = .ok (.iconst 0, 1) := by decide +kernel
theorem dX8_canSwap_82 : decode cX8_canSwap 82 = .ok (.istore 4, 2) := by decide +kernel
theorem dX8_canSwap_84 : decode cX8_canSwap 84 = .ok (.aload_n 0, 1) := by decide +kernel
theorem dX8_canSwap_85 : decode cX8_canSwap 85 = .ok (.iload_n 1, 1) := by decide +kernel
theorem dX8_canSwap_86 : decode cX8_canSwap 86 = .ok (.iload_n 2, 1) := by decide +kernel
theorem dX8_canSwap_87 : decode cX8_canSwap 87 = .ok (.invokevirtual 379, 3) := by decide +kernel
theorem dX8_canSwap_90 : decode cX8_canSwap 90 = .ok (.iload 4, 2) := by decide +kernel
theorem dX8_canSwap_92 : decode cX8_canSwap 92 = .ok (.ireturn, 1) := by decide +kernel
theorem dX8_swap_0 : decode cX8_swap 0 = .ok (.aload_n 0, 1) := by decide +kernel
theorem dX8_swap_1 : decode cX8_swap 1 = .ok (.iload_n 1, 1) := by decide +kernel
theorem dX8_swap_2 : decode cX8_swap 2 = .ok (.invokevirtual 273, 3) := by decide +kernel
theorem dX8_swap_5 : decode cX8_swap 5 = .ok (.ifCond .eq 11, 3) := by decide +kernel
theorem dX8_swap_8 : decode cX8_swap 8 = .ok (.aload_n 0, 1) := by decide +kernel
theorem dX8_swap_9 : decode cX8_swap 9 = .ok (.iload_n 2, 1) := by decide +kernel
theorem dX8_swap_10 : decode cX8_swap 10 = .ok (.invokevirtual 273, 3) := by decide +kernel
theorem dX8_swap_13 : decode cX8_swap 13 = .ok (.ifCond .ne 6, 3) := by decide +kernel
theorem dX8_swap_16 : decode cX8_swap 16 = .ok (.bipush (-2), 2) := by decide +kernel
theorem dX8_swap_18 : decode cX8_swap 18 = .ok (.ireturn, 1) := by decide +kernel
theorem dX8_swap_19 : decode cX8_swap 19 = .ok (.aload_n 0, 1) := by decide +kernel
theorem dX8_swap_20 : decode cX8_swap 20 = .ok (.iload_n 1, 1) := by decide +kernel
theorem dX8_swap_21 : decode cX8_swap 21 = .ok (.invokevirtual 382, 3) := by decide +kernel
theorem dX8_swap_24 : decode cX8_swap 24 = .ok (.ifCond .ne 11, 3) := by decide +kernel
theorem dX8_swap_27 : decode cX8_swap 27 = .ok (.aload_n 0, 1) := by decide +kernel
theorem dX8_swap_28 : decode cX8_swap 28 = .ok (.iload_n 2, 1) := by decide +kernel
theorem dX8_swap_29 : decode cX8_swap 29 = .ok (.invokevirtual 382, 3) := by decide +kernel
theorem dX8_swap_32 : decode cX8_swap 32 = .ok (.ifCond .eq 6, 3) := by decide +kernel
theorem dX8_swap_35 : decode cX8_swap 35 = .ok (.bipush (-5), 2) := by decide +kernel
theorem dX8_swap_37 : decode cX8_swap 37 = .ok (.ireturn, 1) := by decide +kernel
theorem dX8_swap_38 : decode cX8_swap 38 = .ok (.aload_n 0, 1) := by decide +kernel
theorem dX8_swap_39 : decode cX8_swap 39 = .ok (.iload_n 1, 1) := by decide +kernel
theorem dX8_swap_40 : decode cX8_swap 40 = .ok (.iload_n 2, 1) := by decide +kernel
theorem dX8_swap_41 : decode cX8_swap 41 = .ok (.invokevirtual 385, 3) := by decide +kernel
theorem dX8_swap_44 : decode cX8_swap 44 = .ok (.ifCond .ne 6, 3) := by decide +kernel
theorem dX8_swap_47 : decode cX8_swap 47 = .ok (.bipush (-6), 2) := by decide +kernel
theorem dX8_swap_49 : decode cX8_swap 49 = .ok (.ireturn, 1) := by decide +kernel
theorem dX8_swap_50 : decode cX8_swap 50 = .ok (.aload_n 0, 1) := by decide +kernel
theorem dX8_swap_51 : decode cX8_swap 51 = .ok (.invokevirtual 366, 3) := by decide +kernel
theorem dX8_swap_54 : decode cX8_swap 54 = .ok (.aload_n 0, 1) := by decide +kernel
theorem dX8_swap_55 : decode cX8_swap 55 = .ok (.iload_n 1, 1) := by decide +kernel
theorem dX8_swap_56 : decode cX8_swap 56 = .ok (.iload_n 2, 1) := by decide +kernel
theorem dX8_swap_57 : decode cX8_swap 57 = .ok (.invokevirtual 379, 3) := by decide +kernel
theorem dX8_swap_60 : decode cX8_swap 60 = .ok (.iconst 1, 1) := by decide +kernel
theorem dX8_swap_61 : decode cX8_swap 61 = .ok (.ireturn, 1) := by decide +kernel
theorem dX8_partners_0 : decode cX8_partners 0 = .ok (.aload_n 0, 1) := by decide +kernel
theorem dX8_partners_1 : decode cX8_partners 1 = .ok (.iload_n 1, 1) := by decide +kernel
theorem dX8_partners_2 : decode cX8_partners 2 = .ok (.invokevirtual 273, 3) := by decide +kernel
theorem dX8_partners_5 : decode cX8_partners 5 = .ok (.ifCond .ne 6, 3) := by decide +kernel
theorem dX8_partners_8 : decode cX8_partners 8 = .ok (.bipush (-2), 2) := by decide +kernel
theorem dX8_partners_10 : decode cX8_partners 10 = .ok (.ireturn, 1) := by decide +kernel
theorem dX8_partners_11 : decode cX8_partners 11 = .ok (.iconst 0, 1) := by decide +kernel
theorem dX8_partners_12 : decode cX8_partners 12 = .ok (.istore_n 2, 1) := by decide +kernel
theorem dX8_partners_13 : decode cX8_partners 13 = .ok (.iconst 0, 1) := by decide +kernel
theorem dX8_partners_14 : decode cX8_partners 14 = .ok (.istore_n 3, 1) := by decide +kernel
theorem dX8_partners_15 : decode cX8_partners 15 = .ok (.iload_n 3, 1) := by decide +kernel
theorem dX8_partners_16 : decode cX8_partners 16 = .ok (.aload_n 0, 1) := by decide +kernel
theorem dX8_partners_17 : decode cX8_partners 17 = .ok (.getfield 9, 3) := by decide +kernel
theorem dX8_partners_20 : decode cX8_partners 20 = .ok (.iconst 2, 1) := by decide +kernel
theorem dX8_partners_21 : decode cX8_partners 21 = .ok (.iaload, 1) := by decide +kernel
theorem dX8_partners_22 : decode cX8_partners 22 = .ok (.if_icmp .ge 44, 3) := by decide +kernel
theorem dX8_partners_25 : decode cX8_partners 25 = .ok (.iload_n 2, 1) := by decide +kernel
theorem dX8_partners_26 : decode cX8_partners 26 = .ok (.aload_n 0, 1) := by decide +kernel
theorem dX8_partners_27 : decode cX8_partners 27 = .ok (.iload_n 1, 1) := by decide +kernel
theorem dX8_partners_28 : decode cX8_partners 28 = .ok (.invokevirtual 382, 3) := by decide +kernel
theorem dX8_partners_31 : decode cX8_partners 31 = .ok (.ifCond .ne 26, 3) := by decide +kernel
theorem dX8_partners_34 : decode cX8_partners 34 = .ok (.aload_n 0, 1) := by decide +kernel
theorem dX8_partners_35 : decode cX8_partners 35 = .ok (.iload_n 3, 1) := by decide +kernel
theorem dX8_partners_36 : decode cX8_partners 36 = .ok (.invokevirtual 382, 3) := by decide +kernel
theorem dX8_partners_39 : decode cX8_partners 39 = .ok (.ifCond .ne 18, 3) := by decide +kernel
theorem dX8_partners_42 : decode cX8_partners 42 = .ok (.aload_n 0, 1) := by decide +kernel
theorem dX8_partners_43 : decode cX8_partners 43 = .ok (.iload_n 1, 1) := by decide +kernel
theorem dX8_partners_44 : decode cX8_partners 44 = .ok (.iload_n 3, 1) := by decide +kernel
theorem dX8_partners_45 : decode cX8_partners 45 = .ok (.invokevirtual 385, 3) := by decide +kernel
theorem dX8_partners_48 : decode cX8_partners 48 = .ok (.ifCond .eq 9, 3) := by decide +kernel
theorem dX8_partners_51 : decode cX8_partners 51 = .ok (.iconst 1, 1) := by decide +kernel
theorem dX8_partners_52 : decode cX8_partners 52 = .ok (.iload_n 3, 1) := by decide +kernel
theorem dX8_partners_53 : decode cX8_partners 53 = .ok (.ishl, 1) := by decide +kernel
theorem dX8_partners_54 : decode cX8_partners 54 = .ok (.goto 4, 3) := by decide +kernel
theorem dX8_partners_57 : decode cX8_partners 57 = .ok (.iconst 0, 1) := by decide +kernel
theorem dX8_partners_58 : decode cX8_partners 58 = .ok (.ior, 1) := by decide +kernel
theorem dX8_partners_59 : decode cX8_partners 59 = .ok (.istore_n 2, 1) := by decide +kernel
theorem dX8_partners_60 : decode cX8_partners 60 = .ok (.iinc 3 1, 3) := by decide +kernel
theorem dX8_partners_63 : decode cX8_partners 63 = .ok (.goto (-48), 3) := by decide +kernel
theorem dX8_partners_66 : decode cX8_partners 66 = .ok (.iload_n 2, 1) := by decide +kernel
theorem dX8_partners_67 : decode cX8_partners 67 = .ok (.ireturn, 1) := by decide +kernel
theorem dX8_hand_0 : decode cX8_hand 0 = .ok (.aload_n 0, 1) := by decide +kernel
theorem dX8_hand_1 : decode cX8_hand 1 = .ok (.iload_n 1, 1) := by decide +kernel
theorem dX8_hand_2 : decode cX8_hand 2 = .ok (.invokevirtual 273, 3) := by decide +kernel
theorem dX8_hand_5 : decode cX8_hand 5 = .ok (.ifCond .eq 11, 3) := by decide +kernel
theorem dX8_hand_8 : decode cX8_hand 8 = .ok (.aload_n 0, 1) := by decide +kernel
theorem dX8_hand_9 : decode cX8_hand 9 = .ok (.iload_n 2, 1) := by decide +kernel
theorem dX8_hand_10 : decode cX8_hand 10 = .ok (.invokevirtual 265, 3) := by decide +kernel
theorem dX8_hand_13 : decode cX8_hand 13 = .ok (.ifCond .ne 6, 3) := by decide +kernel
theorem dX8_hand_16 : decode cX8_hand 16 = .ok (.bipush (-2), 2) := by decide +kernel
theorem dX8_hand_18 : decode cX8_hand 18 = .ok (.ireturn, 1) := by decide +kernel
theorem dX8_hand_19 : decode cX8_hand 19 = .ok (.aload_n 0, 1) := by decide +kernel
theorem dX8_hand_20 : decode cX8_hand 20 = .ok (.iload_n 1, 1) := by decide +kernel
theorem dX8_hand_21 : decode cX8_hand 21 = .ok (.invokevirtual 382, 3) := by decide +kernel
theorem dX8_hand_24 : decode cX8_hand 24 = .ok (.ifCond .eq 6, 3) := by decide +kernel
theorem dX8_hand_27 : decode cX8_hand 27 = .ok (.bipush (-5), 2) := by decide +kernel
theorem dX8_hand_29 : decode cX8_hand 29 = .ok (.ireturn, 1) := by decide +kernel
theorem dX8_hand_30 : decode cX8_hand 30 = .ok (.aload_n 0, 1) := by decide +kernel
theorem dX8_hand_31 : decode cX8_hand 31 = .ok (.iload_n 1, 1) := by decide +kernel
theorem dX8_hand_32 : decode cX8_hand 32 = .ok (.iconst 0, 1) := by decide +kernel
theorem dX8_hand_33 : decode cX8_hand 33 = .ok (.invokevirtual 67, 3) := by decide +kernel
theorem dX8_hand_36 : decode cX8_hand 36 = .ok (.istore_n 3, 1) := by decide +kernel
theorem dX8_hand_37 : decode cX8_hand 37 = .ok (.iload_n 3, 1) := by decide +kernel
theorem dX8_hand_38 : decode cX8_hand 38 = .ok (.iload_n 2, 1) := by decide +kernel
theorem dX8_hand_39 : decode cX8_hand 39 = .ok (.if_icmp .ne 6, 3) := by decide +kernel
theorem dX8_hand_42 : decode cX8_hand 42 = .ok (.bipush (-6), 2) := by decide +kernel
theorem dX8_hand_44 : decode cX8_hand 44 = .ok (.ireturn, 1) := by decide +kernel
theorem dX8_hand_45 : decode cX8_hand 45 = .ok (.aload_n 0, 1) := by decide +kernel
theorem dX8_hand_46 : decode cX8_hand 46 = .ok (.invokevirtual 366, 3) := by decide +kernel
theorem dX8_hand_49 : decode cX8_hand 49 = .ok (.aload_n 0, 1) := by decide +kernel
theorem dX8_hand_50 : decode cX8_hand 50 = .ok (.iload_n 1, 1) := by decide +kernel
theorem dX8_hand_51 : decode cX8_hand 51 = .ok (.iconst 0, 1) := by decide +kernel
theorem dX8_hand_52 : decode cX8_hand 52 = .ok (.iload_n 2, 1) := by decide +kernel
theorem dX8_hand_53 : decode cX8_hand 53 = .ok (.invokevirtual 230, 3) := by decide +kernel
theorem dX8_hand_56 : decode cX8_hand 56 = .ok (.iload_n 3, 1) := by decide +kernel
theorem dX8_hand_57 : decode cX8_hand 57 = .ok (.ireturn, 1) := by decide +kernel
theorem dX8_isAbove_0 : decode cX8_isAbove 0 = .ok (.aload_n 0, 1) := by decide +kernel
theorem dX8_isAbove_1 : decode cX8_isAbove 1 = .ok (.getfield 9, 3) := by decide +kernel
theorem dX8_isAbove_4 : decode cX8_isAbove 4 = .ok (.iconst 4, 1) := by decide +kernel
theorem dX8_isAbove_5 : decode cX8_isAbove 5 = .ok (.iaload, 1) := by decide +kernel
theorem dX8_isAbove_6 : decode cX8_isAbove 6 = .ok (.istore 4, 2) := by decide +kernel
theorem dX8_isAbove_8 : decode cX8_isAbove 8 = .ok (.iload 4, 2) := by decide +kernel
theorem dX8_isAbove_10 : decode cX8_isAbove 10 = .ok (.aload_n 0, 1) := by decide +kernel
theorem dX8_isAbove_11 : decode cX8_isAbove 11 = .ok (.getfield 9, 3) := by decide +kernel
theorem dX8_isAbove_14 : decode cX8_isAbove 14 = .ok (.iconst 0, 1) := by decide +kernel
theorem dX8_isAbove_15 : decode cX8_isAbove 15 = .ok (.iaload, 1) := by decide +kernel
theorem dX8_isAbove_16 : decode cX8_isAbove 16 = .ok (.if_icmp .ge 57, 3) := by decide +kernel
theorem dX8_isAbove_19 : decode cX8_isAbove 19 = .ok (.iconst 0, 1) := by decide +kernel
theorem dX8_isAbove_20 : decode cX8_isAbove 20 = .ok (.istore 5, 2) := by decide +kernel
theorem dX8_isAbove_22 : decode cX8_isAbove 22 = .ok (.iload 5, 2) := by decide +kernel
theorem dX8_isAbove_24 : decode cX8_isAbove 24 = .ok (.bipush 7, 2) := by decide +kernel
theorem dX8_isAbove_26 : decode cX8_isAbove 26 = .ok (.if_icmp .ge 41, 3) := by decide +kernel
theorem dX8_isAbove_29 : decode cX8_isAbove 29 = .ok (.aload_n 0, 1) := by decide +kernel
theorem dX8_isAbove_30 : decode cX8_isAbove 30 = .ok (.iload 4, 2) := by decide +kernel
theorem dX8_isAbove_32 : decode cX8_isAbove 32 = .ok (.iload 5, 2) := by decide +kernel
theorem dX8_isAbove_34 : decode cX8_isAbove 34 = .ok (.iload_n 1, 1) := by decide +kernel
theorem dX8_isAbove_35 : decode cX8_isAbove 35 = .ok (.iconst 0, 1) := by decide +kernel
theorem dX8_isAbove_36 : decode cX8_isAbove 36 = .ok (.iconst (-1), 1) := by decide +kernel
theorem dX8_isAbove_37 : decode cX8_isAbove 37 = .ok (.invokevirtual 86, 3) := by decide +kernel
theorem dX8_isAbove_40 : decode cX8_isAbove 40 = .ok (.iload_n 2, 1) := by decide +kernel
theorem dX8_isAbove_41 : decode cX8_isAbove 41 = .ok (.if_icmp .gt 18, 3) := by decide +kernel
theorem dX8_isAbove_44 : decode cX8_isAbove 44 = .ok (.aload_n 0, 1) := by decide +kernel
theorem dX8_isAbove_45 : decode cX8_isAbove 45 = .ok (.iload 4, 2) := by decide +kernel
theorem dX8_isAbove_47 : decode cX8_isAbove 47 = .ok (.iload 5, 2) := by decide +kernel
theorem dX8_isAbove_49 : decode cX8_isAbove 49 = .ok (.iload_n 1, 1) := by decide +kernel
theorem dX8_isAbove_50 : decode cX8_isAbove 50 = .ok (.iconst 1, 1) := by decide +kernel
theorem dX8_isAbove_51 : decode cX8_isAbove 51 = .ok (.iconst (-1), 1) := by decide +kernel
theorem dX8_isAbove_52 : decode cX8_isAbove 52 = .ok (.invokevirtual 86, 3) := by decide +kernel
theorem dX8_isAbove_55 : decode cX8_isAbove 55 = .ok (.iload_n 3, 1) := by decide +kernel
theorem dX8_isAbove_56 : decode cX8_isAbove 56 = .ok (.if_icmp .le 5, 3) := by decide +kernel
theorem dX8_isAbove_59 : decode cX8_isAbove 59 = .ok (.iconst 1, 1) := by decide +kernel
theorem dX8_isAbove_60 : decode cX8_isAbove 60 = .ok (.ireturn, 1) := by decide +kernel
theorem dX8_isAbove_61 : decode cX8_isAbove 61 = .ok (.iinc 5 1, 3) := by decide +kernel
theorem dX8_isAbove_64 : decode cX8_isAbove 64 = .ok (.goto (-42), 3) := by decide +kernel
theorem dX8_isAbove_67 : decode cX8_isAbove 67 = .ok (.iinc 4 1, 3) := by decide +kernel
theorem dX8_isAbove_70 : decode cX8_isAbove 70 = .ok (.goto (-62), 3) := by decide +kernel
theorem dX8_isAbove_73 : decode cX8_isAbove 73 = .ok (.iconst 0, 1) := by decide +kernel
theorem dX8_isAbove_74 : decode cX8_isAbove 74 = .ok (.ireturn, 1) := by decide +kernel
theorem dX8_limit_0 : decode cX8_limit 0 = .ok (.aload_n 0, 1) := by decide +kernel
theorem dX8_limit_1 : decode cX8_limit 1 = .ok (.iload_n 1, 1) := by decide +kernel
theorem dX8_limit_2 : decode cX8_limit 2 = .ok (.invokevirtual 64, 3) := by decide +kernel
theorem dX8_limit_5 : decode cX8_limit 5 = .ok (.ifCond .eq 26, 3) := by decide +kernel
theorem dX8_limit_8 : decode cX8_limit 8 = .ok (.iload_n 2, 1) := by decide +kernel
theorem dX8_limit_9 : decode cX8_limit 9 = .ok (.i2l, 1) := by decide +kernel
theorem dX8_limit_10 : decode cX8_limit 10 = .ok (.lconst 0, 1) := by decide +kernel
theorem dX8_limit_11 : decode cX8_limit 11 = .ok (.ldc2_w 388, 3) := by decide +kernel
theorem dX8_limit_14 : decode cX8_limit 14 = .ok (.invokestatic 45, 3) := by decide +kernel
theorem dX8_limit_17 : decode cX8_limit 17 = .ok (.ifCond .eq 14, 3) := by decide +kernel
theorem dX8_limit_20 : decode cX8_limit 20 = .ok (.iload_n 3, 1) := by decide +kernel
theorem dX8_limit_21 : decode cX8_limit 21 = .ok (.i2l, 1) := by decide +kernel
theorem dX8_limit_22 : decode cX8_limit 22 = .ok (.lconst 0, 1) := by decide +kernel
theorem dX8_limit_23 : decode cX8_limit 23 = .ok (.iload_n 2, 1) := by decide +kernel
theorem dX8_limit_24 : decode cX8_limit 24 = .ok (.i2l, 1) := by decide +kernel
theorem dX8_limit_25 : decode cX8_limit 25 = .ok (.invokestatic 45, 3) := by decide +kernel
theorem dX8_limit_28 : decode cX8_limit 28 = .ok (.ifCond .ne 6, 3) := by decide +kernel
theorem dX8_limit_31 : decode cX8_limit 31 = .ok (.bipush (-2), 2) := by decide +kernel
theorem dX8_limit_33 : decode cX8_limit 33 = .ok (.ireturn, 1) := by decide +kernel
theorem dX8_limit_34 : decode cX8_limit 34 = .ok (.aload_n 0, 1) := by decide +kernel
theorem dX8_limit_35 : decode cX8_limit 35 = .ok (.iload_n 1, 1) := by decide +kernel
theorem dX8_limit_36 : decode cX8_limit 36 = .ok (.iload_n 2, 1) := by decide +kernel
theorem dX8_limit_37 : decode cX8_limit 37 = .ok (.iload_n 3, 1) := by decide +kernel
theorem dX8_limit_38 : decode cX8_limit 38 = .ok (.invokevirtual 390, 3) := by decide +kernel
theorem dX8_limit_41 : decode cX8_limit 41 = .ok (.ifCond .eq 6, 3) := by decide +kernel
theorem dX8_limit_44 : decode cX8_limit 44 = .ok (.bipush (-6), 2) := by decide +kernel
theorem dX8_limit_46 : decode cX8_limit 46 = .ok (.ireturn, 1) := by decide +kernel
theorem dX8_limit_47 : decode cX8_limit 47 = .ok (.aload_n 0, 1) := by decide +kernel
theorem dX8_limit_48 : decode cX8_limit 48 = .ok (.getfield 9, 3) := by decide +kernel
theorem dX8_limit_51 : decode cX8_limit 51 = .ok (.bipush 6, 2) := by decide +kernel
theorem dX8_limit_53 : decode cX8_limit 53 = .ok (.iconst 2, 1) := by decide +kernel
theorem dX8_limit_54 : decode cX8_limit 54 = .ok (.iload_n 1, 1) := by decide +kernel
theorem dX8_limit_55 : decode cX8_limit 55 = .ok (.imul, 1) := by decide +kernel
theorem dX8_limit_56 : decode cX8_limit 56 = .ok (.iadd, 1) := by decide +kernel
theorem dX8_limit_57 : decode cX8_limit 57 = .ok (.iaload, 1) := by decide +kernel
theorem dX8_limit_58 : decode cX8_limit 58 = .ok (.istore 4, 2) := by decide +kernel
theorem dX8_limit_60 : decode cX8_limit 60 = .ok (.aload_n 0, 1) := by decide +kernel
theorem dX8_limit_61 : decode cX8_limit 61 = .ok (.getfield 9, 3) := by decide +kernel
theorem dX8_limit_64 : decode cX8_limit 64 = .ok (.bipush 6, 2) := by decide +kernel
theorem dX8_limit_66 : decode cX8_limit 66 = .ok (.iconst 2, 1) := by decide +kernel
theorem dX8_limit_67 : decode cX8_limit 67 = .ok (.iload_n 1, 1) := by decide +kernel
theorem dX8_limit_68 : decode cX8_limit 68 = .ok (.imul, 1) := by decide +kernel
theorem dX8_limit_69 : decode cX8_limit 69 = .ok (.iadd, 1) := by decide +kernel
theorem dX8_limit_70 : decode cX8_limit 70 = .ok (.iconst 1, 1) := by decide +kernel
theorem dX8_limit_71 : decode cX8_limit 71 = .ok (.iadd, 1) := by decide +kernel
theorem dX8_limit_72 : decode cX8_limit 72 = .ok (.iaload, 1) := by decide +kernel
theorem dX8_limit_73 : decode cX8_limit 73 = .ok (.istore 5, 2) := by decide +kernel
theorem dX8_limit_75 : decode cX8_limit 75 = .ok (.iload 4, 2) := by decide +kernel
theorem dX8_limit_77 : decode cX8_limit 77 = .ok (.iload_n 2, 1) := by decide +kernel
theorem dX8_limit_78 : decode cX8_limit 78 = .ok (.if_icmp .ne 9, 3) := by decide +kernel
theorem dX8_limit_81 : decode cX8_limit 81 = .ok (.iload 5, 2) := by decide +kernel
theorem dX8_limit_83 : decode cX8_limit 83 = .ok (.iload_n 3, 1) := by decide +kernel
theorem dX8_limit_84 : decode cX8_limit 84 = .ok (.if_icmp .eq 7, 3) := by decide +kernel
theorem dX8_limit_87 : decode cX8_limit 87 = .ok (.aload_n 0, 1) := by decide +kernel
theorem dX8_limit_88 : decode cX8_limit 88 = .ok (.invokevirtual 366, 3) := by decide +kernel
theorem dX8_limit_91 : decode cX8_limit 91 = .ok (.aload_n 0, 1) := by decide +kernel
theorem dX8_limit_92 : decode cX8_limit 92 = .ok (.getfield 9, 3) := by decide +kernel
theorem dX8_limit_95 : decode cX8_limit 95 = .ok (.bipush 6, 2) := by decide +kernel
theorem dX8_limit_97 : decode cX8_limit 97 = .ok (.iconst 2, 1) := by decide +kernel
theorem dX8_limit_98 : decode cX8_limit 98 = .ok (.iload_n 1, 1) := by decide +kernel
theorem dX8_limit_99 : decode cX8_limit 99 = .ok (.imul, 1) := by decide +kernel
theorem dX8_limit_100 : decode cX8_limit 100 = .ok (.iadd, 1) := by decide +kernel
theorem dX8_limit_101 : decode cX8_limit 101 = .ok (.iload_n 2, 1) := by decide +kernel
theorem dX8_limit_102 : decode cX8_limit 102 = .ok (.iastore, 1) := by decide +kernel
theorem dX8_limit_103 : decode cX8_limit 103 = .ok (.aload_n 0, 1) := by decide +kernel
theorem dX8_limit_104 : decode cX8_limit 104 = .ok (.getfield 9, 3) := by decide +kernel
theorem dX8_limit_107 : decode cX8_limit 107 = .ok (.bipush 6, 2) := by decide +kernel
theorem dX8_limit_109 : decode cX8_limit 109 = .ok (.iconst 2, 1) := by decide +kernel
theorem dX8_limit_110 : decode cX8_limit 110 = .ok (.iload_n 1, 1) := by decide +kernel
theorem dX8_limit_111 : decode cX8_limit 111 = .ok (.imul, 1) := by decide +kernel
theorem dX8_limit_112 : decode cX8_limit 112 = .ok (.iadd, 1) := by decide +kernel
theorem dX8_limit_113 : decode cX8_limit 113 = .ok (.iconst 1, 1) := by decide +kernel
theorem dX8_limit_114 : decode cX8_limit 114 = .ok (.iadd, 1) := by decide +kernel
theorem dX8_limit_115 : decode cX8_limit 115 = .ok (.iload_n 3, 1) := by decide +kernel
theorem dX8_limit_116 : decode cX8_limit 116 = .ok (.iastore, 1) := by decide +kernel
theorem dX8_limit_117 : decode cX8_limit 117 = .ok (.bipush 10, 2) := by decide +kernel
theorem dX8_limit_119 : decode cX8_limit 119 = .ok (.iload 4, 2) := by decide +kernel
theorem dX8_limit_121 : decode cX8_limit 121 = .ok (.imul, 1) := by decide +kernel
theorem dX8_limit_122 : decode cX8_limit 122 = .ok (.iload 5, 2) := by decide +kernel
theorem dX8_limit_124 : decode cX8_limit 124 = .ok (.iadd, 1) := by decide +kernel
theorem dX8_limit_125 : decode cX8_limit 125 = .ok (.ireturn, 1) := by decide +kernel
theorem dX8_ask_0 : decode cX8_ask 0 = .ok (.iload_n 2, 1) := by decide +kernel
theorem dX8_ask_1 : decode cX8_ask 1 = .ok (.bipush 10, 2) := by decide +kernel
theorem dX8_ask_3 : decode cX8_ask 3 = .ok (.idiv, 1) := by decide +kernel
theorem dX8_ask_4 : decode cX8_ask 4 = .ok (.bipush 100, 2) := by decide +kernel
theorem dX8_ask_6 : decode cX8_ask 6 = .ok (.irem, 1) := by decide +kernel
theorem dX8_ask_7 : decode cX8_ask 7 = .ok (.istore 6, 2) := by decide +kernel
theorem dX8_ask_9 : decode cX8_ask 9 = .ok (.aload_n 0, 1) := by decide +kernel
theorem dX8_ask_10 : decode cX8_ask 10 = .ok (.iload_n 1, 1) := by decide +kernel
theorem dX8_ask_11 : decode cX8_ask 11 = .ok (.invokevirtual 265, 3) := by decide +kernel
theorem dX8_ask_14 : decode cX8_ask 14 = .ok (.ifCond .eq 41, 3) := by decide +kernel
theorem dX8_ask_17 : decode cX8_ask 17 = .ok (.iload_n 2, 1) := by decide +kernel
theorem dX8_ask_18 : decode cX8_ask 18 = .ok (.i2l, 1) := by decide +kernel
theorem dX8_ask_19 : decode cX8_ask 19 = .ok (.lconst 0, 1) := by decide +kernel
theorem dX8_ask_20 : decode cX8_ask 20 = .ok (.ldc2_w 393, 3) := by decide +kernel
theorem dX8_ask_23 : decode cX8_ask 23 = .ok (.invokestatic 45, 3) := by decide +kernel
theorem dX8_ask_26 : decode cX8_ask 26 = .ok (.ifCond .eq 29, 3) := by decide +kernel
theorem dX8_ask_29 : decode cX8_ask 29 = .ok (.iload_n 2, 1) := by decide +kernel
theorem dX8_ask_30 : decode cX8_ask 30 = .ok (.bipush 10, 2) := by decide +kernel
theorem dX8_ask_32 : decode cX8_ask 32 = .ok (.irem, 1) := by decide +kernel
theorem dX8_ask_33 : decode cX8_ask 33 = .ok (.i2l, 1) := by decide +kernel
theorem dX8_ask_34 : decode cX8_ask 34 = .ok (.lconst 0, 1) := by decide +kernel
theorem dX8_ask_35 : decode cX8_ask 35 = .ok (.lconst 1, 1) := by decide +kernel
theorem dX8_ask_36 : decode cX8_ask 36 = .ok (.invokestatic 45, 3) := by decide +kernel
theorem dX8_ask_39 : decode cX8_ask 39 = .ok (.ifCond .eq 16, 3) := by decide +kernel
theorem dX8_ask_42 : decode cX8_ask 42 = .ok (.iload 6, 2) := by decide +kernel
theorem dX8_ask_44 : decode cX8_ask 44 = .ok (.i2l, 1) := by decide +kernel
theorem dX8_ask_45 : decode cX8_ask 45 = .ok (.lconst 0, 1) := by decide +kernel
theorem dX8_ask_46 : decode cX8_ask 46 = .ok (.ldc2_w 55, 3) := by decide +kernel
theorem dX8_ask_49 : decode cX8_ask 49 = .ok (.invokestatic 45, 3) := by decide +kernel
theorem dX8_ask_52 : decode cX8_ask 52 = .ok (.ifCond .ne 6, 3) := by decide +kernel
theorem dX8_ask_55 : decode cX8_ask 55 = .ok (.bipush (-2), 2) := by decide +kernel
theorem dX8_ask_57 : decode cX8_ask 57 = .ok (.ireturn, 1) := by decide +kernel
theorem dX8_ask_58 : decode cX8_ask 58 = .ok (.aload_n 0, 1) := by decide +kernel
theorem dX8_ask_59 : decode cX8_ask 59 = .ok (.iload_n 3, 1) := by decide +kernel
theorem dX8_ask_60 : decode cX8_ask 60 = .ok (.invokevirtual 57, 3) := by decide +kernel
theorem dX8_ask_63 : decode cX8_ask 63 = .ok (.ifCond .eq 33, 3) := by decide +kernel
theorem dX8_ask_66 : decode cX8_ask 66 = .ok (.aload_n 0, 1) := by decide +kernel
theorem dX8_ask_67 : decode cX8_ask 67 = .ok (.iload 4, 2) := by decide +kernel
theorem dX8_ask_69 : decode cX8_ask 69 = .ok (.invokevirtual 57, 3) := by decide +kernel
theorem dX8_ask_72 : decode cX8_ask 72 = .ok (.ifCond .eq 24, 3) := by decide +kernel
theorem dX8_ask_75 : decode cX8_ask 75 = .ok (.iload 4, 2) := by decide +kernel
theorem dX8_ask_77 : decode cX8_ask 77 = .ok (.iload_n 3, 1) := by decide +kernel
theorem dX8_ask_78 : decode cX8_ask 78 = .ok (.iconst 4, 1) := by decide +kernel
theorem dX8_ask_79 : decode cX8_ask 79 = .ok (.iadd, 1) := by decide +kernel
theorem dX8_ask_80 : decode cX8_ask 80 = .ok (.if_icmp .lt 16, 3) := by decide +kernel
theorem dX8_ask_83 : decode cX8_ask 83 = .ok (.iload 5, 2) := by decide +kernel
theorem dX8_ask_85 : decode cX8_ask 85 = .ok (.i2l, 1) := by decide +kernel
theorem dX8_ask_86 : decode cX8_ask 86 = .ok (.lconst 0, 1) := by decide +kernel
theorem dX8_ask_87 : decode cX8_ask 87 = .ok (.ldc2_w 388, 3) := by decide +kernel
theorem dX8_ask_90 : decode cX8_ask 90 = .ok (.invokestatic 45, 3) := by decide +kernel
theorem dX8_ask_93 : decode cX8_ask 93 = .ok (.ifCond .ne 6, 3) := by decide +kernel
theorem dX8_ask_96 : decode cX8_ask 96 = .ok (.bipush (-2), 2) := by decide +kernel
theorem dX8_ask_98 : decode cX8_ask 98 = .ok (.ireturn, 1) := by decide +kernel
theorem dX8_ask_99 : decode cX8_ask 99 = .ok (.aload_n 0, 1) := by decide +kernel
theorem dX8_ask_100 : decode cX8_ask 100 = .ok (.getfield 9, 3) := by decide +kernel
theorem dX8_ask_103 : decode cX8_ask 103 = .ok (.iconst 3, 1) := by decide +kernel
theorem dX8_ask_104 : decode cX8_ask 104 = .ok (.iaload, 1) := by decide +kernel
theorem dX8_ask_105 : decode cX8_ask 105 = .ok (.bipush 24, 2) := by decide +kernel
theorem dX8_ask_107 : decode cX8_ask 107 = .ok (.if_icmp .ne 6, 3) := by decide +kernel
theorem dX8_ask_110 : decode cX8_ask 110 = .ok (.bipush (-5), 2) := by decide +kernel
theorem dX8_ask_112 : decode cX8_ask 112 = .ok (.ireturn, 1) := by decide +kernel
theorem dX8_ask_113 : decode cX8_ask 113 = .ok (.aload_n 0, 1) := by decide +kernel
theorem dX8_ask_114 : decode cX8_ask 114 = .ok (.invokevirtual 366, 3) := by decide +kernel
theorem dX8_ask_117 : decode cX8_ask 117 = .ok (.aload_n 0, 1) := by decide +kernel
theorem dX8_ask_118 : decode cX8_ask 118 = .ok (.getfield 27, 3) := by decide +kernel
theorem dX8_ask_121 : decode cX8_ask 121 = .ok (.iconst 0, 1) := by decide +kernel
theorem dX8_ask_122 : decode cX8_ask 122 = .ok (.iload_n 1, 1) := by decide +kernel
theorem dX8_ask_123 : decode cX8_ask 123 = .ok (.iastore, 1) := by decide +kernel
theorem dX8_ask_124 : decode cX8_ask 124 = .ok (.aload_n 0, 1) := by decide +kernel
theorem dX8_ask_125 : decode cX8_ask 125 = .ok (.getfield 27, 3) := by decide +kernel
theorem dX8_ask_128 : decode cX8_ask 128 = .ok (.iconst 1, 1) := by decide +kernel
theorem dX8_ask_129 : decode cX8_ask 129 = .ok (.iload_n 2, 1) := by decide +kernel
theorem dX8_ask_130 : decode cX8_ask 130 = .ok (.sipush 1000, 3) := by decide +kernel
theorem dX8_ask_133 : decode cX8_ask 133 = .ok (.idiv, 1) := by decide +kernel
theorem dX8_ask_134 : decode cX8_ask 134 = .ok (.iastore, 1) := by decide +kernel
theorem dX8_ask_135 : decode cX8_ask 135 = .ok (.aload_n 0, 1) := by decide +kernel
theorem dX8_ask_136 : decode cX8_ask 136 = .ok (.getfield 27, 3) := by decide +kernel
theorem dX8_ask_139 : decode cX8_ask 139 = .ok (.iconst 2, 1) := by decide +kernel
theorem dX8_ask_140 : decode cX8_ask 140 = .ok (.iload 6, 2) := by decide +kernel
theorem dX8_ask_142 : decode cX8_ask 142 = .ok (.iastore, 1) := by decide +kernel
theorem dX8_ask_143 : decode cX8_ask 143 = .ok (.aload_n 0, 1) := by decide +kernel
theorem dX8_ask_144 : decode cX8_ask 144 = .ok (.getfield 27, 3) := by decide +kernel
theorem dX8_ask_147 : decode cX8_ask 147 = .ok (.iconst 3, 1) := by decide +kernel
theorem dX8_ask_148 : decode cX8_ask 148 = .ok (.iload_n 2, 1) := by decide +kernel
theorem dX8_ask_149 : decode cX8_ask 149 = .ok (.bipush 10, 2) := by decide +kernel
theorem dX8_ask_151 : decode cX8_ask 151 = .ok (.irem, 1) := by decide +kernel
theorem dX8_ask_152 : decode cX8_ask 152 = .ok (.iastore, 1) := by decide +kernel
theorem dX8_ask_153 : decode cX8_ask 153 = .ok (.aload_n 0, 1) := by decide +kernel
theorem dX8_ask_154 : decode cX8_ask 154 = .ok (.getfield 27, 3) := by decide +kernel
theorem dX8_ask_157 : decode cX8_ask 157 = .ok (.iconst 4, 1) := by decide +kernel
theorem dX8_ask_158 : decode cX8_ask 158 = .ok (.iload_n 3, 1) := by decide +kernel
theorem dX8_ask_159 : decode cX8_ask 159 = .ok (.iastore, 1) := by decide +kernel
