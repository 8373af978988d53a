theorem bk_cX8_pairs_40 : (cX8_pairs.data.toList.drop 40).take 40 = [180, 0, 9, 5, 46, 162, 0, 169, 3, 54, 6, 21, 6, 42, 180, 0, 9, 5, 46, 162, 0, 149, 42, 21, 5, 3, 182, 0, 67, 27, 160, 0, 40, 42, 21, 6, 3, 182, 0, 67] := by decide +kernel
theorem dX8_pairs_40 : decode cX8_pairs 40 = .ok (.getfield 9, 3) := dq_180 bk_cX8_pairs_40 0 rfl rfl
theorem dX8_pairs_43 : decode cX8_pairs 43 = .ok (.iconst 2, 1) := dk_5 (blk_at bk_cX8_pairs_40 3 rfl)
theorem dX8_pairs_44 : decode cX8_pairs 44 = .ok (.iaload, 1) := dk_46 (blk_at bk_cX8_pairs_40 4 rfl)
theorem dX8_pairs_45 : decode cX8_pairs 45 = .ok (.if_icmp .ge 169, 3) := dq_162 bk_cX8_pairs_40 5 rfl (by decide)
theorem dX8_pairs_48 : decode cX8_pairs 48 = .ok (.iconst 0, 1) := dk_3 (blk_at bk_cX8_pairs_40 8 rfl)
theorem dX8_pairs_49 : decode cX8_pairs 49 = .ok (.istore 6, 2) := dq_54 bk_cX8_pairs_40 9 rfl rfl
theorem dX8_pairs_51 : decode cX8_pairs 51 = .ok (.iload 6, 2) := dq_21 bk_cX8_pairs_40 11 rfl rfl
theorem dX8_pairs_53 : decode cX8_pairs 53 = .ok (.aload_n 0, 1) := dk_42 (blk_at bk_cX8_pairs_40 13 rfl)
theorem dX8_pairs_54 : decode cX8_pairs 54 = .ok (.getfield 9, 3) := dq_180 bk_cX8_pairs_40 14 rfl rfl
theorem dX8_pairs_57 : decode cX8_pairs 57 = .ok (.iconst 2, 1) := dk_5 (blk_at bk_cX8_pairs_40 17 rfl)
theorem dX8_pairs_58 : decode cX8_pairs 58 = .ok (.iaload, 1) := dk_46 (blk_at bk_cX8_pairs_40 18 rfl)
theorem dX8_pairs_59 : decode cX8_pairs 59 = .ok (.if_icmp .ge 149, 3) := dq_162 bk_cX8_pairs_40 19 rfl (by decide)
theorem dX8_pairs_62 : decode cX8_pairs 62 = .ok (.aload_n 0, 1) := dk_42 (blk_at bk_cX8_pairs_40 22 rfl)
theorem dX8_pairs_63 : decode cX8_pairs 63 = .ok (.iload 5, 2) := dq_21 bk_cX8_pairs_40 23 rfl rfl
theorem dX8_pairs_65 : decode cX8_pairs 65 = .ok (.iconst 0, 1) := dk_3 (blk_at bk_cX8_pairs_40 25 rfl)
theorem dX8_pairs_66 : decode cX8_pairs 66 = .ok (.invokevirtual 67, 3) := dq_182 bk_cX8_pairs_40 26 rfl rfl
theorem dX8_pairs_69 : decode cX8_pairs 69 = .ok (.iload_n 1, 1) := dk_27 (blk_at bk_cX8_pairs_40 29 rfl)
theorem dX8_pairs_70 : decode cX8_pairs 70 = .ok (.if_icmp .ne 40, 3) := dq_160 bk_cX8_pairs_40 30 rfl (by decide)
theorem dX8_pairs_73 : decode cX8_pairs 73 = .ok (.aload_n 0, 1) := dk_42 (blk_at bk_cX8_pairs_40 33 rfl)
theorem dX8_pairs_74 : decode cX8_pairs 74 = .ok (.iload 6, 2) := dq_21 bk_cX8_pairs_40 34 rfl rfl
theorem dX8_pairs_76 : decode cX8_pairs 76 = .ok (.iconst 0, 1) := dk_3 (blk_at bk_cX8_pairs_40 36 rfl)
theorem dX8_pairs_77 : decode cX8_pairs 77 = .ok (.invokevirtual 67, 3) := dq_182 bk_cX8_pairs_40 37 rfl rfl
theorem bk_cX8_pairs_80 : (cX8_pairs.data.toList.drop 80).take 40 = [27, 160, 0, 29, 42, 21, 5, 4, 182, 0, 67, 28, 160, 0, 18, 42, 21, 6, 4, 182, 0, 67, 28, 160, 0, 7, 4, 167, 0, 4, 3, 54, 7, 42, 21, 5, 6, 182, 0, 67] := by decide +kernel
theorem dX8_pairs_80 : decode cX8_pairs 80 = .ok (.iload_n 1, 1) := dk_27 (blk_at bk_cX8_pairs_80 0 rfl)
theorem dX8_pairs_81 : decode cX8_pairs 81 = .ok (.if_icmp .ne 29, 3) := dq_160 bk_cX8_pairs_80 1 rfl (by decide)
theorem dX8_pairs_84 : decode cX8_pairs 84 = .ok (.aload_n 0, 1) := dk_42 (blk_at bk_cX8_pairs_80 4 rfl)
theorem dX8_pairs_85 : decode cX8_pairs 85 = .ok (.iload 5, 2) := dq_21 bk_cX8_pairs_80 5 rfl rfl
theorem dX8_pairs_87 : decode cX8_pairs 87 = .ok (.iconst 1, 1) := dk_4 (blk_at bk_cX8_pairs_80 7 rfl)
theorem dX8_pairs_88 : decode cX8_pairs 88 = .ok (.invokevirtual 67, 3) := dq_182 bk_cX8_pairs_80 8 rfl rfl
theorem dX8_pairs_91 : decode cX8_pairs 91 = .ok (.iload_n 2, 1) := dk_28 (blk_at bk_cX8_pairs_80 11 rfl)
theorem dX8_pairs_92 : decode cX8_pairs 92 = .ok (.if_icmp .ne 18, 3) := dq_160 bk_cX8_pairs_80 12 rfl (by decide)
theorem dX8_pairs_95 : decode cX8_pairs 95 = .ok (.aload_n 0, 1) := dk_42 (blk_at bk_cX8_pairs_80 15 rfl)
theorem dX8_pairs_96 : decode cX8_pairs 96 = .ok (.iload 6, 2) := dq_21 bk_cX8_pairs_80 16 rfl rfl
theorem dX8_pairs_98 : decode cX8_pairs 98 = .ok (.iconst 1, 1) := dk_4 (blk_at bk_cX8_pairs_80 18 rfl)
theorem dX8_pairs_99 : decode cX8_pairs 99 = .ok (.invokevirtual 67, 3) := dq_182 bk_cX8_pairs_80 19 rfl rfl
theorem dX8_pairs_102 : decode cX8_pairs 102 = .ok (.iload_n 2, 1) := dk_28 (blk_at bk_cX8_pairs_80 22 rfl)
theorem dX8_pairs_103 : decode cX8_pairs 103 = .ok (.if_icmp .ne 7, 3) := dq_160 bk_cX8_pairs_80 23 rfl (by decide)
theorem dX8_pairs_106 : decode cX8_pairs 106 = .ok (.iconst 1, 1) := dk_4 (blk_at bk_cX8_pairs_80 26 rfl)
theorem dX8_pairs_107 : decode cX8_pairs 107 = .ok (.goto 4, 3) := dq_167 bk_cX8_pairs_80 27 rfl (by decide)
theorem dX8_pairs_110 : decode cX8_pairs 110 = .ok (.iconst 0, 1) := dk_3 (blk_at bk_cX8_pairs_80 30 rfl)
theorem dX8_pairs_111 : decode cX8_pairs 111 = .ok (.istore 7, 2) := dq_54 bk_cX8_pairs_80 31 rfl rfl
theorem dX8_pairs_113 : decode cX8_pairs 113 = .ok (.aload_n 0, 1) := dk_42 (blk_at bk_cX8_pairs_80 33 rfl)
theorem dX8_pairs_114 : decode cX8_pairs 114 = .ok (.iload 5, 2) := dq_21 bk_cX8_pairs_80 34 rfl rfl
theorem dX8_pairs_116 : decode cX8_pairs 116 = .ok (.iconst 3, 1) := dk_6 (blk_at bk_cX8_pairs_80 36 rfl)
theorem dX8_pairs_117 : decode cX8_pairs 117 = .ok (.invokevirtual 67, 3) := dq_182 bk_cX8_pairs_80 37 rfl rfl
theorem bk_cX8_pairs_120 : (cX8_pairs.data.toList.drop 120).take 40 = [154, 0, 43, 42, 21, 6, 6, 182, 0, 67, 4, 160, 0, 32, 42, 21, 6, 5, 182, 0, 67, 42, 21, 5, 5, 182, 0, 67, 100, 133, 9, 29, 133, 184, 0, 45, 153, 0, 7, 4] := by decide +kernel
theorem dX8_pairs_120 : decode cX8_pairs 120 = .ok (.ifCond .ne 43, 3) := dq_154 bk_cX8_pairs_120 0 rfl (by decide)
theorem dX8_pairs_123 : decode cX8_pairs 123 = .ok (.aload_n 0, 1) := dk_42 (blk_at bk_cX8_pairs_120 3 rfl)
theorem dX8_pairs_124 : decode cX8_pairs 124 = .ok (.iload 6, 2) := dq_21 bk_cX8_pairs_120 4 rfl rfl
theorem dX8_pairs_126 : decode cX8_pairs 126 = .ok (.iconst 3, 1) := dk_6 (blk_at bk_cX8_pairs_120 6 rfl)
theorem dX8_pairs_127 : decode cX8_pairs 127 = .ok (.invokevirtual 67, 3) := dq_182 bk_cX8_pairs_120 7 rfl rfl
theorem dX8_pairs_130 : decode cX8_pairs 130 = .ok (.iconst 1, 1) := dk_4 (blk_at bk_cX8_pairs_120 10 rfl)
theorem dX8_pairs_131 : decode cX8_pairs 131 = .ok (.if_icmp .ne 32, 3) := dq_160 bk_cX8_pairs_120 11 rfl (by decide)
theorem dX8_pairs_134 : decode cX8_pairs 134 = .ok (.aload_n 0, 1) := dk_42 (blk_at bk_cX8_pairs_120 14 rfl)
theorem dX8_pairs_135 : decode cX8_pairs 135 = .ok (.iload 6, 2) := dq_21 bk_cX8_pairs_120 15 rfl rfl
theorem dX8_pairs_137 : decode cX8_pairs 137 = .ok (.iconst 2, 1) := dk_5 (blk_at bk_cX8_pairs_120 17 rfl)
theorem dX8_pairs_138 : decode cX8_pairs 138 = .ok (.invokevirtual 67, 3) := dq_182 bk_cX8_pairs_120 18 rfl rfl
theorem dX8_pairs_141 : decode cX8_pairs 141 = .ok (.aload_n 0, 1) := dk_42 (blk_at bk_cX8_pairs_120 21 rfl)
theorem dX8_pairs_142 : decode cX8_pairs 142 = .ok (.iload 5, 2) := dq_21 bk_cX8_pairs_120 22 rfl rfl
theorem dX8_pairs_144 : decode cX8_pairs 144 = .ok (.iconst 2, 1) := dk_5 (blk_at bk_cX8_pairs_120 24 rfl)
theorem dX8_pairs_145 : decode cX8_pairs 145 = .ok (.invokevirtual 67, 3) := dq_182 bk_cX8_pairs_120 25 rfl rfl
theorem dX8_pairs_148 : decode cX8_pairs 148 = .ok (.isub, 1) := dk_100 (blk_at bk_cX8_pairs_120 28 rfl)
theorem dX8_pairs_149 : decode cX8_pairs 149 = .ok (.i2l, 1) := dk_133 (blk_at bk_cX8_pairs_120 29 rfl)
theorem dX8_pairs_150 : decode cX8_pairs 150 = .ok (.lconst 0, 1) := dk_9 (blk_at bk_cX8_pairs_120 30 rfl)
theorem dX8_pairs_151 : decode cX8_pairs 151 = .ok (.iload_n 3, 1) := dk_29 (blk_at bk_cX8_pairs_120 31 rfl)
theorem dX8_pairs_152 : decode cX8_pairs 152 = .ok (.i2l, 1) := dk_133 (blk_at bk_cX8_pairs_120 32 rfl)
theorem dX8_pairs_153 : decode cX8_pairs 153 = .ok (.invokestatic 45, 3) := dq_184 bk_cX8_pairs_120 33 rfl rfl
theorem dX8_pairs_156 : decode cX8_pairs 156 = .ok (.ifCond .eq 7, 3) := dq_153 bk_cX8_pairs_120 36 rfl (by decide)
theorem dX8_pairs_159 : decode cX8_pairs 159 = .ok (.iconst 1, 1) := dk_4 (blk_at bk_cX8_pairs_120 39 rfl)
theorem bk_cX8_pairs_160 : (cX8_pairs.data.toList.drop 160).take 40 = [167, 0, 4, 3, 54, 8, 21, 4, 21, 7, 153, 0, 28, 21, 8, 153, 0, 23, 42, 21, 5, 182, 0, 71, 42, 21, 6, 182, 0, 71, 126, 153, 0, 7, 4, 167, 0, 4, 3, 96] := by decide +kernel
theorem dX8_pairs_160 : decode cX8_pairs 160 = .ok (.goto 4, 3) := dq_167 bk_cX8_pairs_160 0 rfl (by decide)
theorem dX8_pairs_163 : decode cX8_pairs 163 = .ok (.iconst 0, 1) := dk_3 (blk_at bk_cX8_pairs_160 3 rfl)
theorem dX8_pairs_164 : decode cX8_pairs 164 = .ok (.istore 8, 2) := dq_54 bk_cX8_pairs_160 4 rfl rfl
theorem dX8_pairs_166 : decode cX8_pairs 166 = .ok (.iload 4, 2) := dq_21 bk_cX8_pairs_160 6 rfl rfl
theorem dX8_pairs_168 : decode cX8_pairs 168 = .ok (.iload 7, 2) := dq_21 bk_cX8_pairs_160 8 rfl rfl
theorem dX8_pairs_170 : decode cX8_pairs 170 = .ok (.ifCond .eq 28, 3) := dq_153 bk_cX8_pairs_160 10 rfl (by decide)
theorem dX8_pairs_173 : decode cX8_pairs 173 = .ok (.iload 8, 2) := dq_21 bk_cX8_pairs_160 13 rfl rfl
theorem dX8_pairs_175 : decode cX8_pairs 175 = .ok (.ifCond .eq 23, 3) := dq_153 bk_cX8_pairs_160 15 rfl (by decide)
theorem dX8_pairs_178 : decode cX8_pairs 178 = .ok (.aload_n 0, 1) := dk_42 (blk_at bk_cX8_pairs_160 18 rfl)
theorem dX8_pairs_179 : decode cX8_pairs 179 = .ok (.iload 5, 2) := dq_21 bk_cX8_pairs_160 19 rfl rfl
theorem dX8_pairs_181 : decode cX8_pairs 181 = .ok (.invokevirtual 71, 3) := dq_182 bk_cX8_pairs_160 21 rfl rfl
theorem dX8_pairs_184 : decode cX8_pairs 184 = .ok (.aload_n 0, 1) := dk_42 (blk_at bk_cX8_pairs_160 24 rfl)
theorem dX8_pairs_185 : decode cX8_pairs 185 = .ok (.iload 6, 2) := dq_21 bk_cX8_pairs_160 25 rfl rfl
theorem dX8_pairs_187 : decode cX8_pairs 187 = .ok (.invokevirtual 71, 3) := dq_182 bk_cX8_pairs_160 27 rfl rfl
theorem dX8_pairs_190 : decode cX8_pairs 190 = .ok (.iand, 1) := dk_126 (blk_at bk_cX8_pairs_160 30 rfl)
theorem dX8_pairs_191 : decode cX8_pairs 191 = .ok (.ifCond .eq 7, 3) := dq_153 bk_cX8_pairs_160 31 rfl (by decide)
theorem dX8_pairs_194 : decode cX8_pairs 194 = .ok (.iconst 1, 1) := dk_4 (blk_at bk_cX8_pairs_160 34 rfl)
theorem dX8_pairs_195 : decode cX8_pairs 195 = .ok (.goto 4, 3) := dq_167 bk_cX8_pairs_160 35 rfl (by decide)
theorem dX8_pairs_198 : decode cX8_pairs 198 = .ok (.iconst 0, 1) := dk_3 (blk_at bk_cX8_pairs_160 38 rfl)
theorem dX8_pairs_199 : decode cX8_pairs 199 = .ok (.iadd, 1) := dk_96 (blk_at bk_cX8_pairs_160 39 rfl)
theorem bk_cX8_pairs_200 : (cX8_pairs.data.toList.drop 200).take 17 = [54, 4, 132, 6, 1, 167, 255, 102, 132, 5, 1, 167, 255, 82, 21, 4, 172] := by decide +kernel
theorem dX8_pairs_200 : decode cX8_pairs 200 = .ok (.istore 4, 2) := dq_54 bk_cX8_pairs_200 0 rfl rfl
theorem dX8_pairs_202 : decode cX8_pairs 202 = .ok (.iinc 6 1, 3) := dq_132 bk_cX8_pairs_200 2 rfl rfl (by decide)
theorem dX8_pairs_205 : decode cX8_pairs 205 = .ok (.goto (-154), 3) := dq_167 bk_cX8_pairs_200 5 rfl (by decide)
theorem dX8_pairs_208 : decode cX8_pairs 208 = .ok (.iinc 5 1, 3) := dq_132 bk_cX8_pairs_200 8 rfl rfl (by decide)
theorem dX8_pairs_211 : decode cX8_pairs 211 = .ok (.goto (-174), 3) := dq_167 bk_cX8_pairs_200 11 rfl (by decide)
theorem dX8_pairs_214 : decode cX8_pairs 214 = .ok (.iload 4, 2) := dq_21 bk_cX8_pairs_200 14 rfl rfl
theorem dX8_pairs_216 : decode cX8_pairs 216 = .ok (.ireturn, 1) := dk_172 (blk_at bk_cX8_pairs_200 16 rfl)
theorem bk_cX8_kept_0 : (cX8_kept.data.toList.drop 0).take 40 = [42, 182, 0, 49, 153, 0, 13, 27, 133, 9, 10, 184, 0, 45, 154, 0, 6, 16, 254, 172, 3, 61, 3, 62, 29, 42, 180, 0, 9, 5, 46, 162, 0, 30, 28, 42, 29, 182, 1, 49] := by decide +kernel
theorem dX8_kept_0 : decode cX8_kept 0 = .ok (.aload_n 0, 1) := dk_42 (blk_at bk_cX8_kept_0 0 rfl)
theorem dX8_kept_1 : decode cX8_kept 1 = .ok (.invokevirtual 49, 3) := dq_182 bk_cX8_kept_0 1 rfl rfl
theorem dX8_kept_4 : decode cX8_kept 4 = .ok (.ifCond .eq 13, 3) := dq_153 bk_cX8_kept_0 4 rfl (by decide)
theorem dX8_kept_7 : decode cX8_kept 7 = .ok (.iload_n 1, 1) := dk_27 (blk_at bk_cX8_kept_0 7 rfl)
theorem dX8_kept_8 : decode cX8_kept 8 = .ok (.i2l, 1) := dk_133 (blk_at bk_cX8_kept_0 8 rfl)
theorem dX8_kept_9 : decode cX8_kept 9 = .ok (.lconst 0, 1) := dk_9 (blk_at bk_cX8_kept_0 9 rfl)
theorem dX8_kept_10 : decode cX8_kept 10 = .ok (.lconst 1, 1) := dk_10 (blk_at bk_cX8_kept_0 10 rfl)
theorem dX8_kept_11 : decode cX8_kept 11 = .ok (.invokestatic 45, 3) := dq_184 bk_cX8_kept_0 11 rfl rfl
theorem dX8_kept_14 : decode cX8_kept 14 = .ok (.ifCond .ne 6, 3) := dq_154 bk_cX8_kept_0 14 rfl (by decide)
theorem dX8_kept_17 : decode cX8_kept 17 = .ok (.bipush (-2), 2) := dq_16 bk_cX8_kept_0 17 rfl (by decide)
theorem dX8_kept_19 : decode cX8_kept 19 = .ok (.ireturn, 1) := dk_172 (blk_at bk_cX8_kept_0 19 rfl)
theorem dX8_kept_20 : decode cX8_kept 20 = .ok (.iconst 0, 1) := dk_3 (blk_at bk_cX8_kept_0 20 rfl)
theorem dX8_kept_21 : decode cX8_kept 21 = .ok (.istore_n 2, 1) := dk_61 (blk_at bk_cX8_kept_0 21 rfl)
theorem dX8_kept_22 : decode cX8_kept 22 = .ok (.iconst 0, 1) := dk_3 (blk_at bk_cX8_kept_0 22 rfl)
theorem dX8_kept_23 : decode cX8_kept 23 = .ok (.istore_n 3, 1) := dk_62 (blk_at bk_cX8_kept_0 23 rfl)
theorem dX8_kept_24 : decode cX8_kept 24 = .ok (.iload_n 3, 1) := dk_29 (blk_at bk_cX8_kept_0 24 rfl)
theorem dX8_kept_25 : decode cX8_kept 25 = .ok (.aload_n 0, 1) := dk_42 (blk_at bk_cX8_kept_0 25 rfl)
theorem dX8_kept_26 : decode cX8_kept 26 = .ok (.getfield 9, 3) := dq_180 bk_cX8_kept_0 26 rfl rfl
theorem dX8_kept_29 : decode cX8_kept 29 = .ok (.iconst 2, 1) := dk_5 (blk_at bk_cX8_kept_0 29 rfl)
theorem dX8_kept_30 : decode cX8_kept 30 = .ok (.iaload, 1) := dk_46 (blk_at bk_cX8_kept_0 30 rfl)
theorem dX8_kept_31 : decode cX8_kept 31 = .ok (.if_icmp .ge 30, 3) := dq_162 bk_cX8_kept_0 31 rfl (by decide)
theorem dX8_kept_34 : decode cX8_kept 34 = .ok (.iload_n 2, 1) := dk_28 (blk_at bk_cX8_kept_0 34 rfl)
theorem dX8_kept_35 : decode cX8_kept 35 = .ok (.aload_n 0, 1) := dk_42 (blk_at bk_cX8_kept_0 35 rfl)
theorem dX8_kept_36 : decode cX8_kept 36 = .ok (.iload_n 3, 1) := dk_29 (blk_at bk_cX8_kept_0 36 rfl)
theorem dX8_kept_37 : decode cX8_kept 37 = .ok (.invokevirtual 305, 3) := dq_182 bk_cX8_kept_0 37 rfl rfl
theorem bk_cX8_kept_40 : (cX8_kept.data.toList.drop 40).take 23 = [27, 4, 96, 160, 0, 9, 4, 29, 120, 167, 0, 4, 3, 128, 61, 132, 3, 1, 167, 255, 222, 28, 172] := by decide +kernel
theorem dX8_kept_40 : decode cX8_kept 40 = .ok (.iload_n 1, 1) := dk_27 (blk_at bk_cX8_kept_40 0 rfl)
theorem dX8_kept_41 : decode cX8_kept 41 = .ok (.iconst 1, 1) := dk_4 (blk_at bk_cX8_kept_40 1 rfl)
theorem dX8_kept_42 : decode cX8_kept 42 = .ok (.iadd, 1) := dk_96 (blk_at bk_cX8_kept_40 2 rfl)
theorem dX8_kept_43 : decode cX8_kept 43 = .ok (.if_icmp .ne 9, 3) := dq_160 bk_cX8_kept_40 3 rfl (by decide)
theorem dX8_kept_46 : decode cX8_kept 46 = .ok (.iconst 1, 1) := dk_4 (blk_at bk_cX8_kept_40 6 rfl)
theorem dX8_kept_47 : decode cX8_kept 47 = .ok (.iload_n 3, 1) := dk_29 (blk_at bk_cX8_kept_40 7 rfl)
theorem dX8_kept_48 : decode cX8_kept 48 = .ok (.ishl, 1) := dk_120 (blk_at bk_cX8_kept_40 8 rfl)
theorem dX8_kept_49 : decode cX8_kept 49 = .ok (.goto 4, 3) := dq_167 bk_cX8_kept_40 9 rfl (by decide)
theorem dX8_kept_52 : decode cX8_kept 52 = .ok (.iconst 0, 1) := dk_3 (blk_at bk_cX8_kept_40 12 rfl)
theorem dX8_kept_53 : decode cX8_kept 53 = .ok (.ior, 1) := dk_128 (blk_at bk_cX8_kept_40 13 rfl)
theorem dX8_kept_54 : decode cX8_kept 54 = .ok (.istore_n 2, 1) := dk_61 (blk_at bk_cX8_kept_40 14 rfl)
theorem dX8_kept_55 : decode cX8_kept 55 = .ok (.iinc 3 1, 3) := dq_132 bk_cX8_kept_40 15 rfl rfl (by decide)
theorem dX8_kept_58 : decode cX8_kept 58 = .ok (.goto (-34), 3) := dq_167 bk_cX8_kept_40 18 rfl (by decide)
theorem dX8_kept_61 : decode cX8_kept 61 = .ok (.iload_n 2, 1) := dk_28 (blk_at bk_cX8_kept_40 21 rfl)
theorem dX8_kept_62 : decode cX8_kept 62 = .ok (.ireturn, 1) := dk_172 (blk_at bk_cX8_kept_40 22 rfl)
theorem bk_cX8_chosen_0 : (cX8_chosen.data.toList.drop 0).take 40 = [2, 61, 3, 62, 29, 42, 180, 0, 16, 6, 46, 162, 0, 94, 42, 180, 0, 30, 29, 46, 2, 160, 0, 78, 42, 42, 29, 3, 182, 1, 28, 42, 29, 4, 182, 1, 28, 182, 1, 57] := by decide +kernel
theorem dX8_chosen_0 : decode cX8_chosen 0 = .ok (.iconst (-1), 1) := dk_2 (blk_at bk_cX8_chosen_0 0 rfl)
theorem dX8_chosen_1 : decode cX8_chosen 1 = .ok (.istore_n 2, 1) := dk_61 (blk_at bk_cX8_chosen_0 1 rfl)
theorem dX8_chosen_2 : decode cX8_chosen 2 = .ok (.iconst 0, 1) := dk_3 (blk_at bk_cX8_chosen_0 2 rfl)
theorem dX8_chosen_3 : decode cX8_chosen 3 = .ok (.istore_n 3, 1) := dk_62 (blk_at bk_cX8_chosen_0 3 rfl)
theorem dX8_chosen_4 : decode cX8_chosen 4 = .ok (.iload_n 3, 1) := dk_29 (blk_at bk_cX8_chosen_0 4 rfl)
theorem dX8_chosen_5 : decode cX8_chosen 5 = .ok (.aload_n 0, 1) := dk_42 (blk_at bk_cX8_chosen_0 5 rfl)
theorem dX8_chosen_6 : decode cX8_chosen 6 = .ok (.getfield 16, 3) := dq_180 bk_cX8_chosen_0 6 rfl rfl
theorem dX8_chosen_9 : decode cX8_chosen 9 = .ok (.iconst 3, 1) := dk_6 (blk_at bk_cX8_chosen_0 9 rfl)
theorem dX8_chosen_10 : decode cX8_chosen 10 = .ok (.iaload, 1) := dk_46 (blk_at bk_cX8_chosen_0 10 rfl)
theorem dX8_chosen_11 : decode cX8_chosen 11 = .ok (.if_icmp .ge 94, 3) := dq_162 bk_cX8_chosen_0 11 rfl (by decide)
theorem dX8_chosen_14 : decode cX8_chosen 14 = .ok (.aload_n 0, 1) := dk_42 (blk_at bk_cX8_chosen_0 14 rfl)
theorem dX8_chosen_15 : decode cX8_chosen 15 = .ok (.getfield 30, 3) := dq_180 bk_cX8_chosen_0 15 rfl rfl
theorem dX8_chosen_18 : decode cX8_chosen 18 = .ok (.iload_n 3, 1) := dk_29 (blk_at bk_cX8_chosen_0 18 rfl)
theorem dX8_chosen_19 : decode cX8_chosen 19 = .ok (.iaload, 1) := dk_46 (blk_at bk_cX8_chosen_0 19 rfl)
theorem dX8_chosen_20 : decode cX8_chosen 20 = .ok (.iconst (-1), 1) := dk_2 (blk_at bk_cX8_chosen_0 20 rfl)
theorem dX8_chosen_21 : decode cX8_chosen 21 = .ok (.if_icmp .ne 78, 3) := dq_160 bk_cX8_chosen_0 21 rfl (by decide)
theorem dX8_chosen_24 : decode cX8_chosen 24 = .ok (.aload_n 0, 1) := dk_42 (blk_at bk_cX8_chosen_0 24 rfl)
theorem dX8_chosen_25 : decode cX8_chosen 25 = .ok (.aload_n 0, 1) := dk_42 (blk_at bk_cX8_chosen_0 25 rfl)
theorem dX8_chosen_26 : decode cX8_chosen 26 = .ok (.iload_n 3, 1) := dk_29 (blk_at bk_cX8_chosen_0 26 rfl)
theorem dX8_chosen_27 : decode cX8_chosen 27 = .ok (.iconst 0, 1) := dk_3 (blk_at bk_cX8_chosen_0 27 rfl)
theorem dX8_chosen_28 : decode cX8_chosen 28 = .ok (.invokevirtual 284, 3) := dq_182 bk_cX8_chosen_0 28 rfl rfl
theorem dX8_chosen_31 : decode cX8_chosen 31 = .ok (.aload_n 0, 1) := dk_42 (blk_at bk_cX8_chosen_0 31 rfl)
theorem dX8_chosen_32 : decode cX8_chosen 32 = .ok (.iload_n 3, 1) := dk_29 (blk_at bk_cX8_chosen_0 32 rfl)
theorem dX8_chosen_33 : decode cX8_chosen 33 = .ok (.iconst 1, 1) := dk_4 (blk_at bk_cX8_chosen_0 33 rfl)
theorem dX8_chosen_34 : decode cX8_chosen 34 = .ok (.invokevirtual 284, 3) := dq_182 bk_cX8_chosen_0 34 rfl rfl
theorem dX8_chosen_37 : decode cX8_chosen 37 = .ok (.invokevirtual 313, 3) := dq_182 bk_cX8_chosen_0 37 rfl rfl
theorem bk_cX8_chosen_40 : (cX8_chosen.data.toList.drop 40).take 38 = [27, 159, 0, 6, 167, 0, 55, 28, 2, 159, 0, 32, 42, 29, 8, 182, 1, 28, 42, 29, 7, 182, 1, 28, 100, 42, 28, 8, 182, 1, 28, 42, 28, 7, 182, 1, 28, 100] := by decide +kernel
theorem dX8_chosen_40 : decode cX8_chosen 40 = .ok (.iload_n 1, 1) := dk_27 (blk_at bk_cX8_chosen_40 0 rfl)
theorem dX8_chosen_41 : decode cX8_chosen 41 = .ok (.if_icmp .eq 6, 3) := dq_159 bk_cX8_chosen_40 1 rfl (by decide)
theorem dX8_chosen_44 : decode cX8_chosen 44 = .ok (.goto 55, 3) := dq_167 bk_cX8_chosen_40 4 rfl (by decide)
theorem dX8_chosen_47 : decode cX8_chosen 47 = .ok (.iload_n 2, 1) := dk_28 (blk_at bk_cX8_chosen_40 7 rfl)
theorem dX8_chosen_48 : decode cX8_chosen 48 = .ok (.iconst (-1), 1) := dk_2 (blk_at bk_cX8_chosen_40 8 rfl)
theorem dX8_chosen_49 : decode cX8_chosen 49 = .ok (.if_icmp .eq 32, 3) := dq_159 bk_cX8_chosen_40 9 rfl (by decide)
theorem dX8_chosen_52 : decode cX8_chosen 52 = .ok (.aload_n 0, 1) := dk_42 (blk_at bk_cX8_chosen_40 12 rfl)
theorem dX8_chosen_53 : decode cX8_chosen 53 = .ok (.iload_n 3, 1) := dk_29 (blk_at bk_cX8_chosen_40 13 rfl)
theorem dX8_chosen_54 : decode cX8_chosen 54 = .ok (.iconst 5, 1) := dk_8 (blk_at bk_cX8_chosen_40 14 rfl)
theorem dX8_chosen_55 : decode cX8_chosen 55 = .ok (.invokevirtual 284, 3) := dq_182 bk_cX8_chosen_40 15 rfl rfl
theorem dX8_chosen_58 : decode cX8_chosen 58 = .ok (.aload_n 0, 1) := dk_42 (blk_at bk_cX8_chosen_40 18 rfl)
theorem dX8_chosen_59 : decode cX8_chosen 59 = .ok (.iload_n 3, 1) := dk_29 (blk_at bk_cX8_chosen_40 19 rfl)
theorem dX8_chosen_60 : decode cX8_chosen 60 = .ok (.iconst 4, 1) := dk_7 (blk_at bk_cX8_chosen_40 20 rfl)
theorem dX8_chosen_61 : decode cX8_chosen 61 = .ok (.invokevirtual 284, 3) := dq_182 bk_cX8_chosen_40 21 rfl rfl
theorem dX8_chosen_64 : decode cX8_chosen 64 = .ok (.isub, 1) := dk_100 (blk_at bk_cX8_chosen_40 24 rfl)
theorem dX8_chosen_65 : decode cX8_chosen 65 = .ok (.aload_n 0, 1) := dk_42 (blk_at bk_cX8_chosen_40 25 rfl)
theorem dX8_chosen_66 : decode cX8_chosen 66 = .ok (.iload_n 2, 1) := dk_28 (blk_at bk_cX8_chosen_40 26 rfl)
theorem dX8_chosen_67 : decode cX8_chosen 67 = .ok (.iconst 5, 1) := dk_8 (blk_at bk_cX8_chosen_40 27 rfl)
theorem dX8_chosen_68 : decode cX8_chosen 68 = .ok (.invokevirtual 284, 3) := dq_182 bk_cX8_chosen_40 28 rfl rfl
theorem dX8_chosen_71 : decode cX8_chosen 71 = .ok (.aload_n 0, 1) := dk_42 (blk_at bk_cX8_chosen_40 31 rfl)
theorem dX8_chosen_72 : decode cX8_chosen 72 = .ok (.iload_n 2, 1) := dk_28 (blk_at bk_cX8_chosen_40 32 rfl)
theorem dX8_chosen_73 : decode cX8_chosen 73 = .ok (.iconst 4, 1) := dk_7 (blk_at bk_cX8_chosen_40 33 rfl)
theorem dX8_chosen_74 : decode cX8_chosen 74 = .ok (.invokevirtual 284, 3) := dq_182 bk_cX8_chosen_40 34 rfl rfl
theorem dX8_chosen_77 : decode cX8_chosen 77 = .ok (.isub, 1) := dk_100 (blk_at bk_cX8_chosen_40 37 rfl)
theorem bk_cX8_chosen_78 : (cX8_chosen.data.toList.drop 78).take 29 = [164, 0, 7, 4, 167, 0, 4, 3, 54, 4, 21, 4, 153, 0, 7, 29, 167, 0, 4, 28, 61, 132, 3, 1, 167, 255, 158, 28, 172] := by decide +kernel
theorem dX8_chosen_78 : decode cX8_chosen 78 = .ok (.if_icmp .le 7, 3) := dq_164 bk_cX8_chosen_78 0 rfl (by decide)
theorem dX8_chosen_81 : decode cX8_chosen 81 = .ok (.iconst 1, 1) := dk_4 (blk_at bk_cX8_chosen_78 3 rfl)
theorem dX8_chosen_82 : decode cX8_chosen 82 = .ok (.goto 4, 3) := dq_167 bk_cX8_chosen_78 4 rfl (by decide)
theorem dX8_chosen_85 : decode cX8_chosen 85 = .ok (.iconst 0, 1) := dk_3 (blk_at bk_cX8_chosen_78 7 rfl)
theorem dX8_chosen_86 : decode cX8_chosen 86 = .ok (.istore 4, 2) := dq_54 bk_cX8_chosen_78 8 rfl rfl
theorem dX8_chosen_88 : decode cX8_chosen 88 = .ok (.iload 4, 2) := dq_21 bk_cX8_chosen_78 10 rfl rfl
theorem dX8_chosen_90 : decode cX8_chosen 90 = .ok (.ifCond .eq 7, 3) := dq_153 bk_cX8_chosen_78 12 rfl (by decide)
theorem dX8_chosen_93 : decode cX8_chosen 93 = .ok (.iload_n 3, 1) := dk_29 (blk_at bk_cX8_chosen_78 15 rfl)
theorem dX8_chosen_94 : decode cX8_chosen 94 = .ok (.goto 4, 3) := dq_167 bk_cX8_chosen_78 16 rfl (by decide)
theorem dX8_chosen_97 : decode cX8_chosen 97 = .ok (.iload_n 2, 1) := dk_28 (blk_at bk_cX8_chosen_78 19 rfl)
theorem dX8_chosen_98 : decode cX8_chosen 98 = .ok (.istore_n 2, 1) := dk_61 (blk_at bk_cX8_chosen_78 20 rfl)
theorem dX8_chosen_99 : decode cX8_chosen 99 = .ok (.iinc 3 1, 3) := dq_132 bk_cX8_chosen_78 21 rfl rfl (by decide)
theorem dX8_chosen_102 : decode cX8_chosen 102 = .ok (.goto (-98), 3) := dq_167 bk_cX8_chosen_78 24 rfl (by decide)
theorem dX8_chosen_105 : decode cX8_chosen 105 = .ok (.iload_n 2, 1) := dk_28 (blk_at bk_cX8_chosen_78 27 rfl)
theorem dX8_chosen_106 : decode cX8_chosen 106 = .ok (.ireturn, 1) := dk_172 (blk_at bk_cX8_chosen_78 28 rfl)
theorem bk_cX8_begins_0 : (cX8_begins.data.toList.drop 0).take 34 = [42, 3, 181, 1, 79, 3, 60, 27, 16, 24, 162, 0, 23, 42, 180, 0, 30, 27, 2, 79, 42, 180, 0, 33, 27, 2, 79, 132, 1, 1, 167, 255, 233, 177] := by decide +kernel
theorem dX8_begins_0 : decode cX8_begins 0 = .ok (.aload_n 0, 1) := dk_42 (blk_at bk_cX8_begins_0 0 rfl)
theorem dX8_begins_1 : decode cX8_begins 1 = .ok (.iconst 0, 1) := dk_3 (blk_at bk_cX8_begins_0 1 rfl)
theorem dX8_begins_2 : decode cX8_begins 2 = .ok (.putfield 335, 3) := dq_181 bk_cX8_begins_0 2 rfl rfl
theorem dX8_begins_5 : decode cX8_begins 5 = .ok (.iconst 0, 1) := dk_3 (blk_at bk_cX8_begins_0 5 rfl)
theorem dX8_begins_6 : decode cX8_begins 6 = .ok (.istore_n 1, 1) := dk_60 (blk_at bk_cX8_begins_0 6 rfl)
theorem dX8_begins_7 : decode cX8_begins 7 = .ok (.iload_n 1, 1) := dk_27 (blk_at bk_cX8_begins_0 7 rfl)
theorem dX8_begins_8 : decode cX8_begins 8 = .ok (.bipush 24, 2) := dq_16 bk_cX8_begins_0 8 rfl (by decide)
theorem dX8_begins_10 : decode cX8_begins 10 = .ok (.if_icmp .ge 23, 3) := dq_162 bk_cX8_begins_0 10 rfl (by decide)
theorem dX8_begins_13 : decode cX8_begins 13 = .ok (.aload_n 0, 1) := dk_42 (blk_at bk_cX8_begins_0 13 rfl)
theorem dX8_begins_14 : decode cX8_begins 14 = .ok (.getfield 30, 3) := dq_180 bk_cX8_begins_0 14 rfl rfl
theorem dX8_begins_17 : decode cX8_begins 17 = .ok (.iload_n 1, 1) := dk_27 (blk_at bk_cX8_begins_0 17 rfl)
theorem dX8_begins_18 : decode cX8_begins 18 = .ok (.iconst (-1), 1) := dk_2 (blk_at bk_cX8_begins_0 18 rfl)
theorem dX8_begins_19 : decode cX8_begins 19 = .ok (.iastore, 1) := dk_79 (blk_at bk_cX8_begins_0 19 rfl)
theorem dX8_begins_20 : decode cX8_begins 20 = .ok (.aload_n 0, 1) := dk_42 (blk_at bk_cX8_begins_0 20 rfl)
theorem dX8_begins_21 : decode cX8_begins 21 = .ok (.getfield 33, 3) := dq_180 bk_cX8_begins_0 21 rfl rfl
theorem dX8_begins_24 : decode cX8_begins 24 = .ok (.iload_n 1, 1) := dk_27 (blk_at bk_cX8_begins_0 24 rfl)
theorem dX8_begins_25 : decode cX8_begins 25 = .ok (.iconst (-1), 1) := dk_2 (blk_at bk_cX8_begins_0 25 rfl)
theorem dX8_begins_26 : decode cX8_begins 26 = .ok (.iastore, 1) := dk_79 (blk_at bk_cX8_begins_0 26 rfl)
theorem dX8_begins_27 : decode cX8_begins 27 = .ok (.iinc 1 1, 3) := dq_132 bk_cX8_begins_0 27 rfl rfl (by decide)
theorem dX8_begins_30 : decode cX8_begins 30 = .ok (.goto (-23), 3) := dq_167 bk_cX8_begins_0 30 rfl (by decide)
theorem dX8_begins_33 : decode cX8_begins 33 = .ok (.return_, 1) := dk_177 (blk_at bk_cX8_begins_0 33 rfl)
theorem bk_cX8_grants_0 : (cX8_grants.data.toList.drop 0).take 40 = [3, 62, 29, 16, 7, 162, 0, 21, 42, 180, 0, 27, 29, 42, 27, 29, 182, 1, 28, 79, 132, 3, 1, 167, 255, 235, 42, 28, 42, 27, 182, 1, 70, 42, 27, 7, 182, 1, 28, 42] := by decide +kernel
theorem dX8_grants_0 : decode cX8_grants 0 = .ok (.iconst 0, 1) := dk_3 (blk_at bk_cX8_grants_0 0 rfl)
theorem dX8_grants_1 : decode cX8_grants 1 = .ok (.istore_n 3, 1) := dk_62 (blk_at bk_cX8_grants_0 1 rfl)
theorem dX8_grants_2 : decode cX8_grants 2 = .ok (.iload_n 3, 1) := dk_29 (blk_at bk_cX8_grants_0 2 rfl)
theorem dX8_grants_3 : decode cX8_grants 3 = .ok (.bipush 7, 2) := dq_16 bk_cX8_grants_0 3 rfl (by decide)
theorem dX8_grants_5 : decode cX8_grants 5 = .ok (.if_icmp .ge 21, 3) := dq_162 bk_cX8_grants_0 5 rfl (by decide)
theorem dX8_grants_8 : decode cX8_grants 8 = .ok (.aload_n 0, 1) := dk_42 (blk_at bk_cX8_grants_0 8 rfl)
theorem dX8_grants_9 : decode cX8_grants 9 = .ok (.getfield 27, 3) := dq_180 bk_cX8_grants_0 9 rfl rfl
theorem dX8_grants_12 : decode cX8_grants 12 = .ok (.iload_n 3, 1) := dk_29 (blk_at bk_cX8_grants_0 12 rfl)
theorem dX8_grants_13 : decode cX8_grants 13 = .ok (.aload_n 0, 1) := dk_42 (blk_at bk_cX8_grants_0 13 rfl)
theorem dX8_grants_14 : decode cX8_grants 14 = .ok (.iload_n 1, 1) := dk_27 (blk_at bk_cX8_grants_0 14 rfl)
theorem dX8_grants_15 : decode cX8_grants 15 = .ok (.iload_n 3, 1) := dk_29 (blk_at bk_cX8_grants_0 15 rfl)
theorem dX8_grants_16 : decode cX8_grants 16 = .ok (.invokevirtual 284, 3) := dq_182 bk_cX8_grants_0 16 rfl rfl
theorem dX8_grants_19 : decode cX8_grants 19 = .ok (.iastore, 1) := dk_79 (blk_at bk_cX8_grants_0 19 rfl)
theorem dX8_grants_20 : decode cX8_grants 20 = .ok (.iinc 3 1, 3) := dq_132 bk_cX8_grants_0 20 rfl rfl (by decide)
theorem dX8_grants_23 : decode cX8_grants 23 = .ok (.goto (-21), 3) := dq_167 bk_cX8_grants_0 23 rfl (by decide)
theorem dX8_grants_26 : decode cX8_grants 26 = .ok (.aload_n 0, 1) := dk_42 (blk_at bk_cX8_grants_0 26 rfl)
theorem dX8_grants_27 : decode cX8_grants 27 = .ok (.iload_n 2, 1) := dk_28 (blk_at bk_cX8_grants_0 27 rfl)
theorem dX8_grants_28 : decode cX8_grants 28 = .ok (.aload_n 0, 1) := dk_42 (blk_at bk_cX8_grants_0 28 rfl)
theorem dX8_grants_29 : decode cX8_grants 29 = .ok (.iload_n 1, 1) := dk_27 (blk_at bk_cX8_grants_0 29 rfl)
theorem dX8_grants_30 : decode cX8_grants 30 = .ok (.invokevirtual 326, 3) := dq_182 bk_cX8_grants_0 30 rfl rfl
theorem dX8_grants_33 : decode cX8_grants 33 = .ok (.aload_n 0, 1) := dk_42 (blk_at bk_cX8_grants_0 33 rfl)
theorem dX8_grants_34 : decode cX8_grants 34 = .ok (.iload_n 1, 1) := dk_27 (blk_at bk_cX8_grants_0 34 rfl)
theorem dX8_grants_35 : decode cX8_grants 35 = .ok (.iconst 4, 1) := dk_7 (blk_at bk_cX8_grants_0 35 rfl)
theorem dX8_grants_36 : decode cX8_grants 36 = .ok (.invokevirtual 284, 3) := dq_182 bk_cX8_grants_0 36 rfl rfl
theorem dX8_grants_39 : decode cX8_grants 39 = .ok (.aload_n 0, 1) := dk_42 (blk_at bk_cX8_grants_0 39 rfl)
theorem bk_cX8_grants_40 : (cX8_grants.data.toList.drop 40).take 20 = [180, 0, 16, 7, 46, 184, 1, 37, 4, 182, 0, 237, 42, 180, 0, 33, 27, 28, 79, 177] := by decide +kernel
theorem dX8_grants_40 : decode cX8_grants 40 = .ok (.getfield 16, 3) := dq_180 bk_cX8_grants_40 0 rfl rfl
theorem dX8_grants_43 : decode cX8_grants 43 = .ok (.iconst 4, 1) := dk_7 (blk_at bk_cX8_grants_40 3 rfl)
theorem dX8_grants_44 : decode cX8_grants 44 = .ok (.iaload, 1) := dk_46 (blk_at bk_cX8_grants_40 4 rfl)
theorem dX8_grants_45 : decode cX8_grants 45 = .ok (.invokestatic 293, 3) := dq_184 bk_cX8_grants_40 5 rfl rfl
theorem dX8_grants_48 : decode cX8_grants 48 = .ok (.iconst 1, 1) := dk_4 (blk_at bk_cX8_grants_40 8 rfl)
theorem dX8_grants_49 : decode cX8_grants 49 = .ok (.invokevirtual 237, 3) := dq_182 bk_cX8_grants_40 9 rfl rfl
theorem dX8_grants_52 : decode cX8_grants 52 = .ok (.aload_n 0, 1) := dk_42 (blk_at bk_cX8_grants_40 12 rfl)
theorem dX8_grants_53 : decode cX8_grants 53 = .ok (.getfield 33, 3) := dq_180 bk_cX8_grants_40 13 rfl rfl
theorem dX8_grants_56 : decode cX8_grants 56 = .ok (.iload_n 1, 1) := dk_27 (blk_at bk_cX8_grants_40 16 rfl)
theorem dX8_grants_57 : decode cX8_grants 57 = .ok (.iload_n 2, 1) := dk_28 (blk_at bk_cX8_grants_40 17 rfl)
theorem dX8_grants_58 : decode cX8_grants 58 = .ok (.iastore, 1) := dk_79 (blk_at bk_cX8_grants_40 18 rfl)
theorem dX8_grants_59 : decode cX8_grants 59 = .ok (.return_, 1) := dk_177 (blk_at bk_cX8_grants_40 19 rfl)
theorem bk_cX8_plays_0 : (cX8_plays.data.toList.drop 0).take 38 = [42, 182, 1, 82, 3, 60, 4, 61, 42, 180, 1, 79, 42, 180, 0, 16, 6, 46, 162, 0, 87, 42, 28, 182, 1, 85, 62, 29, 2, 160, 0, 17, 42, 28, 154, 0, 7, 4] := by decide +kernel
theorem dX8_plays_0 : decode cX8_plays 0 = .ok (.aload_n 0, 1) := dk_42 (blk_at bk_cX8_plays_0 0 rfl)
theorem dX8_plays_1 : decode cX8_plays 1 = .ok (.invokevirtual 338, 3) := dq_182 bk_cX8_plays_0 1 rfl rfl
theorem dX8_plays_4 : decode cX8_plays 4 = .ok (.iconst 0, 1) := dk_3 (blk_at bk_cX8_plays_0 4 rfl)
theorem dX8_plays_5 : decode cX8_plays 5 = .ok (.istore_n 1, 1) := dk_60 (blk_at bk_cX8_plays_0 5 rfl)
theorem dX8_plays_6 : decode cX8_plays 6 = .ok (.iconst 1, 1) := dk_4 (blk_at bk_cX8_plays_0 6 rfl)
theorem dX8_plays_7 : decode cX8_plays 7 = .ok (.istore_n 2, 1) := dk_61 (blk_at bk_cX8_plays_0 7 rfl)
theorem dX8_plays_8 : decode cX8_plays 8 = .ok (.aload_n 0, 1) := dk_42 (blk_at bk_cX8_plays_0 8 rfl)
theorem dX8_plays_9 : decode cX8_plays 9 = .ok (.getfield 335, 3) := dq_180 bk_cX8_plays_0 9 rfl rfl
theorem dX8_plays_12 : decode cX8_plays 12 = .ok (.aload_n 0, 1) := dk_42 (blk_at bk_cX8_plays_0 12 rfl)
theorem dX8_plays_13 : decode cX8_plays 13 = .ok (.getfield 16, 3) := dq_180 bk_cX8_plays_0 13 rfl rfl
theorem dX8_plays_16 : decode cX8_plays 16 = .ok (.iconst 3, 1) := dk_6 (blk_at bk_cX8_plays_0 16 rfl)
theorem dX8_plays_17 : decode cX8_plays 17 = .ok (.iaload, 1) := dk_46 (blk_at bk_cX8_plays_0 17 rfl)
theorem dX8_plays_18 : decode cX8_plays 18 = .ok (.if_icmp .ge 87, 3) := dq_162 bk_cX8_plays_0 18 rfl (by decide)
theorem dX8_plays_21 : decode cX8_plays 21 = .ok (.aload_n 0, 1) := dk_42 (blk_at bk_cX8_plays_0 21 rfl)
theorem dX8_plays_22 : decode cX8_plays 22 = .ok (.iload_n 2, 1) := dk_28 (blk_at bk_cX8_plays_0 22 rfl)
theorem dX8_plays_23 : decode cX8_plays 23 = .ok (.invokevirtual 341, 3) := dq_182 bk_cX8_plays_0 23 rfl rfl
theorem dX8_plays_26 : decode cX8_plays 26 = .ok (.istore_n 3, 1) := dk_62 (blk_at bk_cX8_plays_0 26 rfl)
theorem dX8_plays_27 : decode cX8_plays 27 = .ok (.iload_n 3, 1) := dk_29 (blk_at bk_cX8_plays_0 27 rfl)
theorem dX8_plays_28 : decode cX8_plays 28 = .ok (.iconst (-1), 1) := dk_2 (blk_at bk_cX8_plays_0 28 rfl)
theorem dX8_plays_29 : decode cX8_plays 29 = .ok (.if_icmp .ne 17, 3) := dq_160 bk_cX8_plays_0 29 rfl (by decide)
theorem dX8_plays_32 : decode cX8_plays 32 = .ok (.aload_n 0, 1) := dk_42 (blk_at bk_cX8_plays_0 32 rfl)
theorem dX8_plays_33 : decode cX8_plays 33 = .ok (.iload_n 2, 1) := dk_28 (blk_at bk_cX8_plays_0 33 rfl)
theorem dX8_plays_34 : decode cX8_plays 34 = .ok (.ifCond .ne 7, 3) := dq_154 bk_cX8_plays_0 34 rfl (by decide)
theorem dX8_plays_37 : decode cX8_plays 37 = .ok (.iconst 1, 1) := dk_4 (blk_at bk_cX8_plays_0 37 rfl)
theorem bk_cX8_plays_38 : (cX8_plays.data.toList.drop 38).take 40 = [167, 0, 4, 3, 182, 1, 85, 62, 42, 180, 0, 30, 29, 42, 180, 1, 79, 79, 42, 89, 180, 1, 79, 4, 96, 181, 1, 79, 28, 154, 0, 7, 4, 167, 0, 4, 3, 61, 42, 29] := by decide +kernel
theorem dX8_plays_38 : decode cX8_plays 38 = .ok (.goto 4, 3) := dq_167 bk_cX8_plays_38 0 rfl (by decide)
theorem dX8_plays_41 : decode cX8_plays 41 = .ok (.iconst 0, 1) := dk_3 (blk_at bk_cX8_plays_38 3 rfl)
theorem dX8_plays_42 : decode cX8_plays 42 = .ok (.invokevirtual 341, 3) := dq_182 bk_cX8_plays_38 4 rfl rfl
theorem dX8_plays_45 : decode cX8_plays 45 = .ok (.istore_n 3, 1) := dk_62 (blk_at bk_cX8_plays_38 7 rfl)
theorem dX8_plays_46 : decode cX8_plays 46 = .ok (.aload_n 0, 1) := dk_42 (blk_at bk_cX8_plays_38 8 rfl)
theorem dX8_plays_47 : decode cX8_plays 47 = .ok (.getfield 30, 3) := dq_180 bk_cX8_plays_38 9 rfl rfl
theorem dX8_plays_50 : decode cX8_plays 50 = .ok (.iload_n 3, 1) := dk_29 (blk_at bk_cX8_plays_38 12 rfl)
theorem dX8_plays_51 : decode cX8_plays 51 = .ok (.aload_n 0, 1) := dk_42 (blk_at bk_cX8_plays_38 13 rfl)
theorem dX8_plays_52 : decode cX8_plays 52 = .ok (.getfield 335, 3) := dq_180 bk_cX8_plays_38 14 rfl rfl
theorem dX8_plays_55 : decode cX8_plays 55 = .ok (.iastore, 1) := dk_79 (blk_at bk_cX8_plays_38 17 rfl)
theorem dX8_plays_56 : decode cX8_plays 56 = .ok (.aload_n 0, 1) := dk_42 (blk_at bk_cX8_plays_38 18 rfl)
theorem dX8_plays_57 : decode cX8_plays 57 = .ok (.dup, 1) := dk_89 (blk_at bk_cX8_plays_38 19 rfl)
theorem dX8_plays_58 : decode cX8_plays 58 = .ok (.getfield 335, 3) := dq_180 bk_cX8_plays_38 20 rfl rfl
theorem dX8_plays_61 : decode cX8_plays 61 = .ok (.iconst 1, 1) := dk_4 (blk_at bk_cX8_plays_38 23 rfl)
theorem dX8_plays_62 : decode cX8_plays 62 = .ok (.iadd, 1) := dk_96 (blk_at bk_cX8_plays_38 24 rfl)
theorem dX8_plays_63 : decode cX8_plays 63 = .ok (.putfield 335, 3) := dq_181 bk_cX8_plays_38 25 rfl rfl
theorem dX8_plays_66 : decode cX8_plays 66 = .ok (.iload_n 2, 1) := dk_28 (blk_at bk_cX8_plays_38 28 rfl)
theorem dX8_plays_67 : decode cX8_plays 67 = .ok (.ifCond .ne 7, 3) := dq_154 bk_cX8_plays_38 29 rfl (by decide)
theorem dX8_plays_70 : decode cX8_plays 70 = .ok (.iconst 1, 1) := dk_4 (blk_at bk_cX8_plays_38 32 rfl)
theorem dX8_plays_71 : decode cX8_plays 71 = .ok (.goto 4, 3) := dq_167 bk_cX8_plays_38 33 rfl (by decide)
theorem dX8_plays_74 : decode cX8_plays 74 = .ok (.iconst 0, 1) := dk_3 (blk_at bk_cX8_plays_38 36 rfl)
theorem dX8_plays_75 : decode cX8_plays 75 = .ok (.istore_n 2, 1) := dk_61 (blk_at bk_cX8_plays_38 37 rfl)
theorem dX8_plays_76 : decode cX8_plays 76 = .ok (.aload_n 0, 1) := dk_42 (blk_at bk_cX8_plays_38 38 rfl)
theorem dX8_plays_77 : decode cX8_plays 77 = .ok (.iload_n 3, 1) := dk_29 (blk_at bk_cX8_plays_38 39 rfl)
theorem bk_cX8_plays_78 : (cX8_plays.data.toList.drop 78).take 29 = [182, 1, 76, 54, 4, 21, 4, 2, 160, 0, 6, 167, 255, 175, 42, 29, 21, 4, 182, 1, 89, 132, 1, 1, 167, 255, 162, 27, 172] := by decide +kernel
theorem dX8_plays_78 : decode cX8_plays 78 = .ok (.invokevirtual 332, 3) := dq_182 bk_cX8_plays_78 0 rfl rfl
theorem dX8_plays_81 : decode cX8_plays 81 = .ok (.istore 4, 2) := dq_54 bk_cX8_plays_78 3 rfl rfl
theorem dX8_plays_83 : decode cX8_plays 83 = .ok (.iload 4, 2) := dq_21 bk_cX8_plays_78 5 rfl rfl
theorem dX8_plays_85 : decode cX8_plays 85 = .ok (.iconst (-1), 1) := dk_2 (blk_at bk_cX8_plays_78 7 rfl)
theorem dX8_plays_86 : decode cX8_plays 86 = .ok (.if_icmp .ne 6, 3) := dq_160 bk_cX8_plays_78 8 rfl (by decide)
theorem dX8_plays_89 : decode cX8_plays 89 = .ok (.goto (-81), 3) := dq_167 bk_cX8_plays_78 11 rfl (by decide)
theorem dX8_plays_92 : decode cX8_plays 92 = .ok (.aload_n 0, 1) := dk_42 (blk_at bk_cX8_plays_78 14 rfl)
theorem dX8_plays_93 : decode cX8_plays 93 = .ok (.iload_n 3, 1) := dk_29 (blk_at bk_cX8_plays_78 15 rfl)
theorem dX8_plays_94 : decode cX8_plays 94 = .ok (.iload 4, 2) := dq_21 bk_cX8_plays_78 16 rfl rfl
theorem dX8_plays_96 : decode cX8_plays 96 = .ok (.invokevirtual 345, 3) := dq_182 bk_cX8_plays_78 18 rfl rfl
theorem dX8_plays_99 : decode cX8_plays 99 = .ok (.iinc 1 1, 3) := dq_132 bk_cX8_plays_78 21 rfl rfl (by decide)
theorem dX8_plays_102 : decode cX8_plays 102 = .ok (.goto (-94), 3) := dq_167 bk_cX8_plays_78 24 rfl (by decide)
theorem dX8_plays_105 : decode cX8_plays 105 = .ok (.iload_n 1, 1) := dk_27 (blk_at bk_cX8_plays_78 27 rfl)
theorem dX8_plays_106 : decode cX8_plays 106 = .ok (.ireturn, 1) := dk_172 (blk_at bk_cX8_plays_78 28 rfl)
theorem bk_cX8_copies_0 : (cX8_copies.data.toList.drop 0).take 28 = [3, 60, 27, 17, 2, 6, 162, 0, 21, 42, 180, 0, 13, 27, 42, 180, 0, 9, 27, 46, 79, 132, 1, 1, 167, 255, 234, 177] := by decide +kernel
theorem dX8_copies_0 : decode cX8_copies 0 = .ok (.iconst 0, 1) := dk_3 (blk_at bk_cX8_copies_0 0 rfl)
theorem dX8_copies_1 : decode cX8_copies 1 = .ok (.istore_n 1, 1) := dk_60 (blk_at bk_cX8_copies_0 1 rfl)
theorem dX8_copies_2 : decode cX8_copies 2 = .ok (.iload_n 1, 1) := dk_27 (blk_at bk_cX8_copies_0 2 rfl)
theorem dX8_copies_3 : decode cX8_copies 3 = .ok (.sipush 518, 3) := dq_17 bk_cX8_copies_0 3 rfl (by decide)
theorem dX8_copies_6 : decode cX8_copies 6 = .ok (.if_icmp .ge 21, 3) := dq_162 bk_cX8_copies_0 6 rfl (by decide)
theorem dX8_copies_9 : decode cX8_copies 9 = .ok (.aload_n 0, 1) := dk_42 (blk_at bk_cX8_copies_0 9 rfl)
theorem dX8_copies_10 : decode cX8_copies 10 = .ok (.getfield 13, 3) := dq_180 bk_cX8_copies_0 10 rfl rfl
theorem dX8_copies_13 : decode cX8_copies 13 = .ok (.iload_n 1, 1) := dk_27 (blk_at bk_cX8_copies_0 13 rfl)
theorem dX8_copies_14 : decode cX8_copies 14 = .ok (.aload_n 0, 1) := dk_42 (blk_at bk_cX8_copies_0 14 rfl)
theorem dX8_copies_15 : decode cX8_copies 15 = .ok (.getfield 9, 3) := dq_180 bk_cX8_copies_0 15 rfl rfl
theorem dX8_copies_18 : decode cX8_copies 18 = .ok (.iload_n 1, 1) := dk_27 (blk_at bk_cX8_copies_0 18 rfl)
theorem dX8_copies_19 : decode cX8_copies 19 = .ok (.iaload, 1) := dk_46 (blk_at bk_cX8_copies_0 19 rfl)
theorem dX8_copies_20 : decode cX8_copies 20 = .ok (.iastore, 1) := dk_79 (blk_at bk_cX8_copies_0 20 rfl)
theorem dX8_copies_21 : decode cX8_copies 21 = .ok (.iinc 1 1, 3) := dq_132 bk_cX8_copies_0 21 rfl rfl (by decide)
theorem dX8_copies_24 : decode cX8_copies 24 = .ok (.goto (-22), 3) := dq_167 bk_cX8_copies_0 24 rfl (by decide)
theorem dX8_copies_27 : decode cX8_copies 27 = .ok (.return_, 1) := dk_177 (blk_at bk_cX8_copies_0 27 rfl)
theorem bk_cX8_playsAside_0 : (cX8_playsAside.data.toList.drop 0).take 40 = [42, 182, 1, 92, 27, 2, 159, 0, 35, 42, 180, 0, 13, 16, 6, 5, 27, 104, 96, 92, 46, 4, 96, 79, 42, 180, 0, 13, 16, 6, 5, 27, 104, 96, 4, 96, 92, 46, 4, 96] := by decide +kernel
theorem dX8_playsAside_0 : decode cX8_playsAside 0 = .ok (.aload_n 0, 1) := dk_42 (blk_at bk_cX8_playsAside_0 0 rfl)
theorem dX8_playsAside_1 : decode cX8_playsAside 1 = .ok (.invokevirtual 348, 3) := dq_182 bk_cX8_playsAside_0 1 rfl rfl
theorem dX8_playsAside_4 : decode cX8_playsAside 4 = .ok (.iload_n 1, 1) := dk_27 (blk_at bk_cX8_playsAside_0 4 rfl)
theorem dX8_playsAside_5 : decode cX8_playsAside 5 = .ok (.iconst (-1), 1) := dk_2 (blk_at bk_cX8_playsAside_0 5 rfl)
theorem dX8_playsAside_6 : decode cX8_playsAside 6 = .ok (.if_icmp .eq 35, 3) := dq_159 bk_cX8_playsAside_0 6 rfl (by decide)
theorem dX8_playsAside_9 : decode cX8_playsAside 9 = .ok (.aload_n 0, 1) := dk_42 (blk_at bk_cX8_playsAside_0 9 rfl)
theorem dX8_playsAside_10 : decode cX8_playsAside 10 = .ok (.getfield 13, 3) := dq_180 bk_cX8_playsAside_0 10 rfl rfl
theorem dX8_playsAside_13 : decode cX8_playsAside 13 = .ok (.bipush 6, 2) := dq_16 bk_cX8_playsAside_0 13 rfl (by decide)
theorem dX8_playsAside_15 : decode cX8_playsAside 15 = .ok (.iconst 2, 1) := dk_5 (blk_at bk_cX8_playsAside_0 15 rfl)
theorem dX8_playsAside_16 : decode cX8_playsAside 16 = .ok (.iload_n 1, 1) := dk_27 (blk_at bk_cX8_playsAside_0 16 rfl)
theorem dX8_playsAside_17 : decode cX8_playsAside 17 = .ok (.imul, 1) := dk_104 (blk_at bk_cX8_playsAside_0 17 rfl)
theorem dX8_playsAside_18 : decode cX8_playsAside 18 = .ok (.iadd, 1) := dk_96 (blk_at bk_cX8_playsAside_0 18 rfl)
theorem dX8_playsAside_19 : decode cX8_playsAside 19 = .ok (.dup2, 1) := dk_92 (blk_at bk_cX8_playsAside_0 19 rfl)
theorem dX8_playsAside_20 : decode cX8_playsAside 20 = .ok (.iaload, 1) := dk_46 (blk_at bk_cX8_playsAside_0 20 rfl)
theorem dX8_playsAside_21 : decode cX8_playsAside 21 = .ok (.iconst 1, 1) := dk_4 (blk_at bk_cX8_playsAside_0 21 rfl)
theorem dX8_playsAside_22 : decode cX8_playsAside 22 = .ok (.iadd, 1) := dk_96 (blk_at bk_cX8_playsAside_0 22 rfl)
theorem dX8_playsAside_23 : decode cX8_playsAside 23 = .ok (.iastore, 1) := dk_79 (blk_at bk_cX8_playsAside_0 23 rfl)
theorem dX8_playsAside_24 : decode cX8_playsAside 24 = .ok (.aload_n 0, 1) := dk_42 (blk_at bk_cX8_playsAside_0 24 rfl)
theorem dX8_playsAside_25 : decode cX8_playsAside 25 = .ok (.getfield 13, 3) := dq_180 bk_cX8_playsAside_0 25 rfl rfl
theorem dX8_playsAside_28 : decode cX8_playsAside 28 = .ok (.bipush 6, 2) := dq_16 bk_cX8_playsAside_0 28 rfl (by decide)
theorem dX8_playsAside_30 : decode cX8_playsAside 30 = .ok (.iconst 2, 1) := dk_5 (blk_at bk_cX8_playsAside_0 30 rfl)
theorem dX8_playsAside_31 : decode cX8_playsAside 31 = .ok (.iload_n 1, 1) := dk_27 (blk_at bk_cX8_playsAside_0 31 rfl)
theorem dX8_playsAside_32 : decode cX8_playsAside 32 = .ok (.imul, 1) := dk_104 (blk_at bk_cX8_playsAside_0 32 rfl)
theorem dX8_playsAside_33 : decode cX8_playsAside 33 = .ok (.iadd, 1) := dk_96 (blk_at bk_cX8_playsAside_0 33 rfl)
theorem dX8_playsAside_34 : decode cX8_playsAside 34 = .ok (.iconst 1, 1) := dk_4 (blk_at bk_cX8_playsAside_0 34 rfl)
theorem dX8_playsAside_35 : decode cX8_playsAside 35 = .ok (.iadd, 1) := dk_96 (blk_at bk_cX8_playsAside_0 35 rfl)
theorem dX8_playsAside_36 : decode cX8_playsAside 36 = .ok (.dup2, 1) := dk_92 (blk_at bk_cX8_playsAside_0 36 rfl)
theorem dX8_playsAside_37 : decode cX8_playsAside 37 = .ok (.iaload, 1) := dk_46 (blk_at bk_cX8_playsAside_0 37 rfl)
theorem dX8_playsAside_38 : decode cX8_playsAside 38 = .ok (.iconst 1, 1) := dk_4 (blk_at bk_cX8_playsAside_0 38 rfl)
theorem dX8_playsAside_39 : decode cX8_playsAside 39 = .ok (.iadd, 1) := dk_96 (blk_at bk_cX8_playsAside_0 39 rfl)
theorem bk_cX8_playsAside_40 : (cX8_playsAside.data.toList.drop 40).take 24 = [79, 42, 42, 180, 0, 13, 181, 0, 16, 42, 182, 1, 95, 61, 42, 42, 180, 0, 9, 181, 0, 16, 28, 172] := by decide +kernel
theorem dX8_playsAside_40 : decode cX8_playsAside 40 = .ok (.iastore, 1) := dk_79 (blk_at bk_cX8_playsAside_40 0 rfl)
theorem dX8_playsAside_41 : decode cX8_playsAside 41 = .ok (.aload_n 0, 1) := dk_42 (blk_at bk_cX8_playsAside_40 1 rfl)
theorem dX8_playsAside_42 : decode cX8_playsAside 42 = .ok (.aload_n 0, 1) := dk_42 (blk_at bk_cX8_playsAside_40 2 rfl)
theorem dX8_playsAside_43 : decode cX8_playsAside 43 = .ok (.getfield 13, 3) := dq_180 bk_cX8_playsAside_40 3 rfl rfl
theorem dX8_playsAside_46 : decode cX8_playsAside 46 = .ok (.putfield 16, 3) := dq_181 bk_cX8_playsAside_40 6 rfl rfl
theorem dX8_playsAside_49 : decode cX8_playsAside 49 = .ok (.aload_n 0, 1) := dk_42 (blk_at bk_cX8_playsAside_40 9 rfl)
theorem dX8_playsAside_50 : decode cX8_playsAside 50 = .ok (.invokevirtual 351, 3) := dq_182 bk_cX8_playsAside_40 10 rfl rfl
theorem dX8_playsAside_53 : decode cX8_playsAside 53 = .ok (.istore_n 2, 1) := dk_61 (blk_at bk_cX8_playsAside_40 13 rfl)
theorem dX8_playsAside_54 : decode cX8_playsAside 54 = .ok (.aload_n 0, 1) := dk_42 (blk_at bk_cX8_playsAside_40 14 rfl)
theorem dX8_playsAside_55 : decode cX8_playsAside 55 = .ok (.aload_n 0, 1) := dk_42 (blk_at bk_cX8_playsAside_40 15 rfl)
theorem dX8_playsAside_56 : decode cX8_playsAside 56 = .ok (.getfield 9, 3) := dq_180 bk_cX8_playsAside_40 16 rfl rfl
theorem dX8_playsAside_59 : decode cX8_playsAside 59 = .ok (.putfield 16, 3) := dq_181 bk_cX8_playsAside_40 19 rfl rfl
theorem dX8_playsAside_62 : decode cX8_playsAside 62 = .ok (.iload_n 2, 1) := dk_28 (blk_at bk_cX8_playsAside_40 22 rfl)
theorem dX8_playsAside_63 : decode cX8_playsAside 63 = .ok (.ireturn, 1) := dk_172 (blk_at bk_cX8_playsAside_40 23 rfl)
theorem bk_cX8_first_0 : (cX8_first.data.toList.drop 0).take 35 = [42, 182, 0, 49, 154, 0, 6, 16, 254, 172, 42, 182, 1, 82, 42, 4, 182, 1, 85, 60, 27, 2, 160, 0, 11, 42, 3, 182, 1, 85, 167, 0, 4, 27, 172] := by decide +kernel
theorem dX8_first_0 : decode cX8_first 0 = .ok (.aload_n 0, 1) := dk_42 (blk_at bk_cX8_first_0 0 rfl)
theorem dX8_first_1 : decode cX8_first 1 = .ok (.invokevirtual 49, 3) := dq_182 bk_cX8_first_0 1 rfl rfl
theorem dX8_first_4 : decode cX8_first 4 = .ok (.ifCond .ne 6, 3) := dq_154 bk_cX8_first_0 4 rfl (by decide)
theorem dX8_first_7 : decode cX8_first 7 = .ok (.bipush (-2), 2) := dq_16 bk_cX8_first_0 7 rfl (by decide)
theorem dX8_first_9 : decode cX8_first 9 = .ok (.ireturn, 1) := dk_172 (blk_at bk_cX8_first_0 9 rfl)
theorem dX8_first_10 : decode cX8_first 10 = .ok (.aload_n 0, 1) := dk_42 (blk_at bk_cX8_first_0 10 rfl)
theorem dX8_first_11 : decode cX8_first 11 = .ok (.invokevirtual 338, 3) := dq_182 bk_cX8_first_0 11 rfl rfl
theorem dX8_first_14 : decode cX8_first 14 = .ok (.aload_n 0, 1) := dk_42 (blk_at bk_cX8_first_0 14 rfl)
theorem dX8_first_15 : decode cX8_first 15 = .ok (.iconst 1, 1) := dk_4 (blk_at bk_cX8_first_0 15 rfl)
theorem dX8_first_16 : decode cX8_first 16 = .ok (.invokevirtual 341, 3) := dq_182 bk_cX8_first_0 16 rfl rfl
theorem dX8_first_19 : decode cX8_first 19 = .ok (.istore_n 1, 1) := dk_60 (blk_at bk_cX8_first_0 19 rfl)
theorem dX8_first_20 : decode cX8_first 20 = .ok (.iload_n 1, 1) := dk_27 (blk_at bk_cX8_first_0 20 rfl)
theorem dX8_first_21 : decode cX8_first 21 = .ok (.iconst (-1), 1) := dk_2 (blk_at bk_cX8_first_0 21 rfl)
theorem dX8_first_22 : decode cX8_first 22 = .ok (.if_icmp .ne 11, 3) := dq_160 bk_cX8_first_0 22 rfl (by decide)
theorem dX8_first_25 : decode cX8_first 25 = .ok (.aload_n 0, 1) := dk_42 (blk_at bk_cX8_first_0 25 rfl)
theorem dX8_first_26 : decode cX8_first 26 = .ok (.iconst 0, 1) := dk_3 (blk_at bk_cX8_first_0 26 rfl)
theorem dX8_first_27 : decode cX8_first 27 = .ok (.invokevirtual 341, 3) := dq_182 bk_cX8_first_0 27 rfl rfl
theorem dX8_first_30 : decode cX8_first 30 = .ok (.goto 4, 3) := dq_167 bk_cX8_first_0 30 rfl (by decide)
theorem dX8_first_33 : decode cX8_first 33 = .ok (.iload_n 1, 1) := dk_27 (blk_at bk_cX8_first_0 33 rfl)
theorem dX8_first_34 : decode cX8_first 34 = .ok (.ireturn, 1) := dk_172 (blk_at bk_cX8_first_0 34 rfl)
theorem bk_cX8_would_0 : (cX8_would.data.toList.drop 0).take 18 = [42, 182, 0, 49, 153, 0, 11, 42, 2, 182, 1, 98, 167, 0, 5, 16, 254, 172] := by decide +kernel
theorem dX8_would_0 : decode cX8_would 0 = .ok (.aload_n 0, 1) := dk_42 (blk_at bk_cX8_would_0 0 rfl)
theorem dX8_would_1 : decode cX8_would 1 = .ok (.invokevirtual 49, 3) := dq_182 bk_cX8_would_0 1 rfl rfl
theorem dX8_would_4 : decode cX8_would 4 = .ok (.ifCond .eq 11, 3) := dq_153 bk_cX8_would_0 4 rfl (by decide)
theorem dX8_would_7 : decode cX8_would 7 = .ok (.aload_n 0, 1) := dk_42 (blk_at bk_cX8_would_0 7 rfl)
theorem dX8_would_8 : decode cX8_would 8 = .ok (.iconst (-1), 1) := dk_2 (blk_at bk_cX8_would_0 8 rfl)
theorem dX8_would_9 : decode cX8_would 9 = .ok (.invokevirtual 354, 3) := dq_182 bk_cX8_would_0 9 rfl rfl
theorem dX8_would_12 : decode cX8_would 12 = .ok (.goto 5, 3) := dq_167 bk_cX8_would_0 12 rfl (by decide)
theorem dX8_would_15 : decode cX8_would 15 = .ok (.bipush (-2), 2) := dq_16 bk_cX8_would_0 15 rfl (by decide)
theorem dX8_would_17 : decode cX8_would 17 = .ok (.ireturn, 1) := dk_172 (blk_at bk_cX8_would_0 17 rfl)
theorem bk_cX8_helps_0 : (cX8_helps.data.toList.drop 0).take 40 = [42, 182, 0, 49, 153, 0, 13, 27, 133, 9, 10, 184, 0, 45, 154, 0, 6, 16, 254, 172, 3, 61, 2, 62, 3, 54, 4, 21, 4, 16, 24, 162, 0, 32, 42, 21, 4, 182, 1, 98] := by decide +kernel
theorem dX8_helps_0 : decode cX8_helps 0 = .ok (.aload_n 0, 1) := dk_42 (blk_at bk_cX8_helps_0 0 rfl)
theorem dX8_helps_1 : decode cX8_helps 1 = .ok (.invokevirtual 49, 3) := dq_182 bk_cX8_helps_0 1 rfl rfl
theorem dX8_helps_4 : decode cX8_helps 4 = .ok (.ifCond .eq 13, 3) := dq_153 bk_cX8_helps_0 4 rfl (by decide)
theorem dX8_helps_7 : decode cX8_helps 7 = .ok (.iload_n 1, 1) := dk_27 (blk_at bk_cX8_helps_0 7 rfl)
theorem dX8_helps_8 : decode cX8_helps 8 = .ok (.i2l, 1) := dk_133 (blk_at bk_cX8_helps_0 8 rfl)
theorem dX8_helps_9 : decode cX8_helps 9 = .ok (.lconst 0, 1) := dk_9 (blk_at bk_cX8_helps_0 9 rfl)
theorem dX8_helps_10 : decode cX8_helps 10 = .ok (.lconst 1, 1) := dk_10 (blk_at bk_cX8_helps_0 10 rfl)
theorem dX8_helps_11 : decode cX8_helps 11 = .ok (.invokestatic 45, 3) := dq_184 bk_cX8_helps_0 11 rfl rfl
theorem dX8_helps_14 : decode cX8_helps 14 = .ok (.ifCond .ne 6, 3) := dq_154 bk_cX8_helps_0 14 rfl (by decide)
theorem dX8_helps_17 : decode cX8_helps 17 = .ok (.bipush (-2), 2) := dq_16 bk_cX8_helps_0 17 rfl (by decide)
theorem dX8_helps_19 : decode cX8_helps 19 = .ok (.ireturn, 1) := dk_172 (blk_at bk_cX8_helps_0 19 rfl)
theorem dX8_helps_20 : decode cX8_helps 20 = .ok (.iconst 0, 1) := dk_3 (blk_at bk_cX8_helps_0 20 rfl)
theorem dX8_helps_21 : decode cX8_helps 21 = .ok (.istore_n 2, 1) := dk_61 (blk_at bk_cX8_helps_0 21 rfl)
theorem dX8_helps_22 : decode cX8_helps 22 = .ok (.iconst (-1), 1) := dk_2 (blk_at bk_cX8_helps_0 22 rfl)
theorem dX8_helps_23 : decode cX8_helps 23 = .ok (.istore_n 3, 1) := dk_62 (blk_at bk_cX8_helps_0 23 rfl)
theorem dX8_helps_24 : decode cX8_helps 24 = .ok (.iconst 0, 1) := dk_3 (blk_at bk_cX8_helps_0 24 rfl)
theorem dX8_helps_25 : decode cX8_helps 25 = .ok (.istore 4, 2) := dq_54 bk_cX8_helps_0 25 rfl rfl
theorem dX8_helps_27 : decode cX8_helps 27 = .ok (.iload 4, 2) := dq_21 bk_cX8_helps_0 27 rfl rfl
theorem dX8_helps_29 : decode cX8_helps 29 = .ok (.bipush 24, 2) := dq_16 bk_cX8_helps_0 29 rfl (by decide)
theorem dX8_helps_31 : decode cX8_helps 31 = .ok (.if_icmp .ge 32, 3) := dq_162 bk_cX8_helps_0 31 rfl (by decide)
theorem dX8_helps_34 : decode cX8_helps 34 = .ok (.aload_n 0, 1) := dk_42 (blk_at bk_cX8_helps_0 34 rfl)
theorem dX8_helps_35 : decode cX8_helps 35 = .ok (.iload 4, 2) := dq_21 bk_cX8_helps_0 35 rfl rfl
theorem dX8_helps_37 : decode cX8_helps 37 = .ok (.invokevirtual 354, 3) := dq_182 bk_cX8_helps_0 37 rfl rfl
theorem bk_cX8_helps_40 : (cX8_helps.data.toList.drop 40).take 33 = [54, 5, 21, 5, 29, 163, 0, 6, 167, 0, 9, 21, 4, 61, 21, 5, 62, 132, 4, 1, 167, 255, 223, 27, 154, 0, 7, 28, 167, 0, 4, 29, 172] := by decide +kernel
theorem dX8_helps_40 : decode cX8_helps 40 = .ok (.istore 5, 2) := dq_54 bk_cX8_helps_40 0 rfl rfl
theorem dX8_helps_42 : decode cX8_helps 42 = .ok (.iload 5, 2) := dq_21 bk_cX8_helps_40 2 rfl rfl
theorem dX8_helps_44 : decode cX8_helps 44 = .ok (.iload_n 3, 1) := dk_29 (blk_at bk_cX8_helps_40 4 rfl)
theorem dX8_helps_45 : decode cX8_helps 45 = .ok (.if_icmp .gt 6, 3) := dq_163 bk_cX8_helps_40 5 rfl (by decide)
theorem dX8_helps_48 : decode cX8_helps 48 = .ok (.goto 9, 3) := dq_167 bk_cX8_helps_40 8 rfl (by decide)
theorem dX8_helps_51 : decode cX8_helps 51 = .ok (.iload 4, 2) := dq_21 bk_cX8_helps_40 11 rfl rfl
theorem dX8_helps_53 : decode cX8_helps 53 = .ok (.istore_n 2, 1) := dk_61 (blk_at bk_cX8_helps_40 13 rfl)
theorem dX8_helps_54 : decode cX8_helps 54 = .ok (.iload 5, 2) := dq_21 bk_cX8_helps_40 14 rfl rfl
theorem dX8_helps_56 : decode cX8_helps 56 = .ok (.istore_n 3, 1) := dk_62 (blk_at bk_cX8_helps_40 16 rfl)
theorem dX8_helps_57 : decode cX8_helps 57 = .ok (.iinc 4 1, 3) := dq_132 bk_cX8_helps_40 17 rfl rfl (by decide)
theorem dX8_helps_60 : decode cX8_helps 60 = .ok (.goto (-33), 3) := dq_167 bk_cX8_helps_40 20 rfl (by decide)
theorem dX8_helps_63 : decode cX8_helps 63 = .ok (.iload_n 1, 1) := dk_27 (blk_at bk_cX8_helps_40 23 rfl)
theorem dX8_helps_64 : decode cX8_helps 64 = .ok (.ifCond .ne 7, 3) := dq_154 bk_cX8_helps_40 24 rfl (by decide)
theorem dX8_helps_67 : decode cX8_helps 67 = .ok (.iload_n 2, 1) := dk_28 (blk_at bk_cX8_helps_40 27 rfl)
theorem dX8_helps_68 : decode cX8_helps 68 = .ok (.goto 4, 3) := dq_167 bk_cX8_helps_40 28 rfl (by decide)
theorem dX8_helps_71 : decode cX8_helps 71 = .ok (.iload_n 3, 1) := dk_29 (blk_at bk_cX8_helps_40 31 rfl)
theorem dX8_helps_72 : decode cX8_helps 72 = .ok (.ireturn, 1) := dk_172 (blk_at bk_cX8_helps_40 32 rfl)
theorem bk_cX8_turn_0 : (cX8_turn.data.toList.drop 0).take 24 = [42, 27, 182, 1, 25, 154, 0, 6, 16, 254, 172, 42, 2, 182, 1, 98, 61, 42, 180, 0, 30, 27, 46, 172] := by decide +kernel
theorem dX8_turn_0 : decode cX8_turn 0 = .ok (.aload_n 0, 1) := dk_42 (blk_at bk_cX8_turn_0 0 rfl)
theorem dX8_turn_1 : decode cX8_turn 1 = .ok (.iload_n 1, 1) := dk_27 (blk_at bk_cX8_turn_0 1 rfl)
theorem dX8_turn_2 : decode cX8_turn 2 = .ok (.invokevirtual 281, 3) := dq_182 bk_cX8_turn_0 2 rfl rfl
theorem dX8_turn_5 : decode cX8_turn 5 = .ok (.ifCond .ne 6, 3) := dq_154 bk_cX8_turn_0 5 rfl (by decide)
theorem dX8_turn_8 : decode cX8_turn 8 = .ok (.bipush (-2), 2) := dq_16 bk_cX8_turn_0 8 rfl (by decide)
theorem dX8_turn_10 : decode cX8_turn 10 = .ok (.ireturn, 1) := dk_172 (blk_at bk_cX8_turn_0 10 rfl)
theorem dX8_turn_11 : decode cX8_turn 11 = .ok (.aload_n 0, 1) := dk_42 (blk_at bk_cX8_turn_0 11 rfl)
theorem dX8_turn_12 : decode cX8_turn 12 = .ok (.iconst (-1), 1) := dk_2 (blk_at bk_cX8_turn_0 12 rfl)
theorem dX8_turn_13 : decode cX8_turn 13 = .ok (.invokevirtual 354, 3) := dq_182 bk_cX8_turn_0 13 rfl rfl
theorem dX8_turn_16 : decode cX8_turn 16 = .ok (.istore_n 2, 1) := dk_61 (blk_at bk_cX8_turn_0 16 rfl)
theorem dX8_turn_17 : decode cX8_turn 17 = .ok (.aload_n 0, 1) := dk_42 (blk_at bk_cX8_turn_0 17 rfl)
theorem dX8_turn_18 : decode cX8_turn 18 = .ok (.getfield 30, 3) := dq_180 bk_cX8_turn_0 18 rfl rfl
theorem dX8_turn_21 : decode cX8_turn 21 = .ok (.iload_n 1, 1) := dk_27 (blk_at bk_cX8_turn_0 21 rfl)
theorem dX8_turn_22 : decode cX8_turn 22 = .ok (.iaload, 1) := dk_46 (blk_at bk_cX8_turn_0 22 rfl)
theorem dX8_turn_23 : decode cX8_turn 23 = .ok (.ireturn, 1) := dk_172 (blk_at bk_cX8_turn_0 23 rfl)
theorem bk_cX8_granted_0 : (cX8_granted.data.toList.drop 0).take 24 = [42, 27, 182, 1, 25, 154, 0, 6, 16, 254, 172, 42, 2, 182, 1, 98, 61, 42, 180, 0, 33, 27, 46, 172] := by decide +kernel
theorem dX8_granted_0 : decode cX8_granted 0 = .ok (.aload_n 0, 1) := dk_42 (blk_at bk_cX8_granted_0 0 rfl)
theorem dX8_granted_1 : decode cX8_granted 1 = .ok (.iload_n 1, 1) := dk_27 (blk_at bk_cX8_granted_0 1 rfl)
theorem dX8_granted_2 : decode cX8_granted 2 = .ok (.invokevirtual 281, 3) := dq_182 bk_cX8_granted_0 2 rfl rfl
theorem dX8_granted_5 : decode cX8_granted 5 = .ok (.ifCond .ne 6, 3) := dq_154 bk_cX8_granted_0 5 rfl (by decide)
theorem dX8_granted_8 : decode cX8_granted 8 = .ok (.bipush (-2), 2) := dq_16 bk_cX8_granted_0 8 rfl (by decide)
theorem dX8_granted_10 : decode cX8_granted 10 = .ok (.ireturn, 1) := dk_172 (blk_at bk_cX8_granted_0 10 rfl)
theorem dX8_granted_11 : decode cX8_granted 11 = .ok (.aload_n 0, 1) := dk_42 (blk_at bk_cX8_granted_0 11 rfl)
theorem dX8_granted_12 : decode cX8_granted 12 = .ok (.iconst (-1), 1) := dk_2 (blk_at bk_cX8_granted_0 12 rfl)
theorem dX8_granted_13 : decode cX8_granted 13 = .ok (.invokevirtual 354, 3) := dq_182 bk_cX8_granted_0 13 rfl rfl
theorem dX8_granted_16 : decode cX8_granted 16 = .ok (.istore_n 2, 1) := dk_61 (blk_at bk_cX8_granted_0 16 rfl)
theorem dX8_granted_17 : decode cX8_granted 17 = .ok (.aload_n 0, 1) := dk_42 (blk_at bk_cX8_granted_0 17 rfl)
theorem dX8_granted_18 : decode cX8_granted 18 = .ok (.getfield 33, 3) := dq_180 bk_cX8_granted_0 18 rfl rfl
theorem dX8_granted_21 : decode cX8_granted 21 = .ok (.iload_n 1, 1) := dk_27 (blk_at bk_cX8_granted_0 21 rfl)
theorem dX8_granted_22 : decode cX8_granted 22 = .ok (.iaload, 1) := dk_46 (blk_at bk_cX8_granted_0 22 rfl)
theorem dX8_granted_23 : decode cX8_granted 23 = .ok (.ireturn, 1) := dk_172 (blk_at bk_cX8_granted_0 23 rfl)
theorem bk_cX8_movable_0 : (cX8_movable.data.toList.drop 0).take 40 = [42, 27, 182, 1, 17, 154, 0, 6, 16, 254, 172, 3, 61, 3, 62, 29, 16, 24, 162, 0, 28, 28, 42, 27, 29, 182, 1, 101, 153, 0, 9, 4, 29, 120, 167, 0, 4, 3, 128, 61] := by decide +kernel
theorem dX8_movable_0 : decode cX8_movable 0 = .ok (.aload_n 0, 1) := dk_42 (blk_at bk_cX8_movable_0 0 rfl)
theorem dX8_movable_1 : decode cX8_movable 1 = .ok (.iload_n 1, 1) := dk_27 (blk_at bk_cX8_movable_0 1 rfl)
theorem dX8_movable_2 : decode cX8_movable 2 = .ok (.invokevirtual 273, 3) := dq_182 bk_cX8_movable_0 2 rfl rfl
theorem dX8_movable_5 : decode cX8_movable 5 = .ok (.ifCond .ne 6, 3) := dq_154 bk_cX8_movable_0 5 rfl (by decide)
theorem dX8_movable_8 : decode cX8_movable 8 = .ok (.bipush (-2), 2) := dq_16 bk_cX8_movable_0 8 rfl (by decide)
theorem dX8_movable_10 : decode cX8_movable 10 = .ok (.ireturn, 1) := dk_172 (blk_at bk_cX8_movable_0 10 rfl)
theorem dX8_movable_11 : decode cX8_movable 11 = .ok (.iconst 0, 1) := dk_3 (blk_at bk_cX8_movable_0 11 rfl)
theorem dX8_movable_12 : decode cX8_movable 12 = .ok (.istore_n 2, 1) := dk_61 (blk_at bk_cX8_movable_0 12 rfl)
theorem dX8_movable_13 : decode cX8_movable 13 = .ok (.iconst 0, 1) := dk_3 (blk_at bk_cX8_movable_0 13 rfl)
theorem dX8_movable_14 : decode cX8_movable 14 = .ok (.istore_n 3, 1) := dk_62 (blk_at bk_cX8_movable_0 14 rfl)
theorem dX8_movable_15 : decode cX8_movable 15 = .ok (.iload_n 3, 1) := dk_29 (blk_at bk_cX8_movable_0 15 rfl)
theorem dX8_movable_16 : decode cX8_movable 16 = .ok (.bipush 24, 2) := dq_16 bk_cX8_movable_0 16 rfl (by decide)
theorem dX8_movable_18 : decode cX8_movable 18 = .ok (.if_icmp .ge 28, 3) := dq_162 bk_cX8_movable_0 18 rfl (by decide)
theorem dX8_movable_21 : decode cX8_movable 21 = .ok (.iload_n 2, 1) := dk_28 (blk_at bk_cX8_movable_0 21 rfl)
theorem dX8_movable_22 : decode cX8_movable 22 = .ok (.aload_n 0, 1) := dk_42 (blk_at bk_cX8_movable_0 22 rfl)
theorem dX8_movable_23 : decode cX8_movable 23 = .ok (.iload_n 1, 1) := dk_27 (blk_at bk_cX8_movable_0 23 rfl)
theorem dX8_movable_24 : decode cX8_movable 24 = .ok (.iload_n 3, 1) := dk_29 (blk_at bk_cX8_movable_0 24 rfl)
theorem dX8_movable_25 : decode cX8_movable 25 = .ok (.invokevirtual 357, 3) := dq_182 bk_cX8_movable_0 25 rfl rfl
theorem dX8_movable_28 : decode cX8_movable 28 = .ok (.ifCond .eq 9, 3) := dq_153 bk_cX8_movable_0 28 rfl (by decide)
theorem dX8_movable_31 : decode cX8_movable 31 = .ok (.iconst 1, 1) := dk_4 (blk_at bk_cX8_movable_0 31 rfl)
theorem dX8_movable_32 : decode cX8_movable 32 = .ok (.iload_n 3, 1) := dk_29 (blk_at bk_cX8_movable_0 32 rfl)
theorem dX8_movable_33 : decode cX8_movable 33 = .ok (.ishl, 1) := dk_120 (blk_at bk_cX8_movable_0 33 rfl)
theorem dX8_movable_34 : decode cX8_movable 34 = .ok (.goto 4, 3) := dq_167 bk_cX8_movable_0 34 rfl (by decide)
theorem dX8_movable_37 : decode cX8_movable 37 = .ok (.iconst 0, 1) := dk_3 (blk_at bk_cX8_movable_0 37 rfl)
theorem dX8_movable_38 : decode cX8_movable 38 = .ok (.ior, 1) := dk_128 (blk_at bk_cX8_movable_0 38 rfl)
theorem dX8_movable_39 : decode cX8_movable 39 = .ok (.istore_n 2, 1) := dk_61 (blk_at bk_cX8_movable_0 39 rfl)
theorem bk_cX8_movable_40 : (cX8_movable.data.toList.drop 40).take 8 = [132, 3, 1, 167, 255, 228, 28, 172] := by decide +kernel
theorem dX8_movable_40 : decode cX8_movable 40 = .ok (.iinc 3 1, 3) := dq_132 bk_cX8_movable_40 0 rfl rfl (by decide)
theorem dX8_movable_43 : decode cX8_movable 43 = .ok (.goto (-28), 3) := dq_167 bk_cX8_movable_40 3 rfl (by decide)
theorem dX8_movable_46 : decode cX8_movable 46 = .ok (.iload_n 2, 1) := dk_28 (blk_at bk_cX8_movable_40 6 rfl)
theorem dX8_movable_47 : decode cX8_movable 47 = .ok (.ireturn, 1) := dk_172 (blk_at bk_cX8_movable_40 7 rfl)
theorem bk_cX8_canRetime_0 : (cX8_canRetime.data.toList.drop 0).take 40 = [42, 180, 0, 9, 7, 46, 42, 180, 0, 9, 3, 46, 162, 0, 26, 42, 27, 5, 182, 0, 67, 28, 159, 0, 16, 42, 27, 28, 182, 1, 104, 153, 0, 7, 4, 167, 0, 4, 3, 172] := by decide +kernel
theorem dX8_canRetime_0 : decode cX8_canRetime 0 = .ok (.aload_n 0, 1) := dk_42 (blk_at bk_cX8_canRetime_0 0 rfl)
theorem dX8_canRetime_1 : decode cX8_canRetime 1 = .ok (.getfield 9, 3) := dq_180 bk_cX8_canRetime_0 1 rfl rfl
theorem dX8_canRetime_4 : decode cX8_canRetime 4 = .ok (.iconst 4, 1) := dk_7 (blk_at bk_cX8_canRetime_0 4 rfl)
theorem dX8_canRetime_5 : decode cX8_canRetime 5 = .ok (.iaload, 1) := dk_46 (blk_at bk_cX8_canRetime_0 5 rfl)
theorem dX8_canRetime_6 : decode cX8_canRetime 6 = .ok (.aload_n 0, 1) := dk_42 (blk_at bk_cX8_canRetime_0 6 rfl)
theorem dX8_canRetime_7 : decode cX8_canRetime 7 = .ok (.getfield 9, 3) := dq_180 bk_cX8_canRetime_0 7 rfl rfl
theorem dX8_canRetime_10 : decode cX8_canRetime 10 = .ok (.iconst 0, 1) := dk_3 (blk_at bk_cX8_canRetime_0 10 rfl)
theorem dX8_canRetime_11 : decode cX8_canRetime 11 = .ok (.iaload, 1) := dk_46 (blk_at bk_cX8_canRetime_0 11 rfl)
theorem dX8_canRetime_12 : decode cX8_canRetime 12 = .ok (.if_icmp .ge 26, 3) := dq_162 bk_cX8_canRetime_0 12 rfl (by decide)
theorem dX8_canRetime_15 : decode cX8_canRetime 15 = .ok (.aload_n 0, 1) := dk_42 (blk_at bk_cX8_canRetime_0 15 rfl)
theorem dX8_canRetime_16 : decode cX8_canRetime 16 = .ok (.iload_n 1, 1) := dk_27 (blk_at bk_cX8_canRetime_0 16 rfl)
theorem dX8_canRetime_17 : decode cX8_canRetime 17 = .ok (.iconst 2, 1) := dk_5 (blk_at bk_cX8_canRetime_0 17 rfl)
theorem dX8_canRetime_18 : decode cX8_canRetime 18 = .ok (.invokevirtual 67, 3) := dq_182 bk_cX8_canRetime_0 18 rfl rfl
theorem dX8_canRetime_21 : decode cX8_canRetime 21 = .ok (.iload_n 2, 1) := dk_28 (blk_at bk_cX8_canRetime_0 21 rfl)
theorem dX8_canRetime_22 : decode cX8_canRetime 22 = .ok (.if_icmp .eq 16, 3) := dq_159 bk_cX8_canRetime_0 22 rfl (by decide)
theorem dX8_canRetime_25 : decode cX8_canRetime 25 = .ok (.aload_n 0, 1) := dk_42 (blk_at bk_cX8_canRetime_0 25 rfl)
theorem dX8_canRetime_26 : decode cX8_canRetime 26 = .ok (.iload_n 1, 1) := dk_27 (blk_at bk_cX8_canRetime_0 26 rfl)
theorem dX8_canRetime_27 : decode cX8_canRetime 27 = .ok (.iload_n 2, 1) := dk_28 (blk_at bk_cX8_canRetime_0 27 rfl)
theorem dX8_canRetime_28 : decode cX8_canRetime 28 = .ok (.invokevirtual 360, 3) := dq_182 bk_cX8_canRetime_0 28 rfl rfl
theorem dX8_canRetime_31 : decode cX8_canRetime 31 = .ok (.ifCond .eq 7, 3) := dq_153 bk_cX8_canRetime_0 31 rfl (by decide)
theorem dX8_canRetime_34 : decode cX8_canRetime 34 = .ok (.iconst 1, 1) := dk_4 (blk_at bk_cX8_canRetime_0 34 rfl)
theorem dX8_canRetime_35 : decode cX8_canRetime 35 = .ok (.goto 4, 3) := dq_167 bk_cX8_canRetime_0 35 rfl (by decide)
theorem dX8_canRetime_38 : decode cX8_canRetime 38 = .ok (.iconst 0, 1) := dk_3 (blk_at bk_cX8_canRetime_0 38 rfl)
theorem dX8_canRetime_39 : decode cX8_canRetime 39 = .ok (.ireturn, 1) := dk_172 (blk_at bk_cX8_canRetime_0 39 rfl)
theorem bk_cX8_keeps_0 : (cX8_keeps.data.toList.drop 0).take 39 = [42, 180, 1, 6, 16, 10, 160, 0, 46, 17, 2, 6, 60, 27, 17, 20, 60, 162, 0, 25, 42, 180, 0, 36, 27, 17, 2, 6, 100, 42, 180, 0, 36, 27, 46, 79, 132, 1, 1] := by decide +kernel
theorem dX8_keeps_0 : decode cX8_keeps 0 = .ok (.aload_n 0, 1) := dk_42 (blk_at bk_cX8_keeps_0 0 rfl)
theorem dX8_keeps_1 : decode cX8_keeps 1 = .ok (.getfield 262, 3) := dq_180 bk_cX8_keeps_0 1 rfl rfl
theorem dX8_keeps_4 : decode cX8_keeps 4 = .ok (.bipush 10, 2) := dq_16 bk_cX8_keeps_0 4 rfl (by decide)
theorem dX8_keeps_6 : decode cX8_keeps 6 = .ok (.if_icmp .ne 46, 3) := dq_160 bk_cX8_keeps_0 6 rfl (by decide)
theorem dX8_keeps_9 : decode cX8_keeps 9 = .ok (.sipush 518, 3) := dq_17 bk_cX8_keeps_0 9 rfl (by decide)
theorem dX8_keeps_12 : decode cX8_keeps 12 = .ok (.istore_n 1, 1) := dk_60 (blk_at bk_cX8_keeps_0 12 rfl)
theorem dX8_keeps_13 : decode cX8_keeps 13 = .ok (.iload_n 1, 1) := dk_27 (blk_at bk_cX8_keeps_0 13 rfl)
theorem dX8_keeps_14 : decode cX8_keeps 14 = .ok (.sipush 5180, 3) := dq_17 bk_cX8_keeps_0 14 rfl (by decide)
theorem dX8_keeps_17 : decode cX8_keeps 17 = .ok (.if_icmp .ge 25, 3) := dq_162 bk_cX8_keeps_0 17 rfl (by decide)
theorem dX8_keeps_20 : decode cX8_keeps 20 = .ok (.aload_n 0, 1) := dk_42 (blk_at bk_cX8_keeps_0 20 rfl)
theorem dX8_keeps_21 : decode cX8_keeps 21 = .ok (.getfield 36, 3) := dq_180 bk_cX8_keeps_0 21 rfl rfl
theorem dX8_keeps_24 : decode cX8_keeps 24 = .ok (.iload_n 1, 1) := dk_27 (blk_at bk_cX8_keeps_0 24 rfl)
theorem dX8_keeps_25 : decode cX8_keeps 25 = .ok (.sipush 518, 3) := dq_17 bk_cX8_keeps_0 25 rfl (by decide)
theorem dX8_keeps_28 : decode cX8_keeps 28 = .ok (.isub, 1) := dk_100 (blk_at bk_cX8_keeps_0 28 rfl)
theorem dX8_keeps_29 : decode cX8_keeps 29 = .ok (.aload_n 0, 1) := dk_42 (blk_at bk_cX8_keeps_0 29 rfl)
theorem dX8_keeps_30 : decode cX8_keeps 30 = .ok (.getfield 36, 3) := dq_180 bk_cX8_keeps_0 30 rfl rfl
theorem dX8_keeps_33 : decode cX8_keeps 33 = .ok (.iload_n 1, 1) := dk_27 (blk_at bk_cX8_keeps_0 33 rfl)
theorem dX8_keeps_34 : decode cX8_keeps 34 = .ok (.iaload, 1) := dk_46 (blk_at bk_cX8_keeps_0 34 rfl)
theorem dX8_keeps_35 : decode cX8_keeps 35 = .ok (.iastore, 1) := dk_79 (blk_at bk_cX8_keeps_0 35 rfl)
theorem dX8_keeps_36 : decode cX8_keeps 36 = .ok (.iinc 1 1, 3) := dq_132 bk_cX8_keeps_0 36 rfl rfl (by decide)
theorem bk_cX8_keeps_39 : (cX8_keeps.data.toList.drop 39).take 40 = [167, 255, 230, 42, 89, 180, 1, 6, 4, 100, 181, 1, 6, 3, 60, 27, 17, 2, 6, 162, 0, 30, 42, 180, 0, 36, 17, 2, 6, 42, 180, 1, 6, 104, 27, 96, 42, 180, 0, 9] := by decide +kernel
theorem dX8_keeps_39 : decode cX8_keeps 39 = .ok (.goto (-26), 3) := dq_167 bk_cX8_keeps_39 0 rfl (by decide)
theorem dX8_keeps_42 : decode cX8_keeps 42 = .ok (.aload_n 0, 1) := dk_42 (blk_at bk_cX8_keeps_39 3 rfl)
theorem dX8_keeps_43 : decode cX8_keeps 43 = .ok (.dup, 1) := dk_89 (blk_at bk_cX8_keeps_39 4 rfl)
theorem dX8_keeps_44 : decode cX8_keeps 44 = .ok (.getfield 262, 3) := dq_180 bk_cX8_keeps_39 5 rfl rfl
theorem dX8_keeps_47 : decode cX8_keeps 47 = .ok (.iconst 1, 1) := dk_4 (blk_at bk_cX8_keeps_39 8 rfl)
theorem dX8_keeps_48 : decode cX8_keeps 48 = .ok (.isub, 1) := dk_100 (blk_at bk_cX8_keeps_39 9 rfl)
theorem dX8_keeps_49 : decode cX8_keeps 49 = .ok (.putfield 262, 3) := dq_181 bk_cX8_keeps_39 10 rfl rfl
theorem dX8_keeps_52 : decode cX8_keeps 52 = .ok (.iconst 0, 1) := dk_3 (blk_at bk_cX8_keeps_39 13 rfl)
theorem dX8_keeps_53 : decode cX8_keeps 53 = .ok (.istore_n 1, 1) := dk_60 (blk_at bk_cX8_keeps_39 14 rfl)
theorem dX8_keeps_54 : decode cX8_keeps 54 = .ok (.iload_n 1, 1) := dk_27 (blk_at bk_cX8_keeps_39 15 rfl)
theorem dX8_keeps_55 : decode cX8_keeps 55 = .ok (.sipush 518, 3) := dq_17 bk_cX8_keeps_39 16 rfl (by decide)
theorem dX8_keeps_58 : decode cX8_keeps 58 = .ok (.if_icmp .ge 30, 3) := dq_162 bk_cX8_keeps_39 19 rfl (by decide)
theorem dX8_keeps_61 : decode cX8_keeps 61 = .ok (.aload_n 0, 1) := dk_42 (blk_at bk_cX8_keeps_39 22 rfl)
theorem dX8_keeps_62 : decode cX8_keeps 62 = .ok (.getfield 36, 3) := dq_180 bk_cX8_keeps_39 23 rfl rfl
theorem dX8_keeps_65 : decode cX8_keeps 65 = .ok (.sipush 518, 3) := dq_17 bk_cX8_keeps_39 26 rfl (by decide)
theorem dX8_keeps_68 : decode cX8_keeps 68 = .ok (.aload_n 0, 1) := dk_42 (blk_at bk_cX8_keeps_39 29 rfl)
theorem dX8_keeps_69 : decode cX8_keeps 69 = .ok (.getfield 262, 3) := dq_180 bk_cX8_keeps_39 30 rfl rfl
theorem dX8_keeps_72 : decode cX8_keeps 72 = .ok (.imul, 1) := dk_104 (blk_at bk_cX8_keeps_39 33 rfl)
theorem dX8_keeps_73 : decode cX8_keeps 73 = .ok (.iload_n 1, 1) := dk_27 (blk_at bk_cX8_keeps_39 34 rfl)
theorem dX8_keeps_74 : decode cX8_keeps 74 = .ok (.iadd, 1) := dk_96 (blk_at bk_cX8_keeps_39 35 rfl)
theorem dX8_keeps_75 : decode cX8_keeps 75 = .ok (.aload_n 0, 1) := dk_42 (blk_at bk_cX8_keeps_39 36 rfl)
theorem dX8_keeps_76 : decode cX8_keeps 76 = .ok (.getfield 9, 3) := dq_180 bk_cX8_keeps_39 37 rfl rfl
theorem bk_cX8_keeps_79 : (cX8_keeps.data.toList.drop 79).take 20 = [27, 46, 79, 132, 1, 1, 167, 255, 225, 42, 89, 180, 1, 6, 4, 96, 181, 1, 6, 177] := by decide +kernel
theorem dX8_keeps_79 : decode cX8_keeps 79 = .ok (.iload_n 1, 1) := dk_27 (blk_at bk_cX8_keeps_79 0 rfl)
theorem dX8_keeps_80 : decode cX8_keeps 80 = .ok (.iaload, 1) := dk_46 (blk_at bk_cX8_keeps_79 1 rfl)
theorem dX8_keeps_81 : decode cX8_keeps 81 = .ok (.iastore, 1) := dk_79 (blk_at bk_cX8_keeps_79 2 rfl)
theorem dX8_keeps_82 : decode cX8_keeps 82 = .ok (.iinc 1 1, 3) := dq_132 bk_cX8_keeps_79 3 rfl rfl (by decide)
theorem dX8_keeps_85 : decode cX8_keeps 85 = .ok (.goto (-31), 3) := dq_167 bk_cX8_keeps_79 6 rfl (by decide)
theorem dX8_keeps_88 : decode cX8_keeps 88 = .ok (.aload_n 0, 1) := dk_42 (blk_at bk_cX8_keeps_79 9 rfl)
theorem dX8_keeps_89 : decode cX8_keeps 89 = .ok (.dup, 1) := dk_89 (blk_at bk_cX8_keeps_79 10 rfl)
theorem dX8_keeps_90 : decode cX8_keeps 90 = .ok (.getfield 262, 3) := dq_180 bk_cX8_keeps_79 11 rfl rfl
theorem dX8_keeps_93 : decode cX8_keeps 93 = .ok (.iconst 1, 1) := dk_4 (blk_at bk_cX8_keeps_79 14 rfl)
theorem dX8_keeps_94 : decode cX8_keeps 94 = .ok (.iadd, 1) := dk_96 (blk_at bk_cX8_keeps_79 15 rfl)
theorem dX8_keeps_95 : decode cX8_keeps 95 = .ok (.putfield 262, 3) := dq_181 bk_cX8_keeps_79 16 rfl rfl
theorem dX8_keeps_98 : decode cX8_keeps 98 = .ok (.return_, 1) := dk_177 (blk_at bk_cX8_keeps_79 19 rfl)
theorem bk_cX8_undo_0 : (cX8_undo.data.toList.drop 0).take 40 = [42, 180, 1, 6, 154, 0, 5, 2, 172, 42, 89, 180, 1, 6, 4, 100, 181, 1, 6, 3, 60, 27, 17, 2, 6, 162, 0, 30, 42, 180, 0, 9, 27, 42, 180, 0, 36, 17, 2, 6] := by decide +kernel
theorem dX8_undo_0 : decode cX8_undo 0 = .ok (.aload_n 0, 1) := dk_42 (blk_at bk_cX8_undo_0 0 rfl)
theorem dX8_undo_1 : decode cX8_undo 1 = .ok (.getfield 262, 3) := dq_180 bk_cX8_undo_0 1 rfl rfl
theorem dX8_undo_4 : decode cX8_undo 4 = .ok (.ifCond .ne 5, 3) := dq_154 bk_cX8_undo_0 4 rfl (by decide)
theorem dX8_undo_7 : decode cX8_undo 7 = .ok (.iconst (-1), 1) := dk_2 (blk_at bk_cX8_undo_0 7 rfl)
theorem dX8_undo_8 : decode cX8_undo 8 = .ok (.ireturn, 1) := dk_172 (blk_at bk_cX8_undo_0 8 rfl)
theorem dX8_undo_9 : decode cX8_undo 9 = .ok (.aload_n 0, 1) := dk_42 (blk_at bk_cX8_undo_0 9 rfl)
theorem dX8_undo_10 : decode cX8_undo 10 = .ok (.dup, 1) := dk_89 (blk_at bk_cX8_undo_0 10 rfl)
theorem dX8_undo_11 : decode cX8_undo 11 = .ok (.getfield 262, 3) := dq_180 bk_cX8_undo_0 11 rfl rfl
theorem dX8_undo_14 : decode cX8_undo 14 = .ok (.iconst 1, 1) := dk_4 (blk_at bk_cX8_undo_0 14 rfl)
theorem dX8_undo_15 : decode cX8_undo 15 = .ok (.isub, 1) := dk_100 (blk_at bk_cX8_undo_0 15 rfl)
theorem dX8_undo_16 : decode cX8_undo 16 = .ok (.putfield 262, 3) := dq_181 bk_cX8_undo_0 16 rfl rfl
theorem dX8_undo_19 : decode cX8_undo 19 = .ok (.iconst 0, 1) := dk_3 (blk_at bk_cX8_undo_0 19 rfl)
theorem dX8_undo_20 : decode cX8_undo 20 = .ok (.istore_n 1, 1) := dk_60 (blk_at bk_cX8_undo_0 20 rfl)
theorem dX8_undo_21 : decode cX8_undo 21 = .ok (.iload_n 1, 1) := dk_27 (blk_at bk_cX8_undo_0 21 rfl)
theorem dX8_undo_22 : decode cX8_undo 22 = .ok (.sipush 518, 3) := dq_17 bk_cX8_undo_0 22 rfl (by decide)
theorem dX8_undo_25 : decode cX8_undo 25 = .ok (.if_icmp .ge 30, 3) := dq_162 bk_cX8_undo_0 25 rfl (by decide)
theorem dX8_undo_28 : decode cX8_undo 28 = .ok (.aload_n 0, 1) := dk_42 (blk_at bk_cX8_undo_0 28 rfl)
theorem dX8_undo_29 : decode cX8_undo 29 = .ok (.getfield 9, 3) := dq_180 bk_cX8_undo_0 29 rfl rfl
theorem dX8_undo_32 : decode cX8_undo 32 = .ok (.iload_n 1, 1) := dk_27 (blk_at bk_cX8_undo_0 32 rfl)
theorem dX8_undo_33 : decode cX8_undo 33 = .ok (.aload_n 0, 1) := dk_42 (blk_at bk_cX8_undo_0 33 rfl)
theorem dX8_undo_34 : decode cX8_undo 34 = .ok (.getfield 36, 3) := dq_180 bk_cX8_undo_0 34 rfl rfl
theorem dX8_undo_37 : decode cX8_undo 37 = .ok (.sipush 518, 3) := dq_17 bk_cX8_undo_0 37 rfl (by decide)
theorem bk_cX8_undo_40 : (cX8_undo.data.toList.drop 40).take 20 = [42, 180, 1, 6, 104, 27, 96, 46, 79, 132, 1, 1, 167, 255, 225, 42, 180, 1, 6, 172] := by decide +kernel
theorem dX8_undo_40 : decode cX8_undo 40 = .ok (.aload_n 0, 1) := dk_42 (blk_at bk_cX8_undo_40 0 rfl)
theorem dX8_undo_41 : decode cX8_undo 41 = .ok (.getfield 262, 3) := dq_180 bk_cX8_undo_40 1 rfl rfl
theorem dX8_undo_44 : decode cX8_undo 44 = .ok (.imul, 1) := dk_104 (blk_at bk_cX8_undo_40 4 rfl)
theorem dX8_undo_45 : decode cX8_undo 45 = .ok (.iload_n 1, 1) := dk_27 (blk_at bk_cX8_undo_40 5 rfl)
theorem dX8_undo_46 : decode cX8_undo 46 = .ok (.iadd, 1) := dk_96 (blk_at bk_cX8_undo_40 6 rfl)
theorem dX8_undo_47 : decode cX8_undo 47 = .ok (.iaload, 1) := dk_46 (blk_at bk_cX8_undo_40 7 rfl)
theorem dX8_undo_48 : decode cX8_undo 48 = .ok (.iastore, 1) := dk_79 (blk_at bk_cX8_undo_40 8 rfl)
theorem dX8_undo_49 : decode cX8_undo 49 = .ok (.iinc 1 1, 3) := dq_132 bk_cX8_undo_40 9 rfl rfl (by decide)
theorem dX8_undo_52 : decode cX8_undo 52 = .ok (.goto (-31), 3) := dq_167 bk_cX8_undo_40 12 rfl (by decide)
theorem dX8_undo_55 : decode cX8_undo 55 = .ok (.aload_n 0, 1) := dk_42 (blk_at bk_cX8_undo_40 15 rfl)
theorem dX8_undo_56 : decode cX8_undo 56 = .ok (.getfield 262, 3) := dq_180 bk_cX8_undo_40 16 rfl rfl
theorem dX8_undo_59 : decode cX8_undo 59 = .ok (.ireturn, 1) := dk_172 (blk_at bk_cX8_undo_40 19 rfl)
theorem bk_cX8_goes_0 : (cX8_goes.data.toList.drop 0).take 40 = [42, 27, 16, 7, 29, 96, 42, 27, 16, 7, 29, 96, 182, 0, 67, 28, 2, 130, 126, 182, 0, 230, 42, 27, 16, 7, 21, 4, 96, 42, 27, 16, 7, 21, 4, 96, 182, 0, 67, 28] := by decide +kernel
theorem dX8_goes_0 : decode cX8_goes 0 = .ok (.aload_n 0, 1) := dk_42 (blk_at bk_cX8_goes_0 0 rfl)
theorem dX8_goes_1 : decode cX8_goes 1 = .ok (.iload_n 1, 1) := dk_27 (blk_at bk_cX8_goes_0 1 rfl)
theorem dX8_goes_2 : decode cX8_goes 2 = .ok (.bipush 7, 2) := dq_16 bk_cX8_goes_0 2 rfl (by decide)
theorem dX8_goes_4 : decode cX8_goes 4 = .ok (.iload_n 3, 1) := dk_29 (blk_at bk_cX8_goes_0 4 rfl)
theorem dX8_goes_5 : decode cX8_goes 5 = .ok (.iadd, 1) := dk_96 (blk_at bk_cX8_goes_0 5 rfl)
theorem dX8_goes_6 : decode cX8_goes 6 = .ok (.aload_n 0, 1) := dk_42 (blk_at bk_cX8_goes_0 6 rfl)
theorem dX8_goes_7 : decode cX8_goes 7 = .ok (.iload_n 1, 1) := dk_27 (blk_at bk_cX8_goes_0 7 rfl)
theorem dX8_goes_8 : decode cX8_goes 8 = .ok (.bipush 7, 2) := dq_16 bk_cX8_goes_0 8 rfl (by decide)
theorem dX8_goes_10 : decode cX8_goes 10 = .ok (.iload_n 3, 1) := dk_29 (blk_at bk_cX8_goes_0 10 rfl)
theorem dX8_goes_11 : decode cX8_goes 11 = .ok (.iadd, 1) := dk_96 (blk_at bk_cX8_goes_0 11 rfl)
theorem dX8_goes_12 : decode cX8_goes 12 = .ok (.invokevirtual 67, 3) := dq_182 bk_cX8_goes_0 12 rfl rfl
theorem dX8_goes_15 : decode cX8_goes 15 = .ok (.iload_n 2, 1) := dk_28 (blk_at bk_cX8_goes_0 15 rfl)
theorem dX8_goes_16 : decode cX8_goes 16 = .ok (.iconst (-1), 1) := dk_2 (blk_at bk_cX8_goes_0 16 rfl)
theorem dX8_goes_17 : decode cX8_goes 17 = .ok (.ixor, 1) := dk_130 (blk_at bk_cX8_goes_0 17 rfl)
theorem dX8_goes_18 : decode cX8_goes 18 = .ok (.iand, 1) := dk_126 (blk_at bk_cX8_goes_0 18 rfl)
theorem dX8_goes_19 : decode cX8_goes 19 = .ok (.invokevirtual 230, 3) := dq_182 bk_cX8_goes_0 19 rfl rfl
theorem dX8_goes_22 : decode cX8_goes 22 = .ok (.aload_n 0, 1) := dk_42 (blk_at bk_cX8_goes_0 22 rfl)
theorem dX8_goes_23 : decode cX8_goes 23 = .ok (.iload_n 1, 1) := dk_27 (blk_at bk_cX8_goes_0 23 rfl)
theorem dX8_goes_24 : decode cX8_goes 24 = .ok (.bipush 7, 2) := dq_16 bk_cX8_goes_0 24 rfl (by decide)
theorem dX8_goes_26 : decode cX8_goes 26 = .ok (.iload 4, 2) := dq_21 bk_cX8_goes_0 26 rfl rfl
theorem dX8_goes_28 : decode cX8_goes 28 = .ok (.iadd, 1) := dk_96 (blk_at bk_cX8_goes_0 28 rfl)
theorem dX8_goes_29 : decode cX8_goes 29 = .ok (.aload_n 0, 1) := dk_42 (blk_at bk_cX8_goes_0 29 rfl)
theorem dX8_goes_30 : decode cX8_goes 30 = .ok (.iload_n 1, 1) := dk_27 (blk_at bk_cX8_goes_0 30 rfl)
theorem dX8_goes_31 : decode cX8_goes 31 = .ok (.bipush 7, 2) := dq_16 bk_cX8_goes_0 31 rfl (by decide)
theorem dX8_goes_33 : decode cX8_goes 33 = .ok (.iload 4, 2) := dq_21 bk_cX8_goes_0 33 rfl rfl
theorem dX8_goes_35 : decode cX8_goes 35 = .ok (.iadd, 1) := dk_96 (blk_at bk_cX8_goes_0 35 rfl)
theorem dX8_goes_36 : decode cX8_goes 36 = .ok (.invokevirtual 67, 3) := dq_182 bk_cX8_goes_0 36 rfl rfl
theorem dX8_goes_39 : decode cX8_goes 39 = .ok (.iload_n 2, 1) := dk_28 (blk_at bk_cX8_goes_0 39 rfl)
theorem bk_cX8_goes_40 : (cX8_goes.data.toList.drop 40).take 5 = [128, 182, 0, 230, 177] := by decide +kernel
theorem dX8_goes_40 : decode cX8_goes 40 = .ok (.ior, 1) := dk_128 (blk_at bk_cX8_goes_40 0 rfl)
theorem dX8_goes_41 : decode cX8_goes 41 = .ok (.invokevirtual 230, 3) := dq_182 bk_cX8_goes_40 1 rfl rfl
theorem dX8_goes_44 : decode cX8_goes 44 = .ok (.return_, 1) := dk_177 (blk_at bk_cX8_goes_40 4 rfl)
theorem bk_cX8_isComing_0 : (cX8_isComing.data.toList.drop 0).take 16 = [27, 42, 180, 0, 9, 7, 46, 161, 0, 7, 4, 167, 0, 4, 3, 172] := by decide +kernel
theorem dX8_isComing_0 : decode cX8_isComing 0 = .ok (.iload_n 1, 1) := dk_27 (blk_at bk_cX8_isComing_0 0 rfl)
theorem dX8_isComing_1 : decode cX8_isComing 1 = .ok (.aload_n 0, 1) := dk_42 (blk_at bk_cX8_isComing_0 1 rfl)
theorem dX8_isComing_2 : decode cX8_isComing 2 = .ok (.getfield 9, 3) := dq_180 bk_cX8_isComing_0 2 rfl rfl
theorem dX8_isComing_5 : decode cX8_isComing 5 = .ok (.iconst 4, 1) := dk_7 (blk_at bk_cX8_isComing_0 5 rfl)
theorem dX8_isComing_6 : decode cX8_isComing 6 = .ok (.iaload, 1) := dk_46 (blk_at bk_cX8_isComing_0 6 rfl)
theorem dX8_isComing_7 : decode cX8_isComing 7 = .ok (.if_icmp .lt 7, 3) := dq_161 bk_cX8_isComing_0 7 rfl (by decide)
theorem dX8_isComing_10 : decode cX8_isComing 10 = .ok (.iconst 1, 1) := dk_4 (blk_at bk_cX8_isComing_0 10 rfl)
theorem dX8_isComing_11 : decode cX8_isComing 11 = .ok (.goto 4, 3) := dq_167 bk_cX8_isComing_0 11 rfl (by decide)
theorem dX8_isComing_14 : decode cX8_isComing 14 = .ok (.iconst 0, 1) := dk_3 (blk_at bk_cX8_isComing_0 14 rfl)
theorem dX8_isComing_15 : decode cX8_isComing 15 = .ok (.ireturn, 1) := dk_172 (blk_at bk_cX8_isComing_0 15 rfl)
theorem bk_cX8_miss_0 : (cX8_miss.data.toList.drop 0).take 40 = [42, 27, 182, 1, 17, 153, 0, 11, 42, 28, 182, 0, 57, 154, 0, 6, 16, 254, 172, 42, 27, 28, 182, 1, 22, 154, 0, 11, 42, 28, 182, 1, 107, 154, 0, 6, 16, 250, 172, 42] := by decide +kernel
theorem dX8_miss_0 : decode cX8_miss 0 = .ok (.aload_n 0, 1) := dk_42 (blk_at bk_cX8_miss_0 0 rfl)
theorem dX8_miss_1 : decode cX8_miss 1 = .ok (.iload_n 1, 1) := dk_27 (blk_at bk_cX8_miss_0 1 rfl)
theorem dX8_miss_2 : decode cX8_miss 2 = .ok (.invokevirtual 273, 3) := dq_182 bk_cX8_miss_0 2 rfl rfl
theorem dX8_miss_5 : decode cX8_miss 5 = .ok (.ifCond .eq 11, 3) := dq_153 bk_cX8_miss_0 5 rfl (by decide)
theorem dX8_miss_8 : decode cX8_miss 8 = .ok (.aload_n 0, 1) := dk_42 (blk_at bk_cX8_miss_0 8 rfl)
theorem dX8_miss_9 : decode cX8_miss 9 = .ok (.iload_n 2, 1) := dk_28 (blk_at bk_cX8_miss_0 9 rfl)
theorem dX8_miss_10 : decode cX8_miss 10 = .ok (.invokevirtual 57, 3) := dq_182 bk_cX8_miss_0 10 rfl rfl
theorem dX8_miss_13 : decode cX8_miss 13 = .ok (.ifCond .ne 6, 3) := dq_154 bk_cX8_miss_0 13 rfl (by decide)
theorem dX8_miss_16 : decode cX8_miss 16 = .ok (.bipush (-2), 2) := dq_16 bk_cX8_miss_0 16 rfl (by decide)
theorem dX8_miss_18 : decode cX8_miss 18 = .ok (.ireturn, 1) := dk_172 (blk_at bk_cX8_miss_0 18 rfl)
theorem dX8_miss_19 : decode cX8_miss 19 = .ok (.aload_n 0, 1) := dk_42 (blk_at bk_cX8_miss_0 19 rfl)
theorem dX8_miss_20 : decode cX8_miss 20 = .ok (.iload_n 1, 1) := dk_27 (blk_at bk_cX8_miss_0 20 rfl)
theorem dX8_miss_21 : decode cX8_miss 21 = .ok (.iload_n 2, 1) := dk_28 (blk_at bk_cX8_miss_0 21 rfl)
theorem dX8_miss_22 : decode cX8_miss 22 = .ok (.invokevirtual 278, 3) := dq_182 bk_cX8_miss_0 22 rfl rfl
theorem dX8_miss_25 : decode cX8_miss 25 = .ok (.ifCond .ne 11, 3) := dq_154 bk_cX8_miss_0 25 rfl (by decide)
theorem dX8_miss_28 : decode cX8_miss 28 = .ok (.aload_n 0, 1) := dk_42 (blk_at bk_cX8_miss_0 28 rfl)
theorem dX8_miss_29 : decode cX8_miss 29 = .ok (.iload_n 2, 1) := dk_28 (blk_at bk_cX8_miss_0 29 rfl)
theorem dX8_miss_30 : decode cX8_miss 30 = .ok (.invokevirtual 363, 3) := dq_182 bk_cX8_miss_0 30 rfl rfl
theorem dX8_miss_33 : decode cX8_miss 33 = .ok (.ifCond .ne 6, 3) := dq_154 bk_cX8_miss_0 33 rfl (by decide)
theorem dX8_miss_36 : decode cX8_miss 36 = .ok (.bipush (-6), 2) := dq_16 bk_cX8_miss_0 36 rfl (by decide)
theorem dX8_miss_38 : decode cX8_miss 38 = .ok (.ireturn, 1) := dk_172 (blk_at bk_cX8_miss_0 38 rfl)
theorem dX8_miss_39 : decode cX8_miss 39 = .ok (.aload_n 0, 1) := dk_42 (blk_at bk_cX8_miss_0 39 rfl)
theorem bk_cX8_miss_40 : (cX8_miss.data.toList.drop 40).take 19 = [182, 1, 110, 42, 27, 4, 28, 120, 3, 5, 182, 1, 113, 42, 27, 182, 1, 52, 172] := by decide +kernel
theorem dX8_miss_40 : decode cX8_miss 40 = .ok (.invokevirtual 366, 3) := dq_182 bk_cX8_miss_40 0 rfl rfl
theorem dX8_miss_43 : decode cX8_miss 43 = .ok (.aload_n 0, 1) := dk_42 (blk_at bk_cX8_miss_40 3 rfl)
theorem dX8_miss_44 : decode cX8_miss 44 = .ok (.iload_n 1, 1) := dk_27 (blk_at bk_cX8_miss_40 4 rfl)
theorem dX8_miss_45 : decode cX8_miss 45 = .ok (.iconst 1, 1) := dk_4 (blk_at bk_cX8_miss_40 5 rfl)
theorem dX8_miss_46 : decode cX8_miss 46 = .ok (.iload_n 2, 1) := dk_28 (blk_at bk_cX8_miss_40 6 rfl)
theorem dX8_miss_47 : decode cX8_miss 47 = .ok (.ishl, 1) := dk_120 (blk_at bk_cX8_miss_40 7 rfl)
theorem dX8_miss_48 : decode cX8_miss 48 = .ok (.iconst 0, 1) := dk_3 (blk_at bk_cX8_miss_40 8 rfl)
theorem dX8_miss_49 : decode cX8_miss 49 = .ok (.iconst 2, 1) := dk_5 (blk_at bk_cX8_miss_40 9 rfl)
theorem dX8_miss_50 : decode cX8_miss 50 = .ok (.invokevirtual 369, 3) := dq_182 bk_cX8_miss_40 10 rfl rfl
theorem dX8_miss_53 : decode cX8_miss 53 = .ok (.aload_n 0, 1) := dk_42 (blk_at bk_cX8_miss_40 13 rfl)
theorem dX8_miss_54 : decode cX8_miss 54 = .ok (.iload_n 1, 1) := dk_27 (blk_at bk_cX8_miss_40 14 rfl)
theorem dX8_miss_55 : decode cX8_miss 55 = .ok (.invokevirtual 308, 3) := dq_182 bk_cX8_miss_40 15 rfl rfl
theorem dX8_miss_58 : decode cX8_miss 58 = .ok (.ireturn, 1) := dk_172 (blk_at bk_cX8_miss_40 18 rfl)
theorem bk_cX8_excuse_0 : (cX8_excuse.data.toList.drop 0).take 39 = [42, 27, 182, 1, 17, 153, 0, 11, 42, 28, 182, 0, 57, 154, 0, 6, 16, 254, 172, 42, 27, 28, 182, 1, 22, 62, 29, 153, 0, 11, 29, 5, 159, 0, 6, 16, 250, 172, 42] := by decide +kernel
theorem dX8_excuse_0 : decode cX8_excuse 0 = .ok (.aload_n 0, 1) := dk_42 (blk_at bk_cX8_excuse_0 0 rfl)
theorem dX8_excuse_1 : decode cX8_excuse 1 = .ok (.iload_n 1, 1) := dk_27 (blk_at bk_cX8_excuse_0 1 rfl)
theorem dX8_excuse_2 : decode cX8_excuse 2 = .ok (.invokevirtual 273, 3) := dq_182 bk_cX8_excuse_0 2 rfl rfl
theorem dX8_excuse_5 : decode cX8_excuse 5 = .ok (.ifCond .eq 11, 3) := dq_153 bk_cX8_excuse_0 5 rfl (by decide)
theorem dX8_excuse_8 : decode cX8_excuse 8 = .ok (.aload_n 0, 1) := dk_42 (blk_at bk_cX8_excuse_0 8 rfl)
theorem dX8_excuse_9 : decode cX8_excuse 9 = .ok (.iload_n 2, 1) := dk_28 (blk_at bk_cX8_excuse_0 9 rfl)
theorem dX8_excuse_10 : decode cX8_excuse 10 = .ok (.invokevirtual 57, 3) := dq_182 bk_cX8_excuse_0 10 rfl rfl
theorem dX8_excuse_13 : decode cX8_excuse 13 = .ok (.ifCond .ne 6, 3) := dq_154 bk_cX8_excuse_0 13 rfl (by decide)
theorem dX8_excuse_16 : decode cX8_excuse 16 = .ok (.bipush (-2), 2) := dq_16 bk_cX8_excuse_0 16 rfl (by decide)
theorem dX8_excuse_18 : decode cX8_excuse 18 = .ok (.ireturn, 1) := dk_172 (blk_at bk_cX8_excuse_0 18 rfl)
theorem dX8_excuse_19 : decode cX8_excuse 19 = .ok (.aload_n 0, 1) := dk_42 (blk_at bk_cX8_excuse_0 19 rfl)
theorem dX8_excuse_20 : decode cX8_excuse 20 = .ok (.iload_n 1, 1) := dk_27 (blk_at bk_cX8_excuse_0 20 rfl)
theorem dX8_excuse_21 : decode cX8_excuse 21 = .ok (.iload_n 2, 1) := dk_28 (blk_at bk_cX8_excuse_0 21 rfl)
theorem dX8_excuse_22 : decode cX8_excuse 22 = .ok (.invokevirtual 278, 3) := dq_182 bk_cX8_excuse_0 22 rfl rfl
theorem dX8_excuse_25 : decode cX8_excuse 25 = .ok (.istore_n 3, 1) := dk_62 (blk_at bk_cX8_excuse_0 25 rfl)
theorem dX8_excuse_26 : decode cX8_excuse 26 = .ok (.iload_n 3, 1) := dk_29 (blk_at bk_cX8_excuse_0 26 rfl)
theorem dX8_excuse_27 : decode cX8_excuse 27 = .ok (.ifCond .eq 11, 3) := dq_153 bk_cX8_excuse_0 27 rfl (by decide)
theorem dX8_excuse_30 : decode cX8_excuse 30 = .ok (.iload_n 3, 1) := dk_29 (blk_at bk_cX8_excuse_0 30 rfl)
theorem dX8_excuse_31 : decode cX8_excuse 31 = .ok (.iconst 2, 1) := dk_5 (blk_at bk_cX8_excuse_0 31 rfl)
theorem dX8_excuse_32 : decode cX8_excuse 32 = .ok (.if_icmp .eq 6, 3) := dq_159 bk_cX8_excuse_0 32 rfl (by decide)
theorem dX8_excuse_35 : decode cX8_excuse 35 = .ok (.bipush (-6), 2) := dq_16 bk_cX8_excuse_0 35 rfl (by decide)
theorem dX8_excuse_37 : decode cX8_excuse 37 = .ok (.ireturn, 1) := dk_172 (blk_at bk_cX8_excuse_0 37 rfl)
theorem dX8_excuse_38 : decode cX8_excuse 38 = .ok (.aload_n 0, 1) := dk_42 (blk_at bk_cX8_excuse_0 38 rfl)
theorem bk_cX8_excuse_39 : (cX8_excuse.data.toList.drop 39).take 19 = [182, 1, 110, 42, 27, 4, 28, 120, 29, 6, 182, 1, 113, 42, 27, 182, 1, 43, 172] := by decide +kernel
theorem dX8_excuse_39 : decode cX8_excuse 39 = .ok (.invokevirtual 366, 3) := dq_182 bk_cX8_excuse_39 0 rfl rfl
theorem dX8_excuse_42 : decode cX8_excuse 42 = .ok (.aload_n 0, 1) := dk_42 (blk_at bk_cX8_excuse_39 3 rfl)
theorem dX8_excuse_43 : decode cX8_excuse 43 = .ok (.iload_n 1, 1) := dk_27 (blk_at bk_cX8_excuse_39 4 rfl)
theorem dX8_excuse_44 : decode cX8_excuse 44 = .ok (.iconst 1, 1) := dk_4 (blk_at bk_cX8_excuse_39 5 rfl)
theorem dX8_excuse_45 : decode cX8_excuse 45 = .ok (.iload_n 2, 1) := dk_28 (blk_at bk_cX8_excuse_39 6 rfl)
theorem dX8_excuse_46 : decode cX8_excuse 46 = .ok (.ishl, 1) := dk_120 (blk_at bk_cX8_excuse_39 7 rfl)
theorem dX8_excuse_47 : decode cX8_excuse 47 = .ok (.iload_n 3, 1) := dk_29 (blk_at bk_cX8_excuse_39 8 rfl)
theorem dX8_excuse_48 : decode cX8_excuse 48 = .ok (.iconst 3, 1) := dk_6 (blk_at bk_cX8_excuse_39 9 rfl)
theorem dX8_excuse_49 : decode cX8_excuse 49 = .ok (.invokevirtual 369, 3) := dq_182 bk_cX8_excuse_39 10 rfl rfl
theorem dX8_excuse_52 : decode cX8_excuse 52 = .ok (.aload_n 0, 1) := dk_42 (blk_at bk_cX8_excuse_39 13 rfl)
theorem dX8_excuse_53 : decode cX8_excuse 53 = .ok (.iload_n 1, 1) := dk_27 (blk_at bk_cX8_excuse_39 14 rfl)
theorem dX8_excuse_54 : decode cX8_excuse 54 = .ok (.invokevirtual 299, 3) := dq_182 bk_cX8_excuse_39 15 rfl rfl
theorem dX8_excuse_57 : decode cX8_excuse 57 = .ok (.ireturn, 1) := dk_172 (blk_at bk_cX8_excuse_39 18 rfl)
theorem bk_cX8_fly_0 : (cX8_fly.data.toList.drop 0).take 38 = [42, 27, 182, 1, 17, 153, 0, 11, 42, 28, 182, 0, 57, 154, 0, 6, 16, 254, 172, 42, 27, 28, 182, 1, 22, 62, 29, 5, 159, 0, 8, 29, 6, 160, 0, 11, 42, 28] := by decide +kernel
theorem dX8_fly_0 : decode cX8_fly 0 = .ok (.aload_n 0, 1) := dk_42 (blk_at bk_cX8_fly_0 0 rfl)
theorem dX8_fly_1 : decode cX8_fly 1 = .ok (.iload_n 1, 1) := dk_27 (blk_at bk_cX8_fly_0 1 rfl)
theorem dX8_fly_2 : decode cX8_fly 2 = .ok (.invokevirtual 273, 3) := dq_182 bk_cX8_fly_0 2 rfl rfl
theorem dX8_fly_5 : decode cX8_fly 5 = .ok (.ifCond .eq 11, 3) := dq_153 bk_cX8_fly_0 5 rfl (by decide)
theorem dX8_fly_8 : decode cX8_fly 8 = .ok (.aload_n 0, 1) := dk_42 (blk_at bk_cX8_fly_0 8 rfl)
theorem dX8_fly_9 : decode cX8_fly 9 = .ok (.iload_n 2, 1) := dk_28 (blk_at bk_cX8_fly_0 9 rfl)
theorem dX8_fly_10 : decode cX8_fly 10 = .ok (.invokevirtual 57, 3) := dq_182 bk_cX8_fly_0 10 rfl rfl
theorem dX8_fly_13 : decode cX8_fly 13 = .ok (.ifCond .ne 6, 3) := dq_154 bk_cX8_fly_0 13 rfl (by decide)
theorem dX8_fly_16 : decode cX8_fly 16 = .ok (.bipush (-2), 2) := dq_16 bk_cX8_fly_0 16 rfl (by decide)
theorem dX8_fly_18 : decode cX8_fly 18 = .ok (.ireturn, 1) := dk_172 (blk_at bk_cX8_fly_0 18 rfl)
theorem dX8_fly_19 : decode cX8_fly 19 = .ok (.aload_n 0, 1) := dk_42 (blk_at bk_cX8_fly_0 19 rfl)
theorem dX8_fly_20 : decode cX8_fly 20 = .ok (.iload_n 1, 1) := dk_27 (blk_at bk_cX8_fly_0 20 rfl)
theorem dX8_fly_21 : decode cX8_fly 21 = .ok (.iload_n 2, 1) := dk_28 (blk_at bk_cX8_fly_0 21 rfl)
theorem dX8_fly_22 : decode cX8_fly 22 = .ok (.invokevirtual 278, 3) := dq_182 bk_cX8_fly_0 22 rfl rfl
theorem dX8_fly_25 : decode cX8_fly 25 = .ok (.istore_n 3, 1) := dk_62 (blk_at bk_cX8_fly_0 25 rfl)
theorem dX8_fly_26 : decode cX8_fly 26 = .ok (.iload_n 3, 1) := dk_29 (blk_at bk_cX8_fly_0 26 rfl)
theorem dX8_fly_27 : decode cX8_fly 27 = .ok (.iconst 2, 1) := dk_5 (blk_at bk_cX8_fly_0 27 rfl)
theorem dX8_fly_28 : decode cX8_fly 28 = .ok (.if_icmp .eq 8, 3) := dq_159 bk_cX8_fly_0 28 rfl (by decide)
theorem dX8_fly_31 : decode cX8_fly 31 = .ok (.iload_n 3, 1) := dk_29 (blk_at bk_cX8_fly_0 31 rfl)
theorem dX8_fly_32 : decode cX8_fly 32 = .ok (.iconst 3, 1) := dk_6 (blk_at bk_cX8_fly_0 32 rfl)
theorem dX8_fly_33 : decode cX8_fly 33 = .ok (.if_icmp .ne 11, 3) := dq_160 bk_cX8_fly_0 33 rfl (by decide)
theorem dX8_fly_36 : decode cX8_fly 36 = .ok (.aload_n 0, 1) := dk_42 (blk_at bk_cX8_fly_0 36 rfl)
theorem dX8_fly_37 : decode cX8_fly 37 = .ok (.iload_n 2, 1) := dk_28 (blk_at bk_cX8_fly_0 37 rfl)
theorem bk_cX8_fly_38 : (cX8_fly.data.toList.drop 38).take 25 = [182, 1, 107, 154, 0, 6, 16, 250, 172, 42, 182, 1, 110, 42, 27, 4, 28, 120, 29, 3, 182, 1, 113, 29, 172] := by decide +kernel
theorem dX8_fly_38 : decode cX8_fly 38 = .ok (.invokevirtual 363, 3) := dq_182 bk_cX8_fly_38 0 rfl rfl
theorem dX8_fly_41 : decode cX8_fly 41 = .ok (.ifCond .ne 6, 3) := dq_154 bk_cX8_fly_38 3 rfl (by decide)
theorem dX8_fly_44 : decode cX8_fly 44 = .ok (.bipush (-6), 2) := dq_16 bk_cX8_fly_38 6 rfl (by decide)
theorem dX8_fly_46 : decode cX8_fly 46 = .ok (.ireturn, 1) := dk_172 (blk_at bk_cX8_fly_38 8 rfl)
theorem dX8_fly_47 : decode cX8_fly 47 = .ok (.aload_n 0, 1) := dk_42 (blk_at bk_cX8_fly_38 9 rfl)
theorem dX8_fly_48 : decode cX8_fly 48 = .ok (.invokevirtual 366, 3) := dq_182 bk_cX8_fly_38 10 rfl rfl
theorem dX8_fly_51 : decode cX8_fly 51 = .ok (.aload_n 0, 1) := dk_42 (blk_at bk_cX8_fly_38 13 rfl)
theorem dX8_fly_52 : decode cX8_fly 52 = .ok (.iload_n 1, 1) := dk_27 (blk_at bk_cX8_fly_38 14 rfl)
theorem dX8_fly_53 : decode cX8_fly 53 = .ok (.iconst 1, 1) := dk_4 (blk_at bk_cX8_fly_38 15 rfl)
theorem dX8_fly_54 : decode cX8_fly 54 = .ok (.iload_n 2, 1) := dk_28 (blk_at bk_cX8_fly_38 16 rfl)
theorem dX8_fly_55 : decode cX8_fly 55 = .ok (.ishl, 1) := dk_120 (blk_at bk_cX8_fly_38 17 rfl)
theorem dX8_fly_56 : decode cX8_fly 56 = .ok (.iload_n 3, 1) := dk_29 (blk_at bk_cX8_fly_38 18 rfl)
theorem dX8_fly_57 : decode cX8_fly 57 = .ok (.iconst 0, 1) := dk_3 (blk_at bk_cX8_fly_38 19 rfl)
theorem dX8_fly_58 : decode cX8_fly 58 = .ok (.invokevirtual 369, 3) := dq_182 bk_cX8_fly_38 20 rfl rfl
theorem dX8_fly_61 : decode cX8_fly 61 = .ok (.iload_n 3, 1) := dk_29 (blk_at bk_cX8_fly_38 23 rfl)
theorem dX8_fly_62 : decode cX8_fly 62 = .ok (.ireturn, 1) := dk_172 (blk_at bk_cX8_fly_38 24 rfl)
theorem bk_cX8_openFrom_0 : (cX8_openFrom.data.toList.drop 0).take 35 = [28, 42, 180, 0, 9, 3, 46, 162, 0, 26, 42, 27, 16, 7, 182, 0, 67, 28, 42, 180, 0, 9, 3, 46, 4, 100, 184, 0, 79, 126, 167, 0, 4, 3, 172] := by decide +kernel
theorem dX8_openFrom_0 : decode cX8_openFrom 0 = .ok (.iload_n 2, 1) := dk_28 (blk_at bk_cX8_openFrom_0 0 rfl)
theorem dX8_openFrom_1 : decode cX8_openFrom 1 = .ok (.aload_n 0, 1) := dk_42 (blk_at bk_cX8_openFrom_0 1 rfl)
theorem dX8_openFrom_2 : decode cX8_openFrom 2 = .ok (.getfield 9, 3) := dq_180 bk_cX8_openFrom_0 2 rfl rfl
theorem dX8_openFrom_5 : decode cX8_openFrom 5 = .ok (.iconst 0, 1) := dk_3 (blk_at bk_cX8_openFrom_0 5 rfl)
theorem dX8_openFrom_6 : decode cX8_openFrom 6 = .ok (.iaload, 1) := dk_46 (blk_at bk_cX8_openFrom_0 6 rfl)
theorem dX8_openFrom_7 : decode cX8_openFrom 7 = .ok (.if_icmp .ge 26, 3) := dq_162 bk_cX8_openFrom_0 7 rfl (by decide)
theorem dX8_openFrom_10 : decode cX8_openFrom 10 = .ok (.aload_n 0, 1) := dk_42 (blk_at bk_cX8_openFrom_0 10 rfl)
theorem dX8_openFrom_11 : decode cX8_openFrom 11 = .ok (.iload_n 1, 1) := dk_27 (blk_at bk_cX8_openFrom_0 11 rfl)
theorem dX8_openFrom_12 : decode cX8_openFrom 12 = .ok (.bipush 7, 2) := dq_16 bk_cX8_openFrom_0 12 rfl (by decide)
theorem dX8_openFrom_14 : decode cX8_openFrom 14 = .ok (.invokevirtual 67, 3) := dq_182 bk_cX8_openFrom_0 14 rfl rfl
theorem dX8_openFrom_17 : decode cX8_openFrom 17 = .ok (.iload_n 2, 1) := dk_28 (blk_at bk_cX8_openFrom_0 17 rfl)
theorem dX8_openFrom_18 : decode cX8_openFrom 18 = .ok (.aload_n 0, 1) := dk_42 (blk_at bk_cX8_openFrom_0 18 rfl)
theorem dX8_openFrom_19 : decode cX8_openFrom 19 = .ok (.getfield 9, 3) := dq_180 bk_cX8_openFrom_0 19 rfl rfl
theorem dX8_openFrom_22 : decode cX8_openFrom 22 = .ok (.iconst 0, 1) := dk_3 (blk_at bk_cX8_openFrom_0 22 rfl)
theorem dX8_openFrom_23 : decode cX8_openFrom 23 = .ok (.iaload, 1) := dk_46 (blk_at bk_cX8_openFrom_0 23 rfl)
theorem dX8_openFrom_24 : decode cX8_openFrom 24 = .ok (.iconst 1, 1) := dk_4 (blk_at bk_cX8_openFrom_0 24 rfl)
theorem dX8_openFrom_25 : decode cX8_openFrom 25 = .ok (.isub, 1) := dk_100 (blk_at bk_cX8_openFrom_0 25 rfl)
theorem dX8_openFrom_26 : decode cX8_openFrom 26 = .ok (.invokestatic 79, 3) := dq_184 bk_cX8_openFrom_0 26 rfl rfl
theorem dX8_openFrom_29 : decode cX8_openFrom 29 = .ok (.iand, 1) := dk_126 (blk_at bk_cX8_openFrom_0 29 rfl)
theorem dX8_openFrom_30 : decode cX8_openFrom 30 = .ok (.goto 4, 3) := dq_167 bk_cX8_openFrom_0 30 rfl (by decide)
theorem dX8_openFrom_33 : decode cX8_openFrom 33 = .ok (.iconst 0, 1) := dk_3 (blk_at bk_cX8_openFrom_0 33 rfl)
theorem dX8_openFrom_34 : decode cX8_openFrom 34 = .ok (.ireturn, 1) := dk_172 (blk_at bk_cX8_openFrom_0 34 rfl)
theorem bk_cX8_back_0 : (cX8_back.data.toList.drop 0).take 40 = [42, 27, 182, 1, 17, 153, 0, 11, 42, 28, 182, 0, 57, 154, 0, 6, 16, 254, 172, 28, 42, 180, 0, 9, 7, 46, 7, 96, 162, 0, 6, 16, 250, 172, 42, 27, 28, 182, 1, 117] := by decide +kernel
theorem dX8_back_0 : decode cX8_back 0 = .ok (.aload_n 0, 1) := dk_42 (blk_at bk_cX8_back_0 0 rfl)
theorem dX8_back_1 : decode cX8_back 1 = .ok (.iload_n 1, 1) := dk_27 (blk_at bk_cX8_back_0 1 rfl)
theorem dX8_back_2 : decode cX8_back 2 = .ok (.invokevirtual 273, 3) := dq_182 bk_cX8_back_0 2 rfl rfl
theorem dX8_back_5 : decode cX8_back 5 = .ok (.ifCond .eq 11, 3) := dq_153 bk_cX8_back_0 5 rfl (by decide)
theorem dX8_back_8 : decode cX8_back 8 = .ok (.aload_n 0, 1) := dk_42 (blk_at bk_cX8_back_0 8 rfl)
theorem dX8_back_9 : decode cX8_back 9 = .ok (.iload_n 2, 1) := dk_28 (blk_at bk_cX8_back_0 9 rfl)
theorem dX8_back_10 : decode cX8_back 10 = .ok (.invokevirtual 57, 3) := dq_182 bk_cX8_back_0 10 rfl rfl
theorem dX8_back_13 : decode cX8_back 13 = .ok (.ifCond .ne 6, 3) := dq_154 bk_cX8_back_0 13 rfl (by decide)
theorem dX8_back_16 : decode cX8_back 16 = .ok (.bipush (-2), 2) := dq_16 bk_cX8_back_0 16 rfl (by decide)
theorem dX8_back_18 : decode cX8_back 18 = .ok (.ireturn, 1) := dk_172 (blk_at bk_cX8_back_0 18 rfl)
theorem dX8_back_19 : decode cX8_back 19 = .ok (.iload_n 2, 1) := dk_28 (blk_at bk_cX8_back_0 19 rfl)
theorem dX8_back_20 : decode cX8_back 20 = .ok (.aload_n 0, 1) := dk_42 (blk_at bk_cX8_back_0 20 rfl)
theorem dX8_back_21 : decode cX8_back 21 = .ok (.getfield 9, 3) := dq_180 bk_cX8_back_0 21 rfl rfl
theorem dX8_back_24 : decode cX8_back 24 = .ok (.iconst 4, 1) := dk_7 (blk_at bk_cX8_back_0 24 rfl)
theorem dX8_back_25 : decode cX8_back 25 = .ok (.iaload, 1) := dk_46 (blk_at bk_cX8_back_0 25 rfl)
theorem dX8_back_26 : decode cX8_back 26 = .ok (.iconst 4, 1) := dk_7 (blk_at bk_cX8_back_0 26 rfl)
theorem dX8_back_27 : decode cX8_back 27 = .ok (.iadd, 1) := dk_96 (blk_at bk_cX8_back_0 27 rfl)
theorem dX8_back_28 : decode cX8_back 28 = .ok (.if_icmp .ge 6, 3) := dq_162 bk_cX8_back_0 28 rfl (by decide)
theorem dX8_back_31 : decode cX8_back 31 = .ok (.bipush (-6), 2) := dq_16 bk_cX8_back_0 31 rfl (by decide)
theorem dX8_back_33 : decode cX8_back 33 = .ok (.ireturn, 1) := dk_172 (blk_at bk_cX8_back_0 33 rfl)
theorem dX8_back_34 : decode cX8_back 34 = .ok (.aload_n 0, 1) := dk_42 (blk_at bk_cX8_back_0 34 rfl)
theorem dX8_back_35 : decode cX8_back 35 = .ok (.iload_n 1, 1) := dk_27 (blk_at bk_cX8_back_0 35 rfl)
theorem dX8_back_36 : decode cX8_back 36 = .ok (.iload_n 2, 1) := dk_28 (blk_at bk_cX8_back_0 36 rfl)
theorem dX8_back_37 : decode cX8_back 37 = .ok (.invokevirtual 373, 3) := dq_182 bk_cX8_back_0 37 rfl rfl
theorem bk_cX8_back_40 : (cX8_back.data.toList.drop 40).take 24 = [62, 29, 154, 0, 5, 3, 172, 42, 182, 1, 110, 42, 27, 29, 3, 7, 182, 1, 113, 29, 184, 1, 40, 172] := by decide +kernel
theorem dX8_back_40 : decode cX8_back 40 = .ok (.istore_n 3, 1) := dk_62 (blk_at bk_cX8_back_40 0 rfl)
theorem dX8_back_41 : decode cX8_back 41 = .ok (.iload_n 3, 1) := dk_29 (blk_at bk_cX8_back_40 1 rfl)
theorem dX8_back_42 : decode cX8_back 42 = .ok (.ifCond .ne 5, 3) := dq_154 bk_cX8_back_40 2 rfl (by decide)
theorem dX8_back_45 : decode cX8_back 45 = .ok (.iconst 0, 1) := dk_3 (blk_at bk_cX8_back_40 5 rfl)
theorem dX8_back_46 : decode cX8_back 46 = .ok (.ireturn, 1) := dk_172 (blk_at bk_cX8_back_40 6 rfl)
theorem dX8_back_47 : decode cX8_back 47 = .ok (.aload_n 0, 1) := dk_42 (blk_at bk_cX8_back_40 7 rfl)
theorem dX8_back_48 : decode cX8_back 48 = .ok (.invokevirtual 366, 3) := dq_182 bk_cX8_back_40 8 rfl rfl
theorem dX8_back_51 : decode cX8_back 51 = .ok (.aload_n 0, 1) := dk_42 (blk_at bk_cX8_back_40 11 rfl)
theorem dX8_back_52 : decode cX8_back 52 = .ok (.iload_n 1, 1) := dk_27 (blk_at bk_cX8_back_40 12 rfl)
theorem dX8_back_53 : decode cX8_back 53 = .ok (.iload_n 3, 1) := dk_29 (blk_at bk_cX8_back_40 13 rfl)
theorem dX8_back_54 : decode cX8_back 54 = .ok (.iconst 0, 1) := dk_3 (blk_at bk_cX8_back_40 14 rfl)
theorem dX8_back_55 : decode cX8_back 55 = .ok (.iconst 4, 1) := dk_7 (blk_at bk_cX8_back_40 15 rfl)
theorem dX8_back_56 : decode cX8_back 56 = .ok (.invokevirtual 369, 3) := dq_182 bk_cX8_back_40 16 rfl rfl
theorem dX8_back_59 : decode cX8_back 59 = .ok (.iload_n 3, 1) := dk_29 (blk_at bk_cX8_back_40 19 rfl)
theorem dX8_back_60 : decode cX8_back 60 = .ok (.invokestatic 296, 3) := dq_184 bk_cX8_back_40 20 rfl rfl
theorem dX8_back_63 : decode cX8_back 63 = .ok (.ireturn, 1) := dk_172 (blk_at bk_cX8_back_40 23 rfl)
theorem bk_cX8_gives_0 : (cX8_gives.data.toList.drop 0).take 39 = [42, 27, 182, 1, 9, 153, 0, 11, 42, 28, 182, 0, 61, 154, 0, 6, 16, 254, 172, 3, 62, 3, 54, 4, 21, 4, 42, 180, 0, 9, 5, 46, 162, 0, 81, 42, 21, 4, 3] := by decide +kernel
theorem dX8_gives_0 : decode cX8_gives 0 = .ok (.aload_n 0, 1) := dk_42 (blk_at bk_cX8_gives_0 0 rfl)
theorem dX8_gives_1 : decode cX8_gives 1 = .ok (.iload_n 1, 1) := dk_27 (blk_at bk_cX8_gives_0 1 rfl)
theorem dX8_gives_2 : decode cX8_gives 2 = .ok (.invokevirtual 265, 3) := dq_182 bk_cX8_gives_0 2 rfl rfl
theorem dX8_gives_5 : decode cX8_gives 5 = .ok (.ifCond .eq 11, 3) := dq_153 bk_cX8_gives_0 5 rfl (by decide)
theorem dX8_gives_8 : decode cX8_gives 8 = .ok (.aload_n 0, 1) := dk_42 (blk_at bk_cX8_gives_0 8 rfl)
theorem dX8_gives_9 : decode cX8_gives 9 = .ok (.iload_n 2, 1) := dk_28 (blk_at bk_cX8_gives_0 9 rfl)
theorem dX8_gives_10 : decode cX8_gives 10 = .ok (.invokevirtual 61, 3) := dq_182 bk_cX8_gives_0 10 rfl rfl
theorem dX8_gives_13 : decode cX8_gives 13 = .ok (.ifCond .ne 6, 3) := dq_154 bk_cX8_gives_0 13 rfl (by decide)
theorem dX8_gives_16 : decode cX8_gives 16 = .ok (.bipush (-2), 2) := dq_16 bk_cX8_gives_0 16 rfl (by decide)
theorem dX8_gives_18 : decode cX8_gives 18 = .ok (.ireturn, 1) := dk_172 (blk_at bk_cX8_gives_0 18 rfl)
theorem dX8_gives_19 : decode cX8_gives 19 = .ok (.iconst 0, 1) := dk_3 (blk_at bk_cX8_gives_0 19 rfl)
theorem dX8_gives_20 : decode cX8_gives 20 = .ok (.istore_n 3, 1) := dk_62 (blk_at bk_cX8_gives_0 20 rfl)
theorem dX8_gives_21 : decode cX8_gives 21 = .ok (.iconst 0, 1) := dk_3 (blk_at bk_cX8_gives_0 21 rfl)
theorem dX8_gives_22 : decode cX8_gives 22 = .ok (.istore 4, 2) := dq_54 bk_cX8_gives_0 22 rfl rfl
theorem dX8_gives_24 : decode cX8_gives 24 = .ok (.iload 4, 2) := dq_21 bk_cX8_gives_0 24 rfl rfl
theorem dX8_gives_26 : decode cX8_gives 26 = .ok (.aload_n 0, 1) := dk_42 (blk_at bk_cX8_gives_0 26 rfl)
theorem dX8_gives_27 : decode cX8_gives 27 = .ok (.getfield 9, 3) := dq_180 bk_cX8_gives_0 27 rfl rfl
theorem dX8_gives_30 : decode cX8_gives 30 = .ok (.iconst 2, 1) := dk_5 (blk_at bk_cX8_gives_0 30 rfl)
theorem dX8_gives_31 : decode cX8_gives 31 = .ok (.iaload, 1) := dk_46 (blk_at bk_cX8_gives_0 31 rfl)
theorem dX8_gives_32 : decode cX8_gives 32 = .ok (.if_icmp .ge 81, 3) := dq_162 bk_cX8_gives_0 32 rfl (by decide)
theorem dX8_gives_35 : decode cX8_gives 35 = .ok (.aload_n 0, 1) := dk_42 (blk_at bk_cX8_gives_0 35 rfl)
theorem dX8_gives_36 : decode cX8_gives 36 = .ok (.iload 4, 2) := dq_21 bk_cX8_gives_0 36 rfl rfl
theorem dX8_gives_38 : decode cX8_gives 38 = .ok (.iconst 0, 1) := dk_3 (blk_at bk_cX8_gives_0 38 rfl)
theorem bk_cX8_gives_39 : (cX8_gives.data.toList.drop 39).take 39 = [182, 0, 67, 27, 160, 0, 64, 42, 21, 4, 4, 182, 0, 67, 28, 159, 0, 6, 167, 0, 50, 42, 21, 4, 42, 180, 0, 9, 7, 46, 7, 96, 182, 1, 117, 54, 5, 21, 5] := by decide +kernel
theorem dX8_gives_39 : decode cX8_gives 39 = .ok (.invokevirtual 67, 3) := dq_182 bk_cX8_gives_39 0 rfl rfl
theorem dX8_gives_42 : decode cX8_gives 42 = .ok (.iload_n 1, 1) := dk_27 (blk_at bk_cX8_gives_39 3 rfl)
theorem dX8_gives_43 : decode cX8_gives 43 = .ok (.if_icmp .ne 64, 3) := dq_160 bk_cX8_gives_39 4 rfl (by decide)
theorem dX8_gives_46 : decode cX8_gives 46 = .ok (.aload_n 0, 1) := dk_42 (blk_at bk_cX8_gives_39 7 rfl)
theorem dX8_gives_47 : decode cX8_gives 47 = .ok (.iload 4, 2) := dq_21 bk_cX8_gives_39 8 rfl rfl
theorem dX8_gives_49 : decode cX8_gives 49 = .ok (.iconst 1, 1) := dk_4 (blk_at bk_cX8_gives_39 10 rfl)
theorem dX8_gives_50 : decode cX8_gives 50 = .ok (.invokevirtual 67, 3) := dq_182 bk_cX8_gives_39 11 rfl rfl
theorem dX8_gives_53 : decode cX8_gives 53 = .ok (.iload_n 2, 1) := dk_28 (blk_at bk_cX8_gives_39 14 rfl)
theorem dX8_gives_54 : decode cX8_gives 54 = .ok (.if_icmp .eq 6, 3) := dq_159 bk_cX8_gives_39 15 rfl (by decide)
theorem dX8_gives_57 : decode cX8_gives 57 = .ok (.goto 50, 3) := dq_167 bk_cX8_gives_39 18 rfl (by decide)
theorem dX8_gives_60 : decode cX8_gives 60 = .ok (.aload_n 0, 1) := dk_42 (blk_at bk_cX8_gives_39 21 rfl)
theorem dX8_gives_61 : decode cX8_gives 61 = .ok (.iload 4, 2) := dq_21 bk_cX8_gives_39 22 rfl rfl
theorem dX8_gives_63 : decode cX8_gives 63 = .ok (.aload_n 0, 1) := dk_42 (blk_at bk_cX8_gives_39 24 rfl)
theorem dX8_gives_64 : decode cX8_gives 64 = .ok (.getfield 9, 3) := dq_180 bk_cX8_gives_39 25 rfl rfl
theorem dX8_gives_67 : decode cX8_gives 67 = .ok (.iconst 4, 1) := dk_7 (blk_at bk_cX8_gives_39 28 rfl)
theorem dX8_gives_68 : decode cX8_gives 68 = .ok (.iaload, 1) := dk_46 (blk_at bk_cX8_gives_39 29 rfl)
theorem dX8_gives_69 : decode cX8_gives 69 = .ok (.iconst 4, 1) := dk_7 (blk_at bk_cX8_gives_39 30 rfl)
theorem dX8_gives_70 : decode cX8_gives 70 = .ok (.iadd, 1) := dk_96 (blk_at bk_cX8_gives_39 31 rfl)
theorem dX8_gives_71 : decode cX8_gives 71 = .ok (.invokevirtual 373, 3) := dq_182 bk_cX8_gives_39 32 rfl rfl
theorem dX8_gives_74 : decode cX8_gives 74 = .ok (.istore 5, 2) := dq_54 bk_cX8_gives_39 35 rfl rfl
theorem dX8_gives_76 : decode cX8_gives 76 = .ok (.iload 5, 2) := dq_21 bk_cX8_gives_39 37 rfl rfl
theorem bk_cX8_gives_78 : (cX8_gives.data.toList.drop 78).take 37 = [153, 0, 11, 29, 154, 0, 7, 42, 182, 1, 110, 29, 21, 5, 184, 1, 40, 96, 62, 42, 21, 4, 21, 5, 3, 7, 182, 1, 113, 132, 4, 1, 167, 255, 170, 29, 172] := by decide +kernel
theorem dX8_gives_78 : decode cX8_gives 78 = .ok (.ifCond .eq 11, 3) := dq_153 bk_cX8_gives_78 0 rfl (by decide)
theorem dX8_gives_81 : decode cX8_gives 81 = .ok (.iload_n 3, 1) := dk_29 (blk_at bk_cX8_gives_78 3 rfl)
theorem dX8_gives_82 : decode cX8_gives 82 = .ok (.ifCond .ne 7, 3) := dq_154 bk_cX8_gives_78 4 rfl (by decide)
theorem dX8_gives_85 : decode cX8_gives 85 = .ok (.aload_n 0, 1) := dk_42 (blk_at bk_cX8_gives_78 7 rfl)
theorem dX8_gives_86 : decode cX8_gives 86 = .ok (.invokevirtual 366, 3) := dq_182 bk_cX8_gives_78 8 rfl rfl
theorem dX8_gives_89 : decode cX8_gives 89 = .ok (.iload_n 3, 1) := dk_29 (blk_at bk_cX8_gives_78 11 rfl)
theorem dX8_gives_90 : decode cX8_gives 90 = .ok (.iload 5, 2) := dq_21 bk_cX8_gives_78 12 rfl rfl
theorem dX8_gives_92 : decode cX8_gives 92 = .ok (.invokestatic 296, 3) := dq_184 bk_cX8_gives_78 14 rfl rfl
theorem dX8_gives_95 : decode cX8_gives 95 = .ok (.iadd, 1) := dk_96 (blk_at bk_cX8_gives_78 17 rfl)
theorem dX8_gives_96 : decode cX8_gives 96 = .ok (.istore_n 3, 1) := dk_62 (blk_at bk_cX8_gives_78 18 rfl)
theorem dX8_gives_97 : decode cX8_gives 97 = .ok (.aload_n 0, 1) := dk_42 (blk_at bk_cX8_gives_78 19 rfl)
theorem dX8_gives_98 : decode cX8_gives 98 = .ok (.iload 4, 2) := dq_21 bk_cX8_gives_78 20 rfl rfl
theorem dX8_gives_100 : decode cX8_gives 100 = .ok (.iload 5, 2) := dq_21 bk_cX8_gives_78 22 rfl rfl
theorem dX8_gives_102 : decode cX8_gives 102 = .ok (.iconst 0, 1) := dk_3 (blk_at bk_cX8_gives_78 24 rfl)
theorem dX8_gives_103 : decode cX8_gives 103 = .ok (.iconst 4, 1) := dk_7 (blk_at bk_cX8_gives_78 25 rfl)
theorem dX8_gives_104 : decode cX8_gives 104 = .ok (.invokevirtual 369, 3) := dq_182 bk_cX8_gives_78 26 rfl rfl
theorem dX8_gives_107 : decode cX8_gives 107 = .ok (.iinc 4 1, 3) := dq_132 bk_cX8_gives_78 29 rfl rfl (by decide)
theorem dX8_gives_110 : decode cX8_gives 110 = .ok (.goto (-86), 3) := dq_167 bk_cX8_gives_78 32 rfl (by decide)
theorem dX8_gives_113 : decode cX8_gives 113 = .ok (.iload_n 3, 1) := dk_29 (blk_at bk_cX8_gives_78 35 rfl)
theorem dX8_gives_114 : decode cX8_gives 114 = .ok (.ireturn, 1) := dk_172 (blk_at bk_cX8_gives_78 36 rfl)
theorem bk_cX8_tick_0 : (cX8_tick.data.toList.drop 0).take 40 = [42, 182, 0, 49, 154, 0, 6, 16, 254, 172, 42, 180, 0, 9, 7, 46, 42, 180, 0, 9, 3, 46, 160, 0, 5, 2, 172, 42, 182, 1, 110, 3, 60, 27, 42, 180, 0, 9, 5, 46] := by decide +kernel
theorem dX8_tick_0 : decode cX8_tick 0 = .ok (.aload_n 0, 1) := dk_42 (blk_at bk_cX8_tick_0 0 rfl)
theorem dX8_tick_1 : decode cX8_tick 1 = .ok (.invokevirtual 49, 3) := dq_182 bk_cX8_tick_0 1 rfl rfl
theorem dX8_tick_4 : decode cX8_tick 4 = .ok (.ifCond .ne 6, 3) := dq_154 bk_cX8_tick_0 4 rfl (by decide)
theorem dX8_tick_7 : decode cX8_tick 7 = .ok (.bipush (-2), 2) := dq_16 bk_cX8_tick_0 7 rfl (by decide)
theorem dX8_tick_9 : decode cX8_tick 9 = .ok (.ireturn, 1) := dk_172 (blk_at bk_cX8_tick_0 9 rfl)
theorem dX8_tick_10 : decode cX8_tick 10 = .ok (.aload_n 0, 1) := dk_42 (blk_at bk_cX8_tick_0 10 rfl)
theorem dX8_tick_11 : decode cX8_tick 11 = .ok (.getfield 9, 3) := dq_180 bk_cX8_tick_0 11 rfl rfl
theorem dX8_tick_14 : decode cX8_tick 14 = .ok (.iconst 4, 1) := dk_7 (blk_at bk_cX8_tick_0 14 rfl)
theorem dX8_tick_15 : decode cX8_tick 15 = .ok (.iaload, 1) := dk_46 (blk_at bk_cX8_tick_0 15 rfl)
theorem dX8_tick_16 : decode cX8_tick 16 = .ok (.aload_n 0, 1) := dk_42 (blk_at bk_cX8_tick_0 16 rfl)
theorem dX8_tick_17 : decode cX8_tick 17 = .ok (.getfield 9, 3) := dq_180 bk_cX8_tick_0 17 rfl rfl
theorem dX8_tick_20 : decode cX8_tick 20 = .ok (.iconst 0, 1) := dk_3 (blk_at bk_cX8_tick_0 20 rfl)
theorem dX8_tick_21 : decode cX8_tick 21 = .ok (.iaload, 1) := dk_46 (blk_at bk_cX8_tick_0 21 rfl)
theorem dX8_tick_22 : decode cX8_tick 22 = .ok (.if_icmp .ne 5, 3) := dq_160 bk_cX8_tick_0 22 rfl (by decide)
theorem dX8_tick_25 : decode cX8_tick 25 = .ok (.iconst (-1), 1) := dk_2 (blk_at bk_cX8_tick_0 25 rfl)
theorem dX8_tick_26 : decode cX8_tick 26 = .ok (.ireturn, 1) := dk_172 (blk_at bk_cX8_tick_0 26 rfl)
theorem dX8_tick_27 : decode cX8_tick 27 = .ok (.aload_n 0, 1) := dk_42 (blk_at bk_cX8_tick_0 27 rfl)
theorem dX8_tick_28 : decode cX8_tick 28 = .ok (.invokevirtual 366, 3) := dq_182 bk_cX8_tick_0 28 rfl rfl
theorem dX8_tick_31 : decode cX8_tick 31 = .ok (.iconst 0, 1) := dk_3 (blk_at bk_cX8_tick_0 31 rfl)
theorem dX8_tick_32 : decode cX8_tick 32 = .ok (.istore_n 1, 1) := dk_60 (blk_at bk_cX8_tick_0 32 rfl)
theorem dX8_tick_33 : decode cX8_tick 33 = .ok (.iload_n 1, 1) := dk_27 (blk_at bk_cX8_tick_0 33 rfl)
theorem dX8_tick_34 : decode cX8_tick 34 = .ok (.aload_n 0, 1) := dk_42 (blk_at bk_cX8_tick_0 34 rfl)
theorem dX8_tick_35 : decode cX8_tick 35 = .ok (.getfield 9, 3) := dq_180 bk_cX8_tick_0 35 rfl rfl
theorem dX8_tick_38 : decode cX8_tick 38 = .ok (.iconst 2, 1) := dk_5 (blk_at bk_cX8_tick_0 38 rfl)
theorem dX8_tick_39 : decode cX8_tick 39 = .ok (.iaload, 1) := dk_46 (blk_at bk_cX8_tick_0 39 rfl)
theorem bk_cX8_tick_40 : (cX8_tick.data.toList.drop 40).take 40 = [162, 0, 32, 42, 27, 42, 27, 16, 7, 182, 0, 67, 4, 42, 180, 0, 9, 7, 46, 120, 126, 3, 4, 182, 1, 113, 132, 1, 1, 167, 255, 220, 42, 180, 0, 9, 7, 92, 46, 4] := by decide +kernel
theorem dX8_tick_40 : decode cX8_tick 40 = .ok (.if_icmp .ge 32, 3) := dq_162 bk_cX8_tick_40 0 rfl (by decide)
theorem dX8_tick_43 : decode cX8_tick 43 = .ok (.aload_n 0, 1) := dk_42 (blk_at bk_cX8_tick_40 3 rfl)
theorem dX8_tick_44 : decode cX8_tick 44 = .ok (.iload_n 1, 1) := dk_27 (blk_at bk_cX8_tick_40 4 rfl)
theorem dX8_tick_45 : decode cX8_tick 45 = .ok (.aload_n 0, 1) := dk_42 (blk_at bk_cX8_tick_40 5 rfl)
theorem dX8_tick_46 : decode cX8_tick 46 = .ok (.iload_n 1, 1) := dk_27 (blk_at bk_cX8_tick_40 6 rfl)
theorem dX8_tick_47 : decode cX8_tick 47 = .ok (.bipush 7, 2) := dq_16 bk_cX8_tick_40 7 rfl (by decide)
theorem dX8_tick_49 : decode cX8_tick 49 = .ok (.invokevirtual 67, 3) := dq_182 bk_cX8_tick_40 9 rfl rfl
theorem dX8_tick_52 : decode cX8_tick 52 = .ok (.iconst 1, 1) := dk_4 (blk_at bk_cX8_tick_40 12 rfl)
theorem dX8_tick_53 : decode cX8_tick 53 = .ok (.aload_n 0, 1) := dk_42 (blk_at bk_cX8_tick_40 13 rfl)
theorem dX8_tick_54 : decode cX8_tick 54 = .ok (.getfield 9, 3) := dq_180 bk_cX8_tick_40 14 rfl rfl
theorem dX8_tick_57 : decode cX8_tick 57 = .ok (.iconst 4, 1) := dk_7 (blk_at bk_cX8_tick_40 17 rfl)
theorem dX8_tick_58 : decode cX8_tick 58 = .ok (.iaload, 1) := dk_46 (blk_at bk_cX8_tick_40 18 rfl)
theorem dX8_tick_59 : decode cX8_tick 59 = .ok (.ishl, 1) := dk_120 (blk_at bk_cX8_tick_40 19 rfl)
theorem dX8_tick_60 : decode cX8_tick 60 = .ok (.iand, 1) := dk_126 (blk_at bk_cX8_tick_40 20 rfl)
theorem dX8_tick_61 : decode cX8_tick 61 = .ok (.iconst 0, 1) := dk_3 (blk_at bk_cX8_tick_40 21 rfl)
theorem dX8_tick_62 : decode cX8_tick 62 = .ok (.iconst 1, 1) := dk_4 (blk_at bk_cX8_tick_40 22 rfl)
theorem dX8_tick_63 : decode cX8_tick 63 = .ok (.invokevirtual 369, 3) := dq_182 bk_cX8_tick_40 23 rfl rfl
theorem dX8_tick_66 : decode cX8_tick 66 = .ok (.iinc 1 1, 3) := dq_132 bk_cX8_tick_40 26 rfl rfl (by decide)
theorem dX8_tick_69 : decode cX8_tick 69 = .ok (.goto (-36), 3) := dq_167 bk_cX8_tick_40 29 rfl (by decide)
theorem dX8_tick_72 : decode cX8_tick 72 = .ok (.aload_n 0, 1) := dk_42 (blk_at bk_cX8_tick_40 32 rfl)
theorem dX8_tick_73 : decode cX8_tick 73 = .ok (.getfield 9, 3) := dq_180 bk_cX8_tick_40 33 rfl rfl
theorem dX8_tick_76 : decode cX8_tick 76 = .ok (.iconst 4, 1) := dk_7 (blk_at bk_cX8_tick_40 36 rfl)
theorem dX8_tick_77 : decode cX8_tick 77 = .ok (.dup2, 1) := dk_92 (blk_at bk_cX8_tick_40 37 rfl)
theorem dX8_tick_78 : decode cX8_tick 78 = .ok (.iaload, 1) := dk_46 (blk_at bk_cX8_tick_40 38 rfl)
theorem dX8_tick_79 : decode cX8_tick 79 = .ok (.iconst 1, 1) := dk_4 (blk_at bk_cX8_tick_40 39 rfl)
theorem bk_cX8_tick_80 : (cX8_tick.data.toList.drop 80).take 9 = [96, 79, 42, 180, 0, 9, 7, 46, 172] := by decide +kernel
theorem dX8_tick_80 : decode cX8_tick 80 = .ok (.iadd, 1) := dk_96 (blk_at bk_cX8_tick_80 0 rfl)
theorem dX8_tick_81 : decode cX8_tick 81 = .ok (.iastore, 1) := dk_79 (blk_at bk_cX8_tick_80 1 rfl)
theorem dX8_tick_82 : decode cX8_tick 82 = .ok (.aload_n 0, 1) := dk_42 (blk_at bk_cX8_tick_80 2 rfl)
theorem dX8_tick_83 : decode cX8_tick 83 = .ok (.getfield 9, 3) := dq_180 bk_cX8_tick_80 3 rfl rfl
theorem dX8_tick_86 : decode cX8_tick 86 = .ok (.iconst 4, 1) := dk_7 (blk_at bk_cX8_tick_80 6 rfl)
theorem dX8_tick_87 : decode cX8_tick 87 = .ok (.iaload, 1) := dk_46 (blk_at bk_cX8_tick_80 7 rfl)
theorem dX8_tick_88 : decode cX8_tick 88 = .ok (.ireturn, 1) := dk_172 (blk_at bk_cX8_tick_80 8 rfl)
theorem bk_cX8_pool_0 : (cX8_pool.data.toList.drop 0).take 40 = [42, 182, 0, 49, 154, 0, 6, 16, 254, 172, 42, 2, 182, 1, 98, 60, 27, 154, 0, 5, 3, 172, 42, 182, 1, 110, 3, 61, 28, 17, 2, 6, 162, 0, 21, 42, 180, 0, 9, 28] := by decide +kernel
theorem dX8_pool_0 : decode cX8_pool 0 = .ok (.aload_n 0, 1) := dk_42 (blk_at bk_cX8_pool_0 0 rfl)
theorem dX8_pool_1 : decode cX8_pool 1 = .ok (.invokevirtual 49, 3) := dq_182 bk_cX8_pool_0 1 rfl rfl
theorem dX8_pool_4 : decode cX8_pool 4 = .ok (.ifCond .ne 6, 3) := dq_154 bk_cX8_pool_0 4 rfl (by decide)
theorem dX8_pool_7 : decode cX8_pool 7 = .ok (.bipush (-2), 2) := dq_16 bk_cX8_pool_0 7 rfl (by decide)
theorem dX8_pool_9 : decode cX8_pool 9 = .ok (.ireturn, 1) := dk_172 (blk_at bk_cX8_pool_0 9 rfl)
theorem dX8_pool_10 : decode cX8_pool 10 = .ok (.aload_n 0, 1) := dk_42 (blk_at bk_cX8_pool_0 10 rfl)
theorem dX8_pool_11 : decode cX8_pool 11 = .ok (.iconst (-1), 1) := dk_2 (blk_at bk_cX8_pool_0 11 rfl)
theorem dX8_pool_12 : decode cX8_pool 12 = .ok (.invokevirtual 354, 3) := dq_182 bk_cX8_pool_0 12 rfl rfl
theorem dX8_pool_15 : decode cX8_pool 15 = .ok (.istore_n 1, 1) := dk_60 (blk_at bk_cX8_pool_0 15 rfl)
theorem dX8_pool_16 : decode cX8_pool 16 = .ok (.iload_n 1, 1) := dk_27 (blk_at bk_cX8_pool_0 16 rfl)
theorem dX8_pool_17 : decode cX8_pool 17 = .ok (.ifCond .ne 5, 3) := dq_154 bk_cX8_pool_0 17 rfl (by decide)
theorem dX8_pool_20 : decode cX8_pool 20 = .ok (.iconst 0, 1) := dk_3 (blk_at bk_cX8_pool_0 20 rfl)
theorem dX8_pool_21 : decode cX8_pool 21 = .ok (.ireturn, 1) := dk_172 (blk_at bk_cX8_pool_0 21 rfl)
theorem dX8_pool_22 : decode cX8_pool 22 = .ok (.aload_n 0, 1) := dk_42 (blk_at bk_cX8_pool_0 22 rfl)
theorem dX8_pool_23 : decode cX8_pool 23 = .ok (.invokevirtual 366, 3) := dq_182 bk_cX8_pool_0 23 rfl rfl
theorem dX8_pool_26 : decode cX8_pool 26 = .ok (.iconst 0, 1) := dk_3 (blk_at bk_cX8_pool_0 26 rfl)
theorem dX8_pool_27 : decode cX8_pool 27 = .ok (.istore_n 2, 1) := dk_61 (blk_at bk_cX8_pool_0 27 rfl)
theorem dX8_pool_28 : decode cX8_pool 28 = .ok (.iload_n 2, 1) := dk_28 (blk_at bk_cX8_pool_0 28 rfl)
theorem dX8_pool_29 : decode cX8_pool 29 = .ok (.sipush 518, 3) := dq_17 bk_cX8_pool_0 29 rfl (by decide)
theorem dX8_pool_32 : decode cX8_pool 32 = .ok (.if_icmp .ge 21, 3) := dq_162 bk_cX8_pool_0 32 rfl (by decide)
theorem dX8_pool_35 : decode cX8_pool 35 = .ok (.aload_n 0, 1) := dk_42 (blk_at bk_cX8_pool_0 35 rfl)
theorem dX8_pool_36 : decode cX8_pool 36 = .ok (.getfield 9, 3) := dq_180 bk_cX8_pool_0 36 rfl rfl
theorem dX8_pool_39 : decode cX8_pool 39 = .ok (.iload_n 2, 1) := dk_28 (blk_at bk_cX8_pool_0 39 rfl)
theorem bk_cX8_pool_40 : (cX8_pool.data.toList.drop 40).take 38 = [42, 180, 0, 13, 28, 46, 79, 132, 2, 1, 167, 255, 234, 16, 23, 61, 28, 155, 0, 24, 42, 180, 0, 33, 28, 46, 2, 159, 0, 8, 42, 28, 182, 1, 120, 132, 2, 255] := by decide +kernel
theorem dX8_pool_40 : decode cX8_pool 40 = .ok (.aload_n 0, 1) := dk_42 (blk_at bk_cX8_pool_40 0 rfl)
theorem dX8_pool_41 : decode cX8_pool 41 = .ok (.getfield 13, 3) := dq_180 bk_cX8_pool_40 1 rfl rfl
theorem dX8_pool_44 : decode cX8_pool 44 = .ok (.iload_n 2, 1) := dk_28 (blk_at bk_cX8_pool_40 4 rfl)
theorem dX8_pool_45 : decode cX8_pool 45 = .ok (.iaload, 1) := dk_46 (blk_at bk_cX8_pool_40 5 rfl)
theorem dX8_pool_46 : decode cX8_pool 46 = .ok (.iastore, 1) := dk_79 (blk_at bk_cX8_pool_40 6 rfl)
theorem dX8_pool_47 : decode cX8_pool 47 = .ok (.iinc 2 1, 3) := dq_132 bk_cX8_pool_40 7 rfl rfl (by decide)
theorem dX8_pool_50 : decode cX8_pool 50 = .ok (.goto (-22), 3) := dq_167 bk_cX8_pool_40 10 rfl (by decide)
theorem dX8_pool_53 : decode cX8_pool 53 = .ok (.bipush 23, 2) := dq_16 bk_cX8_pool_40 13 rfl (by decide)
theorem dX8_pool_55 : decode cX8_pool 55 = .ok (.istore_n 2, 1) := dk_61 (blk_at bk_cX8_pool_40 15 rfl)
theorem dX8_pool_56 : decode cX8_pool 56 = .ok (.iload_n 2, 1) := dk_28 (blk_at bk_cX8_pool_40 16 rfl)
theorem dX8_pool_57 : decode cX8_pool 57 = .ok (.ifCond .lt 24, 3) := dq_155 bk_cX8_pool_40 17 rfl (by decide)
theorem dX8_pool_60 : decode cX8_pool 60 = .ok (.aload_n 0, 1) := dk_42 (blk_at bk_cX8_pool_40 20 rfl)
theorem dX8_pool_61 : decode cX8_pool 61 = .ok (.getfield 33, 3) := dq_180 bk_cX8_pool_40 21 rfl rfl
theorem dX8_pool_64 : decode cX8_pool 64 = .ok (.iload_n 2, 1) := dk_28 (blk_at bk_cX8_pool_40 24 rfl)
theorem dX8_pool_65 : decode cX8_pool 65 = .ok (.iaload, 1) := dk_46 (blk_at bk_cX8_pool_40 25 rfl)
theorem dX8_pool_66 : decode cX8_pool 66 = .ok (.iconst (-1), 1) := dk_2 (blk_at bk_cX8_pool_40 26 rfl)
theorem dX8_pool_67 : decode cX8_pool 67 = .ok (.if_icmp .eq 8, 3) := dq_159 bk_cX8_pool_40 27 rfl (by decide)
theorem dX8_pool_70 : decode cX8_pool 70 = .ok (.aload_n 0, 1) := dk_42 (blk_at bk_cX8_pool_40 30 rfl)
theorem dX8_pool_71 : decode cX8_pool 71 = .ok (.iload_n 2, 1) := dk_28 (blk_at bk_cX8_pool_40 31 rfl)
theorem dX8_pool_72 : decode cX8_pool 72 = .ok (.invokevirtual 376, 3) := dq_182 bk_cX8_pool_40 32 rfl rfl
theorem dX8_pool_75 : decode cX8_pool 75 = .ok (.iinc 2 (-1), 3) := dq_132 bk_cX8_pool_40 35 rfl rfl (by decide)
theorem bk_cX8_pool_78 : (cX8_pool.data.toList.drop 78).take 5 = [167, 255, 234, 27, 172] := by decide +kernel
theorem dX8_pool_78 : decode cX8_pool 78 = .ok (.goto (-22), 3) := dq_167 bk_cX8_pool_78 0 rfl (by decide)
theorem dX8_pool_81 : decode cX8_pool 81 = .ok (.iload_n 1, 1) := dk_27 (blk_at bk_cX8_pool_78 3 rfl)
theorem dX8_pool_82 : decode cX8_pool 82 = .ok (.ireturn, 1) := dk_172 (blk_at bk_cX8_pool_78 4 rfl)
theorem bk_cX8_dropsAsk_0 : (cX8_dropsAsk.data.toList.drop 0).take 38 = [17, 1, 94, 16, 7, 27, 104, 96, 61, 28, 17, 1, 255, 162, 0, 24, 42, 180, 0, 9, 28, 42, 180, 0, 9, 28, 16, 7, 96, 46, 79, 132, 2, 1, 167, 255, 231, 42] := by decide +kernel
theorem dX8_dropsAsk_0 : decode cX8_dropsAsk 0 = .ok (.sipush 350, 3) := dq_17 bk_cX8_dropsAsk_0 0 rfl (by decide)
theorem dX8_dropsAsk_3 : decode cX8_dropsAsk 3 = .ok (.bipush 7, 2) := dq_16 bk_cX8_dropsAsk_0 3 rfl (by decide)
theorem dX8_dropsAsk_5 : decode cX8_dropsAsk 5 = .ok (.iload_n 1, 1) := dk_27 (blk_at bk_cX8_dropsAsk_0 5 rfl)
theorem dX8_dropsAsk_6 : decode cX8_dropsAsk 6 = .ok (.imul, 1) := dk_104 (blk_at bk_cX8_dropsAsk_0 6 rfl)
theorem dX8_dropsAsk_7 : decode cX8_dropsAsk 7 = .ok (.iadd, 1) := dk_96 (blk_at bk_cX8_dropsAsk_0 7 rfl)
theorem dX8_dropsAsk_8 : decode cX8_dropsAsk 8 = .ok (.istore_n 2, 1) := dk_61 (blk_at bk_cX8_dropsAsk_0 8 rfl)
theorem dX8_dropsAsk_9 : decode cX8_dropsAsk 9 = .ok (.iload_n 2, 1) := dk_28 (blk_at bk_cX8_dropsAsk_0 9 rfl)
theorem dX8_dropsAsk_10 : decode cX8_dropsAsk 10 = .ok (.sipush 511, 3) := dq_17 bk_cX8_dropsAsk_0 10 rfl (by decide)
theorem dX8_dropsAsk_13 : decode cX8_dropsAsk 13 = .ok (.if_icmp .ge 24, 3) := dq_162 bk_cX8_dropsAsk_0 13 rfl (by decide)
theorem dX8_dropsAsk_16 : decode cX8_dropsAsk 16 = .ok (.aload_n 0, 1) := dk_42 (blk_at bk_cX8_dropsAsk_0 16 rfl)
theorem dX8_dropsAsk_17 : decode cX8_dropsAsk 17 = .ok (.getfield 9, 3) := dq_180 bk_cX8_dropsAsk_0 17 rfl rfl
theorem dX8_dropsAsk_20 : decode cX8_dropsAsk 20 = .ok (.iload_n 2, 1) := dk_28 (blk_at bk_cX8_dropsAsk_0 20 rfl)
theorem dX8_dropsAsk_21 : decode cX8_dropsAsk 21 = .ok (.aload_n 0, 1) := dk_42 (blk_at bk_cX8_dropsAsk_0 21 rfl)
theorem dX8_dropsAsk_22 : decode cX8_dropsAsk 22 = .ok (.getfield 9, 3) := dq_180 bk_cX8_dropsAsk_0 22 rfl rfl
theorem dX8_dropsAsk_25 : decode cX8_dropsAsk 25 = .ok (.iload_n 2, 1) := dk_28 (blk_at bk_cX8_dropsAsk_0 25 rfl)
theorem dX8_dropsAsk_26 : decode cX8_dropsAsk 26 = .ok (.bipush 7, 2) := dq_16 bk_cX8_dropsAsk_0 26 rfl (by decide)
theorem dX8_dropsAsk_28 : decode cX8_dropsAsk 28 = .ok (.iadd, 1) := dk_96 (blk_at bk_cX8_dropsAsk_0 28 rfl)
theorem dX8_dropsAsk_29 : decode cX8_dropsAsk 29 = .ok (.iaload, 1) := dk_46 (blk_at bk_cX8_dropsAsk_0 29 rfl)
theorem dX8_dropsAsk_30 : decode cX8_dropsAsk 30 = .ok (.iastore, 1) := dk_79 (blk_at bk_cX8_dropsAsk_0 30 rfl)
theorem dX8_dropsAsk_31 : decode cX8_dropsAsk 31 = .ok (.iinc 2 1, 3) := dq_132 bk_cX8_dropsAsk_0 31 rfl rfl (by decide)
theorem dX8_dropsAsk_34 : decode cX8_dropsAsk 34 = .ok (.goto (-25), 3) := dq_167 bk_cX8_dropsAsk_0 34 rfl (by decide)
theorem dX8_dropsAsk_37 : decode cX8_dropsAsk 37 = .ok (.aload_n 0, 1) := dk_42 (blk_at bk_cX8_dropsAsk_0 37 rfl)
theorem bk_cX8_dropsAsk_38 : (cX8_dropsAsk.data.toList.drop 38).take 10 = [180, 0, 9, 6, 92, 46, 4, 100, 79, 177] := by decide +kernel
theorem dX8_dropsAsk_38 : decode cX8_dropsAsk 38 = .ok (.getfield 9, 3) := dq_180 bk_cX8_dropsAsk_38 0 rfl rfl
theorem dX8_dropsAsk_41 : decode cX8_dropsAsk 41 = .ok (.iconst 3, 1) := dk_6 (blk_at bk_cX8_dropsAsk_38 3 rfl)
theorem dX8_dropsAsk_42 : decode cX8_dropsAsk 42 = .ok (.dup2, 1) := dk_92 (blk_at bk_cX8_dropsAsk_38 4 rfl)
theorem dX8_dropsAsk_43 : decode cX8_dropsAsk 43 = .ok (.iaload, 1) := dk_46 (blk_at bk_cX8_dropsAsk_38 5 rfl)
theorem dX8_dropsAsk_44 : decode cX8_dropsAsk 44 = .ok (.iconst 1, 1) := dk_4 (blk_at bk_cX8_dropsAsk_38 6 rfl)
theorem dX8_dropsAsk_45 : decode cX8_dropsAsk 45 = .ok (.isub, 1) := dk_100 (blk_at bk_cX8_dropsAsk_38 7 rfl)
theorem dX8_dropsAsk_46 : decode cX8_dropsAsk 46 = .ok (.iastore, 1) := dk_79 (blk_at bk_cX8_dropsAsk_38 8 rfl)
theorem dX8_dropsAsk_47 : decode cX8_dropsAsk 47 = .ok (.return_, 1) := dk_177 (blk_at bk_cX8_dropsAsk_38 9 rfl)
theorem bk_cX8_retime_0 : (cX8_retime.data.toList.drop 0).take 38 = [42, 27, 182, 1, 17, 153, 0, 11, 42, 28, 182, 0, 64, 154, 0, 6, 16, 254, 172, 42, 27, 28, 182, 1, 101, 154, 0, 6, 16, 250, 172, 42, 182, 1, 110, 42, 27, 5] := by decide +kernel
theorem dX8_retime_0 : decode cX8_retime 0 = .ok (.aload_n 0, 1) := dk_42 (blk_at bk_cX8_retime_0 0 rfl)
theorem dX8_retime_1 : decode cX8_retime 1 = .ok (.iload_n 1, 1) := dk_27 (blk_at bk_cX8_retime_0 1 rfl)
theorem dX8_retime_2 : decode cX8_retime 2 = .ok (.invokevirtual 273, 3) := dq_182 bk_cX8_retime_0 2 rfl rfl
theorem dX8_retime_5 : decode cX8_retime 5 = .ok (.ifCond .eq 11, 3) := dq_153 bk_cX8_retime_0 5 rfl (by decide)
theorem dX8_retime_8 : decode cX8_retime 8 = .ok (.aload_n 0, 1) := dk_42 (blk_at bk_cX8_retime_0 8 rfl)
theorem dX8_retime_9 : decode cX8_retime 9 = .ok (.iload_n 2, 1) := dk_28 (blk_at bk_cX8_retime_0 9 rfl)
theorem dX8_retime_10 : decode cX8_retime 10 = .ok (.invokevirtual 64, 3) := dq_182 bk_cX8_retime_0 10 rfl rfl
theorem dX8_retime_13 : decode cX8_retime 13 = .ok (.ifCond .ne 6, 3) := dq_154 bk_cX8_retime_0 13 rfl (by decide)
theorem dX8_retime_16 : decode cX8_retime 16 = .ok (.bipush (-2), 2) := dq_16 bk_cX8_retime_0 16 rfl (by decide)
theorem dX8_retime_18 : decode cX8_retime 18 = .ok (.ireturn, 1) := dk_172 (blk_at bk_cX8_retime_0 18 rfl)
theorem dX8_retime_19 : decode cX8_retime 19 = .ok (.aload_n 0, 1) := dk_42 (blk_at bk_cX8_retime_0 19 rfl)
theorem dX8_retime_20 : decode cX8_retime 20 = .ok (.iload_n 1, 1) := dk_27 (blk_at bk_cX8_retime_0 20 rfl)
theorem dX8_retime_21 : decode cX8_retime 21 = .ok (.iload_n 2, 1) := dk_28 (blk_at bk_cX8_retime_0 21 rfl)
theorem dX8_retime_22 : decode cX8_retime 22 = .ok (.invokevirtual 357, 3) := dq_182 bk_cX8_retime_0 22 rfl rfl
theorem dX8_retime_25 : decode cX8_retime 25 = .ok (.ifCond .ne 6, 3) := dq_154 bk_cX8_retime_0 25 rfl (by decide)
theorem dX8_retime_28 : decode cX8_retime 28 = .ok (.bipush (-6), 2) := dq_16 bk_cX8_retime_0 28 rfl (by decide)
theorem dX8_retime_30 : decode cX8_retime 30 = .ok (.ireturn, 1) := dk_172 (blk_at bk_cX8_retime_0 30 rfl)
theorem dX8_retime_31 : decode cX8_retime 31 = .ok (.aload_n 0, 1) := dk_42 (blk_at bk_cX8_retime_0 31 rfl)
theorem dX8_retime_32 : decode cX8_retime 32 = .ok (.invokevirtual 366, 3) := dq_182 bk_cX8_retime_0 32 rfl rfl
theorem dX8_retime_35 : decode cX8_retime 35 = .ok (.aload_n 0, 1) := dk_42 (blk_at bk_cX8_retime_0 35 rfl)
theorem dX8_retime_36 : decode cX8_retime 36 = .ok (.iload_n 1, 1) := dk_27 (blk_at bk_cX8_retime_0 36 rfl)
theorem dX8_retime_37 : decode cX8_retime 37 = .ok (.iconst 2, 1) := dk_5 (blk_at bk_cX8_retime_0 37 rfl)
theorem bk_cX8_retime_38 : (cX8_retime.data.toList.drop 38).take 13 = [182, 0, 67, 62, 42, 27, 5, 28, 182, 0, 230, 29, 172] := by decide +kernel
theorem dX8_retime_38 : decode cX8_retime 38 = .ok (.invokevirtual 67, 3) := dq_182 bk_cX8_retime_38 0 rfl rfl
theorem dX8_retime_41 : decode cX8_retime 41 = .ok (.istore_n 3, 1) := dk_62 (blk_at bk_cX8_retime_38 3 rfl)
theorem dX8_retime_42 : decode cX8_retime 42 = .ok (.aload_n 0, 1) := dk_42 (blk_at bk_cX8_retime_38 4 rfl)
theorem dX8_retime_43 : decode cX8_retime 43 = .ok (.iload_n 1, 1) := dk_27 (blk_at bk_cX8_retime_38 5 rfl)
theorem dX8_retime_44 : decode cX8_retime 44 = .ok (.iconst 2, 1) := dk_5 (blk_at bk_cX8_retime_38 6 rfl)
theorem dX8_retime_45 : decode cX8_retime 45 = .ok (.iload_n 2, 1) := dk_28 (blk_at bk_cX8_retime_38 7 rfl)
theorem dX8_retime_46 : decode cX8_retime 46 = .ok (.invokevirtual 230, 3) := dq_182 bk_cX8_retime_38 8 rfl rfl
theorem dX8_retime_49 : decode cX8_retime 49 = .ok (.iload_n 3, 1) := dk_29 (blk_at bk_cX8_retime_38 11 rfl)
theorem dX8_retime_50 : decode cX8_retime 50 = .ok (.ireturn, 1) := dk_172 (blk_at bk_cX8_retime_38 12 rfl)
theorem bk_cX8_isNew_0 : (cX8_isNew.data.toList.drop 0).take 16 = [42, 27, 7, 182, 0, 67, 4, 160, 0, 7, 4, 167, 0, 4, 3, 172] := by decide +kernel
theorem dX8_isNew_0 : decode cX8_isNew 0 = .ok (.aload_n 0, 1) := dk_42 (blk_at bk_cX8_isNew_0 0 rfl)
theorem dX8_isNew_1 : decode cX8_isNew 1 = .ok (.iload_n 1, 1) := dk_27 (blk_at bk_cX8_isNew_0 1 rfl)
theorem dX8_isNew_2 : decode cX8_isNew 2 = .ok (.iconst 4, 1) := dk_7 (blk_at bk_cX8_isNew_0 2 rfl)
theorem dX8_isNew_3 : decode cX8_isNew 3 = .ok (.invokevirtual 67, 3) := dq_182 bk_cX8_isNew_0 3 rfl rfl
theorem dX8_isNew_6 : decode cX8_isNew 6 = .ok (.iconst 1, 1) := dk_4 (blk_at bk_cX8_isNew_0 6 rfl)
theorem dX8_isNew_7 : decode cX8_isNew 7 = .ok (.if_icmp .ne 7, 3) := dq_160 bk_cX8_isNew_0 7 rfl (by decide)
theorem dX8_isNew_10 : decode cX8_isNew 10 = .ok (.iconst 1, 1) := dk_4 (blk_at bk_cX8_isNew_0 10 rfl)
theorem dX8_isNew_11 : decode cX8_isNew 11 = .ok (.goto 4, 3) := dq_167 bk_cX8_isNew_0 11 rfl (by decide)
theorem dX8_isNew_14 : decode cX8_isNew 14 = .ok (.iconst 0, 1) := dk_3 (blk_at bk_cX8_isNew_0 14 rfl)
theorem dX8_isNew_15 : decode cX8_isNew 15 = .ok (.ireturn, 1) := dk_172 (blk_at bk_cX8_isNew_0 15 rfl)
theorem bk_cX8_changesOver_0 : (cX8_changesOver.data.toList.drop 0).take 38 = [4, 62, 29, 6, 163, 0, 37, 42, 27, 29, 182, 0, 67, 54, 4, 42, 27, 29, 42, 28, 29, 182, 0, 67, 182, 0, 230, 42, 28, 29, 21, 4, 182, 0, 230, 132, 3, 1] := by decide +kernel
theorem dX8_changesOver_0 : decode cX8_changesOver 0 = .ok (.iconst 1, 1) := dk_4 (blk_at bk_cX8_changesOver_0 0 rfl)
theorem dX8_changesOver_1 : decode cX8_changesOver 1 = .ok (.istore_n 3, 1) := dk_62 (blk_at bk_cX8_changesOver_0 1 rfl)
theorem dX8_changesOver_2 : decode cX8_changesOver 2 = .ok (.iload_n 3, 1) := dk_29 (blk_at bk_cX8_changesOver_0 2 rfl)
theorem dX8_changesOver_3 : decode cX8_changesOver 3 = .ok (.iconst 3, 1) := dk_6 (blk_at bk_cX8_changesOver_0 3 rfl)
theorem dX8_changesOver_4 : decode cX8_changesOver 4 = .ok (.if_icmp .gt 37, 3) := dq_163 bk_cX8_changesOver_0 4 rfl (by decide)
theorem dX8_changesOver_7 : decode cX8_changesOver 7 = .ok (.aload_n 0, 1) := dk_42 (blk_at bk_cX8_changesOver_0 7 rfl)
theorem dX8_changesOver_8 : decode cX8_changesOver 8 = .ok (.iload_n 1, 1) := dk_27 (blk_at bk_cX8_changesOver_0 8 rfl)
theorem dX8_changesOver_9 : decode cX8_changesOver 9 = .ok (.iload_n 3, 1) := dk_29 (blk_at bk_cX8_changesOver_0 9 rfl)
theorem dX8_changesOver_10 : decode cX8_changesOver 10 = .ok (.invokevirtual 67, 3) := dq_182 bk_cX8_changesOver_0 10 rfl rfl
theorem dX8_changesOver_13 : decode cX8_changesOver 13 = .ok (.istore 4, 2) := dq_54 bk_cX8_changesOver_0 13 rfl rfl
theorem dX8_changesOver_15 : decode cX8_changesOver 15 = .ok (.aload_n 0, 1) := dk_42 (blk_at bk_cX8_changesOver_0 15 rfl)
theorem dX8_changesOver_16 : decode cX8_changesOver 16 = .ok (.iload_n 1, 1) := dk_27 (blk_at bk_cX8_changesOver_0 16 rfl)
theorem dX8_changesOver_17 : decode cX8_changesOver 17 = .ok (.iload_n 3, 1) := dk_29 (blk_at bk_cX8_changesOver_0 17 rfl)
theorem dX8_changesOver_18 : decode cX8_changesOver 18 = .ok (.aload_n 0, 1) := dk_42 (blk_at bk_cX8_changesOver_0 18 rfl)
theorem dX8_changesOver_19 : decode cX8_changesOver 19 = .ok (.iload_n 2, 1) := dk_28 (blk_at bk_cX8_changesOver_0 19 rfl)
theorem dX8_changesOver_20 : decode cX8_changesOver 20 = .ok (.iload_n 3, 1) := dk_29 (blk_at bk_cX8_changesOver_0 20 rfl)
theorem dX8_changesOver_21 : decode cX8_changesOver 21 = .ok (.invokevirtual 67, 3) := dq_182 bk_cX8_changesOver_0 21 rfl rfl
theorem dX8_changesOver_24 : decode cX8_changesOver 24 = .ok (.invokevirtual 230, 3) := dq_182 bk_cX8_changesOver_0 24 rfl rfl
theorem dX8_changesOver_27 : decode cX8_changesOver 27 = .ok (.aload_n 0, 1) := dk_42 (blk_at bk_cX8_changesOver_0 27 rfl)
theorem dX8_changesOver_28 : decode cX8_changesOver 28 = .ok (.iload_n 2, 1) := dk_28 (blk_at bk_cX8_changesOver_0 28 rfl)
theorem dX8_changesOver_29 : decode cX8_changesOver 29 = .ok (.iload_n 3, 1) := dk_29 (blk_at bk_cX8_changesOver_0 29 rfl)
theorem dX8_changesOver_30 : decode cX8_changesOver 30 = .ok (.iload 4, 2) := dq_21 bk_cX8_changesOver_0 30 rfl rfl
theorem dX8_changesOver_32 : decode cX8_changesOver 32 = .ok (.invokevirtual 230, 3) := dq_182 bk_cX8_changesOver_0 32 rfl rfl
theorem dX8_changesOver_35 : decode cX8_changesOver 35 = .ok (.iinc 3 1, 3) := dq_132 bk_cX8_changesOver_0 35 rfl rfl (by decide)
theorem bk_cX8_changesOver_38 : (cX8_changesOver.data.toList.drop 38).take 4 = [167, 255, 220, 177] := by decide +kernel
theorem dX8_changesOver_38 : decode cX8_changesOver 38 = .ok (.goto (-36), 3) := dq_167 bk_cX8_changesOver_38 0 rfl (by decide)
theorem dX8_changesOver_41 : decode cX8_changesOver 41 = .ok (.return_, 1) := dk_177 (blk_at bk_cX8_changesOver_38 3 rfl)
theorem bk_cX8_canSwap_0 : (cX8_canSwap.data.toList.drop 0).take 40 = [42, 27, 3, 182, 0, 67, 42, 28, 3, 182, 0, 67, 160, 0, 5, 3, 172, 42, 27, 28, 182, 1, 123, 42, 28, 4, 182, 0, 67, 62, 42, 28, 4, 16, 7, 182, 0, 230, 42, 27] := by decide +kernel
theorem dX8_canSwap_0 : decode cX8_canSwap 0 = .ok (.aload_n 0, 1) := dk_42 (blk_at bk_cX8_canSwap_0 0 rfl)
theorem dX8_canSwap_1 : decode cX8_canSwap 1 = .ok (.iload_n 1, 1) := dk_27 (blk_at bk_cX8_canSwap_0 1 rfl)
theorem dX8_canSwap_2 : decode cX8_canSwap 2 = .ok (.iconst 0, 1) := dk_3 (blk_at bk_cX8_canSwap_0 2 rfl)
theorem dX8_canSwap_3 : decode cX8_canSwap 3 = .ok (.invokevirtual 67, 3) := dq_182 bk_cX8_canSwap_0 3 rfl rfl
theorem dX8_canSwap_6 : decode cX8_canSwap 6 = .ok (.aload_n 0, 1) := dk_42 (blk_at bk_cX8_canSwap_0 6 rfl)
theorem dX8_canSwap_7 : decode cX8_canSwap 7 = .ok (.iload_n 2, 1) := dk_28 (blk_at bk_cX8_canSwap_0 7 rfl)
theorem dX8_canSwap_8 : decode cX8_canSwap 8 = .ok (.iconst 0, 1) := dk_3 (blk_at bk_cX8_canSwap_0 8 rfl)
theorem dX8_canSwap_9 : decode cX8_canSwap 9 = .ok (.invokevirtual 67, 3) := dq_182 bk_cX8_canSwap_0 9 rfl rfl
theorem dX8_canSwap_12 : decode cX8_canSwap 12 = .ok (.if_icmp .ne 5, 3) := dq_160 bk_cX8_canSwap_0 12 rfl (by decide)
theorem dX8_canSwap_15 : decode cX8_canSwap 15 = .ok (.iconst 0, 1) := dk_3 (blk_at bk_cX8_canSwap_0 15 rfl)
theorem dX8_canSwap_16 : decode cX8_canSwap 16 = .ok (.ireturn, 1) := dk_172 (blk_at bk_cX8_canSwap_0 16 rfl)
theorem dX8_canSwap_17 : decode cX8_canSwap 17 = .ok (.aload_n 0, 1) := dk_42 (blk_at bk_cX8_canSwap_0 17 rfl)
theorem dX8_canSwap_18 : decode cX8_canSwap 18 = .ok (.iload_n 1, 1) := dk_27 (blk_at bk_cX8_canSwap_0 18 rfl)
theorem dX8_canSwap_19 : decode cX8_canSwap 19 = .ok (.iload_n 2, 1) := dk_28 (blk_at bk_cX8_canSwap_0 19 rfl)
theorem dX8_canSwap_20 : decode cX8_canSwap 20 = .ok (.invokevirtual 379, 3) := dq_182 bk_cX8_canSwap_0 20 rfl rfl
theorem dX8_canSwap_23 : decode cX8_canSwap 23 = .ok (.aload_n 0, 1) := dk_42 (blk_at bk_cX8_canSwap_0 23 rfl)
theorem dX8_canSwap_24 : decode cX8_canSwap 24 = .ok (.iload_n 2, 1) := dk_28 (blk_at bk_cX8_canSwap_0 24 rfl)
theorem dX8_canSwap_25 : decode cX8_canSwap 25 = .ok (.iconst 1, 1) := dk_4 (blk_at bk_cX8_canSwap_0 25 rfl)
theorem dX8_canSwap_26 : decode cX8_canSwap 26 = .ok (.invokevirtual 67, 3) := dq_182 bk_cX8_canSwap_0 26 rfl rfl
theorem dX8_canSwap_29 : decode cX8_canSwap 29 = .ok (.istore_n 3, 1) := dk_62 (blk_at bk_cX8_canSwap_0 29 rfl)
theorem dX8_canSwap_30 : decode cX8_canSwap 30 = .ok (.aload_n 0, 1) := dk_42 (blk_at bk_cX8_canSwap_0 30 rfl)
theorem dX8_canSwap_31 : decode cX8_canSwap 31 = .ok (.iload_n 2, 1) := dk_28 (blk_at bk_cX8_canSwap_0 31 rfl)
theorem dX8_canSwap_32 : decode cX8_canSwap 32 = .ok (.iconst 1, 1) := dk_4 (blk_at bk_cX8_canSwap_0 32 rfl)
theorem dX8_canSwap_33 : decode cX8_canSwap 33 = .ok (.bipush 7, 2) := dq_16 bk_cX8_canSwap_0 33 rfl (by decide)
theorem dX8_canSwap_35 : decode cX8_canSwap 35 = .ok (.invokevirtual 230, 3) := dq_182 bk_cX8_canSwap_0 35 rfl rfl
theorem dX8_canSwap_38 : decode cX8_canSwap 38 = .ok (.aload_n 0, 1) := dk_42 (blk_at bk_cX8_canSwap_0 38 rfl)
theorem dX8_canSwap_39 : decode cX8_canSwap 39 = .ok (.iload_n 1, 1) := dk_27 (blk_at bk_cX8_canSwap_0 39 rfl)
theorem bk_cX8_canSwap_40 : (cX8_canSwap.data.toList.drop 40).take 38 = [42, 27, 5, 182, 0, 67, 182, 1, 104, 54, 4, 42, 28, 4, 29, 182, 0, 230, 21, 4, 153, 0, 21, 42, 28, 42, 28, 5, 182, 0, 67, 182, 1, 104, 153, 0, 7, 4] := by decide +kernel
theorem dX8_canSwap_40 : decode cX8_canSwap 40 = .ok (.aload_n 0, 1) := dk_42 (blk_at bk_cX8_canSwap_40 0 rfl)
theorem dX8_canSwap_41 : decode cX8_canSwap 41 = .ok (.iload_n 1, 1) := dk_27 (blk_at bk_cX8_canSwap_40 1 rfl)
theorem dX8_canSwap_42 : decode cX8_canSwap 42 = .ok (.iconst 2, 1) := dk_5 (blk_at bk_cX8_canSwap_40 2 rfl)
theorem dX8_canSwap_43 : decode cX8_canSwap 43 = .ok (.invokevirtual 67, 3) := dq_182 bk_cX8_canSwap_40 3 rfl rfl
theorem dX8_canSwap_46 : decode cX8_canSwap 46 = .ok (.invokevirtual 360, 3) := dq_182 bk_cX8_canSwap_40 6 rfl rfl
theorem dX8_canSwap_49 : decode cX8_canSwap 49 = .ok (.istore 4, 2) := dq_54 bk_cX8_canSwap_40 9 rfl rfl
theorem dX8_canSwap_51 : decode cX8_canSwap 51 = .ok (.aload_n 0, 1) := dk_42 (blk_at bk_cX8_canSwap_40 11 rfl)
theorem dX8_canSwap_52 : decode cX8_canSwap 52 = .ok (.iload_n 2, 1) := dk_28 (blk_at bk_cX8_canSwap_40 12 rfl)
theorem dX8_canSwap_53 : decode cX8_canSwap 53 = .ok (.iconst 1, 1) := dk_4 (blk_at bk_cX8_canSwap_40 13 rfl)
theorem dX8_canSwap_54 : decode cX8_canSwap 54 = .ok (.iload_n 3, 1) := dk_29 (blk_at bk_cX8_canSwap_40 14 rfl)
theorem dX8_canSwap_55 : decode cX8_canSwap 55 = .ok (.invokevirtual 230, 3) := dq_182 bk_cX8_canSwap_40 15 rfl rfl
theorem dX8_canSwap_58 : decode cX8_canSwap 58 = .ok (.iload 4, 2) := dq_21 bk_cX8_canSwap_40 18 rfl rfl
theorem dX8_canSwap_60 : decode cX8_canSwap 60 = .ok (.ifCond .eq 21, 3) := dq_153 bk_cX8_canSwap_40 20 rfl (by decide)
theorem dX8_canSwap_63 : decode cX8_canSwap 63 = .ok (.aload_n 0, 1) := dk_42 (blk_at bk_cX8_canSwap_40 23 rfl)
theorem dX8_canSwap_64 : decode cX8_canSwap 64 = .ok (.iload_n 2, 1) := dk_28 (blk_at bk_cX8_canSwap_40 24 rfl)
theorem dX8_canSwap_65 : decode cX8_canSwap 65 = .ok (.aload_n 0, 1) := dk_42 (blk_at bk_cX8_canSwap_40 25 rfl)
theorem dX8_canSwap_66 : decode cX8_canSwap 66 = .ok (.iload_n 2, 1) := dk_28 (blk_at bk_cX8_canSwap_40 26 rfl)
theorem dX8_canSwap_67 : decode cX8_canSwap 67 = .ok (.iconst 2, 1) := dk_5 (blk_at bk_cX8_canSwap_40 27 rfl)
theorem dX8_canSwap_68 : decode cX8_canSwap 68 = .ok (.invokevirtual 67, 3) := dq_182 bk_cX8_canSwap_40 28 rfl rfl
theorem dX8_canSwap_71 : decode cX8_canSwap 71 = .ok (.invokevirtual 360, 3) := dq_182 bk_cX8_canSwap_40 31 rfl rfl
theorem dX8_canSwap_74 : decode cX8_canSwap 74 = .ok (.ifCond .eq 7, 3) := dq_153 bk_cX8_canSwap_40 34 rfl (by decide)
theorem dX8_canSwap_77 : decode cX8_canSwap 77 = .ok (.iconst 1, 1) := dk_4 (blk_at bk_cX8_canSwap_40 37 rfl)
theorem bk_cX8_canSwap_78 : (cX8_canSwap.data.toList.drop 78).take 15 = [167, 0, 4, 3, 54, 4, 42, 27, 28, 182, 1, 123, 21, 4, 172] := by decide +kernel
theorem dX8_canSwap_78 : decode cX8_canSwap 78 = .ok (.goto 4, 3) := dq_167 bk_cX8_canSwap_78 0 rfl (by decide)
theorem dX8_canSwap_81 : decode cX8_canSwap 81 = .ok (.iconst 0, 1) := dk_3 (blk_at bk_cX8_canSwap_78 3 rfl)
theorem dX8_canSwap_82 : decode cX8_canSwap 82 = .ok (.istore 4, 2) := dq_54 bk_cX8_canSwap_78 4 rfl rfl
theorem dX8_canSwap_84 : decode cX8_canSwap 84 = .ok (.aload_n 0, 1) := dk_42 (blk_at bk_cX8_canSwap_78 6 rfl)
theorem dX8_canSwap_85 : decode cX8_canSwap 85 = .ok (.iload_n 1, 1) := dk_27 (blk_at bk_cX8_canSwap_78 7 rfl)
theorem dX8_canSwap_86 : decode cX8_canSwap 86 = .ok (.iload_n 2, 1) := dk_28 (blk_at bk_cX8_canSwap_78 8 rfl)
theorem dX8_canSwap_87 : decode cX8_canSwap 87 = .ok (.invokevirtual 379, 3) := dq_182 bk_cX8_canSwap_78 9 rfl rfl
theorem dX8_canSwap_90 : decode cX8_canSwap 90 = .ok (.iload 4, 2) := dq_21 bk_cX8_canSwap_78 12 rfl rfl
theorem dX8_canSwap_92 : decode cX8_canSwap 92 = .ok (.ireturn, 1) := dk_172 (blk_at bk_cX8_canSwap_78 14 rfl)
theorem bk_cX8_swap_0 : (cX8_swap.data.toList.drop 0).take 40 = [42, 27, 182, 1, 17, 153, 0, 11, 42, 28, 182, 1, 17, 154, 0, 6, 16, 254, 172, 42, 27, 182, 1, 126, 154, 0, 11, 42, 28, 182, 1, 126, 153, 0, 6, 16, 251, 172, 42, 27] := by decide +kernel
theorem dX8_swap_0 : decode cX8_swap 0 = .ok (.aload_n 0, 1) := dk_42 (blk_at bk_cX8_swap_0 0 rfl)
theorem dX8_swap_1 : decode cX8_swap 1 = .ok (.iload_n 1, 1) := dk_27 (blk_at bk_cX8_swap_0 1 rfl)
theorem dX8_swap_2 : decode cX8_swap 2 = .ok (.invokevirtual 273, 3) := dq_182 bk_cX8_swap_0 2 rfl rfl
theorem dX8_swap_5 : decode cX8_swap 5 = .ok (.ifCond .eq 11, 3) := dq_153 bk_cX8_swap_0 5 rfl (by decide)
theorem dX8_swap_8 : decode cX8_swap 8 = .ok (.aload_n 0, 1) := dk_42 (blk_at bk_cX8_swap_0 8 rfl)
theorem dX8_swap_9 : decode cX8_swap 9 = .ok (.iload_n 2, 1) := dk_28 (blk_at bk_cX8_swap_0 9 rfl)
theorem dX8_swap_10 : decode cX8_swap 10 = .ok (.invokevirtual 273, 3) := dq_182 bk_cX8_swap_0 10 rfl rfl
theorem dX8_swap_13 : decode cX8_swap 13 = .ok (.ifCond .ne 6, 3) := dq_154 bk_cX8_swap_0 13 rfl (by decide)
theorem dX8_swap_16 : decode cX8_swap 16 = .ok (.bipush (-2), 2) := dq_16 bk_cX8_swap_0 16 rfl (by decide)
theorem dX8_swap_18 : decode cX8_swap 18 = .ok (.ireturn, 1) := dk_172 (blk_at bk_cX8_swap_0 18 rfl)
theorem dX8_swap_19 : decode cX8_swap 19 = .ok (.aload_n 0, 1) := dk_42 (blk_at bk_cX8_swap_0 19 rfl)
theorem dX8_swap_20 : decode cX8_swap 20 = .ok (.iload_n 1, 1) := dk_27 (blk_at bk_cX8_swap_0 20 rfl)
theorem dX8_swap_21 : decode cX8_swap 21 = .ok (.invokevirtual 382, 3) := dq_182 bk_cX8_swap_0 21 rfl rfl
theorem dX8_swap_24 : decode cX8_swap 24 = .ok (.ifCond .ne 11, 3) := dq_154 bk_cX8_swap_0 24 rfl (by decide)
theorem dX8_swap_27 : decode cX8_swap 27 = .ok (.aload_n 0, 1) := dk_42 (blk_at bk_cX8_swap_0 27 rfl)
theorem dX8_swap_28 : decode cX8_swap 28 = .ok (.iload_n 2, 1) := dk_28 (blk_at bk_cX8_swap_0 28 rfl)
theorem dX8_swap_29 : decode cX8_swap 29 = .ok (.invokevirtual 382, 3) := dq_182 bk_cX8_swap_0 29 rfl rfl
theorem dX8_swap_32 : decode cX8_swap 32 = .ok (.ifCond .eq 6, 3) := dq_153 bk_cX8_swap_0 32 rfl (by decide)
theorem dX8_swap_35 : decode cX8_swap 35 = .ok (.bipush (-5), 2) := dq_16 bk_cX8_swap_0 35 rfl (by decide)
theorem dX8_swap_37 : decode cX8_swap 37 = .ok (.ireturn, 1) := dk_172 (blk_at bk_cX8_swap_0 37 rfl)
theorem dX8_swap_38 : decode cX8_swap 38 = .ok (.aload_n 0, 1) := dk_42 (blk_at bk_cX8_swap_0 38 rfl)
theorem dX8_swap_39 : decode cX8_swap 39 = .ok (.iload_n 1, 1) := dk_27 (blk_at bk_cX8_swap_0 39 rfl)
theorem bk_cX8_swap_40 : (cX8_swap.data.toList.drop 40).take 22 = [28, 182, 1, 129, 154, 0, 6, 16, 250, 172, 42, 182, 1, 110, 42, 27, 28, 182, 1, 123, 4, 172] := by decide +kernel
theorem dX8_swap_40 : decode cX8_swap 40 = .ok (.iload_n 2, 1) := dk_28 (blk_at bk_cX8_swap_40 0 rfl)
theorem dX8_swap_41 : decode cX8_swap 41 = .ok (.invokevirtual 385, 3) := dq_182 bk_cX8_swap_40 1 rfl rfl
theorem dX8_swap_44 : decode cX8_swap 44 = .ok (.ifCond .ne 6, 3) := dq_154 bk_cX8_swap_40 4 rfl (by decide)
theorem dX8_swap_47 : decode cX8_swap 47 = .ok (.bipush (-6), 2) := dq_16 bk_cX8_swap_40 7 rfl (by decide)
theorem dX8_swap_49 : decode cX8_swap 49 = .ok (.ireturn, 1) := dk_172 (blk_at bk_cX8_swap_40 9 rfl)
theorem dX8_swap_50 : decode cX8_swap 50 = .ok (.aload_n 0, 1) := dk_42 (blk_at bk_cX8_swap_40 10 rfl)
theorem dX8_swap_51 : decode cX8_swap 51 = .ok (.invokevirtual 366, 3) := dq_182 bk_cX8_swap_40 11 rfl rfl
theorem dX8_swap_54 : decode cX8_swap 54 = .ok (.aload_n 0, 1) := dk_42 (blk_at bk_cX8_swap_40 14 rfl)
theorem dX8_swap_55 : decode cX8_swap 55 = .ok (.iload_n 1, 1) := dk_27 (blk_at bk_cX8_swap_40 15 rfl)
theorem dX8_swap_56 : decode cX8_swap 56 = .ok (.iload_n 2, 1) := dk_28 (blk_at bk_cX8_swap_40 16 rfl)
theorem dX8_swap_57 : decode cX8_swap 57 = .ok (.invokevirtual 379, 3) := dq_182 bk_cX8_swap_40 17 rfl rfl
theorem dX8_swap_60 : decode cX8_swap 60 = .ok (.iconst 1, 1) := dk_4 (blk_at bk_cX8_swap_40 20 rfl)
theorem dX8_swap_61 : decode cX8_swap 61 = .ok (.ireturn, 1) := dk_172 (blk_at bk_cX8_swap_40 21 rfl)
theorem bk_cX8_partners_0 : (cX8_partners.data.toList.drop 0).take 39 = [42, 27, 182, 1, 17, 154, 0, 6, 16, 254, 172, 3, 61, 3, 62, 29, 42, 180, 0, 9, 5, 46, 162, 0, 44, 28, 42, 27, 182, 1, 126, 154, 0, 26, 42, 29, 182, 1, 126] := by decide +kernel
theorem dX8_partners_0 : decode cX8_partners 0 = .ok (.aload_n 0, 1) := dk_42 (blk_at bk_cX8_partners_0 0 rfl)
theorem dX8_partners_1 : decode cX8_partners 1 = .ok (.iload_n 1, 1) := dk_27 (blk_at bk_cX8_partners_0 1 rfl)
theorem dX8_partners_2 : decode cX8_partners 2 = .ok (.invokevirtual 273, 3) := dq_182 bk_cX8_partners_0 2 rfl rfl
theorem dX8_partners_5 : decode cX8_partners 5 = .ok (.ifCond .ne 6, 3) := dq_154 bk_cX8_partners_0 5 rfl (by decide)
theorem dX8_partners_8 : decode cX8_partners 8 = .ok (.bipush (-2), 2) := dq_16 bk_cX8_partners_0 8 rfl (by decide)
theorem dX8_partners_10 : decode cX8_partners 10 = .ok (.ireturn, 1) := dk_172 (blk_at bk_cX8_partners_0 10 rfl)
theorem dX8_partners_11 : decode cX8_partners 11 = .ok (.iconst 0, 1) := dk_3 (blk_at bk_cX8_partners_0 11 rfl)
theorem dX8_partners_12 : decode cX8_partners 12 = .ok (.istore_n 2, 1) := dk_61 (blk_at bk_cX8_partners_0 12 rfl)
theorem dX8_partners_13 : decode cX8_partners 13 = .ok (.iconst 0, 1) := dk_3 (blk_at bk_cX8_partners_0 13 rfl)
theorem dX8_partners_14 : decode cX8_partners 14 = .ok (.istore_n 3, 1) := dk_62 (blk_at bk_cX8_partners_0 14 rfl)
theorem dX8_partners_15 : decode cX8_partners 15 = .ok (.iload_n 3, 1) := dk_29 (blk_at bk_cX8_partners_0 15 rfl)
theorem dX8_partners_16 : decode cX8_partners 16 = .ok (.aload_n 0, 1) := dk_42 (blk_at bk_cX8_partners_0 16 rfl)
theorem dX8_partners_17 : decode cX8_partners 17 = .ok (.getfield 9, 3) := dq_180 bk_cX8_partners_0 17 rfl rfl
theorem dX8_partners_20 : decode cX8_partners 20 = .ok (.iconst 2, 1) := dk_5 (blk_at bk_cX8_partners_0 20 rfl)
theorem dX8_partners_21 : decode cX8_partners 21 = .ok (.iaload, 1) := dk_46 (blk_at bk_cX8_partners_0 21 rfl)
theorem dX8_partners_22 : decode cX8_partners 22 = .ok (.if_icmp .ge 44, 3) := dq_162 bk_cX8_partners_0 22 rfl (by decide)
theorem dX8_partners_25 : decode cX8_partners 25 = .ok (.iload_n 2, 1) := dk_28 (blk_at bk_cX8_partners_0 25 rfl)
theorem dX8_partners_26 : decode cX8_partners 26 = .ok (.aload_n 0, 1) := dk_42 (blk_at bk_cX8_partners_0 26 rfl)
theorem dX8_partners_27 : decode cX8_partners 27 = .ok (.iload_n 1, 1) := dk_27 (blk_at bk_cX8_partners_0 27 rfl)
theorem dX8_partners_28 : decode cX8_partners 28 = .ok (.invokevirtual 382, 3) := dq_182 bk_cX8_partners_0 28 rfl rfl
theorem dX8_partners_31 : decode cX8_partners 31 = .ok (.ifCond .ne 26, 3) := dq_154 bk_cX8_partners_0 31 rfl (by decide)
theorem dX8_partners_34 : decode cX8_partners 34 = .ok (.aload_n 0, 1) := dk_42 (blk_at bk_cX8_partners_0 34 rfl)
theorem dX8_partners_35 : decode cX8_partners 35 = .ok (.iload_n 3, 1) := dk_29 (blk_at bk_cX8_partners_0 35 rfl)
theorem dX8_partners_36 : decode cX8_partners 36 = .ok (.invokevirtual 382, 3) := dq_182 bk_cX8_partners_0 36 rfl rfl
theorem bk_cX8_partners_39 : (cX8_partners.data.toList.drop 39).take 29 = [154, 0, 18, 42, 27, 29, 182, 1, 129, 153, 0, 9, 4, 29, 120, 167, 0, 4, 3, 128, 61, 132, 3, 1, 167, 255, 208, 28, 172] := by decide +kernel
theorem dX8_partners_39 : decode cX8_partners 39 = .ok (.ifCond .ne 18, 3) := dq_154 bk_cX8_partners_39 0 rfl (by decide)
theorem dX8_partners_42 : decode cX8_partners 42 = .ok (.aload_n 0, 1) := dk_42 (blk_at bk_cX8_partners_39 3 rfl)
theorem dX8_partners_43 : decode cX8_partners 43 = .ok (.iload_n 1, 1) := dk_27 (blk_at bk_cX8_partners_39 4 rfl)
theorem dX8_partners_44 : decode cX8_partners 44 = .ok (.iload_n 3, 1) := dk_29 (blk_at bk_cX8_partners_39 5 rfl)
theorem dX8_partners_45 : decode cX8_partners 45 = .ok (.invokevirtual 385, 3) := dq_182 bk_cX8_partners_39 6 rfl rfl
theorem dX8_partners_48 : decode cX8_partners 48 = .ok (.ifCond .eq 9, 3) := dq_153 bk_cX8_partners_39 9 rfl (by decide)
theorem dX8_partners_51 : decode cX8_partners 51 = .ok (.iconst 1, 1) := dk_4 (blk_at bk_cX8_partners_39 12 rfl)
theorem dX8_partners_52 : decode cX8_partners 52 = .ok (.iload_n 3, 1) := dk_29 (blk_at bk_cX8_partners_39 13 rfl)
theorem dX8_partners_53 : decode cX8_partners 53 = .ok (.ishl, 1) := dk_120 (blk_at bk_cX8_partners_39 14 rfl)
theorem dX8_partners_54 : decode cX8_partners 54 = .ok (.goto 4, 3) := dq_167 bk_cX8_partners_39 15 rfl (by decide)
theorem dX8_partners_57 : decode cX8_partners 57 = .ok (.iconst 0, 1) := dk_3 (blk_at bk_cX8_partners_39 18 rfl)
theorem dX8_partners_58 : decode cX8_partners 58 = .ok (.ior, 1) := dk_128 (blk_at bk_cX8_partners_39 19 rfl)
theorem dX8_partners_59 : decode cX8_partners 59 = .ok (.istore_n 2, 1) := dk_61 (blk_at bk_cX8_partners_39 20 rfl)
theorem dX8_partners_60 : decode cX8_partners 60 = .ok (.iinc 3 1, 3) := dq_132 bk_cX8_partners_39 21 rfl rfl (by decide)
theorem dX8_partners_63 : decode cX8_partners 63 = .ok (.goto (-48), 3) := dq_167 bk_cX8_partners_39 24 rfl (by decide)
theorem dX8_partners_66 : decode cX8_partners 66 = .ok (.iload_n 2, 1) := dk_28 (blk_at bk_cX8_partners_39 27 rfl)
theorem dX8_partners_67 : decode cX8_partners 67 = .ok (.ireturn, 1) := dk_172 (blk_at bk_cX8_partners_39 28 rfl)
theorem bk_cX8_hand_0 : (cX8_hand.data.toList.drop 0).take 39 = [42, 27, 182, 1, 17, 153, 0, 11, 42, 28, 182, 1, 9, 154, 0, 6, 16, 254, 172, 42, 27, 182, 1, 126, 153, 0, 6, 16, 251, 172, 42, 27, 3, 182, 0, 67, 62, 29, 28] := by decide +kernel
theorem dX8_hand_0 : decode cX8_hand 0 = .ok (.aload_n 0, 1) := dk_42 (blk_at bk_cX8_hand_0 0 rfl)
theorem dX8_hand_1 : decode cX8_hand 1 = .ok (.iload_n 1, 1) := dk_27 (blk_at bk_cX8_hand_0 1 rfl)
theorem dX8_hand_2 : decode cX8_hand 2 = .ok (.invokevirtual 273, 3) := dq_182 bk_cX8_hand_0 2 rfl rfl
theorem dX8_hand_5 : decode cX8_hand 5 = .ok (.ifCond .eq 11, 3) := dq_153 bk_cX8_hand_0 5 rfl (by decide)
theorem dX8_hand_8 : decode cX8_hand 8 = .ok (.aload_n 0, 1) := dk_42 (blk_at bk_cX8_hand_0 8 rfl)
theorem dX8_hand_9 : decode cX8_hand 9 = .ok (.iload_n 2, 1) := dk_28 (blk_at bk_cX8_hand_0 9 rfl)
theorem dX8_hand_10 : decode cX8_hand 10 = .ok (.invokevirtual 265, 3) := dq_182 bk_cX8_hand_0 10 rfl rfl
theorem dX8_hand_13 : decode cX8_hand 13 = .ok (.ifCond .ne 6, 3) := dq_154 bk_cX8_hand_0 13 rfl (by decide)
theorem dX8_hand_16 : decode cX8_hand 16 = .ok (.bipush (-2), 2) := dq_16 bk_cX8_hand_0 16 rfl (by decide)
theorem dX8_hand_18 : decode cX8_hand 18 = .ok (.ireturn, 1) := dk_172 (blk_at bk_cX8_hand_0 18 rfl)
theorem dX8_hand_19 : decode cX8_hand 19 = .ok (.aload_n 0, 1) := dk_42 (blk_at bk_cX8_hand_0 19 rfl)
theorem dX8_hand_20 : decode cX8_hand 20 = .ok (.iload_n 1, 1) := dk_27 (blk_at bk_cX8_hand_0 20 rfl)
theorem dX8_hand_21 : decode cX8_hand 21 = .ok (.invokevirtual 382, 3) := dq_182 bk_cX8_hand_0 21 rfl rfl
theorem dX8_hand_24 : decode cX8_hand 24 = .ok (.ifCond .eq 6, 3) := dq_153 bk_cX8_hand_0 24 rfl (by decide)
theorem dX8_hand_27 : decode cX8_hand 27 = .ok (.bipush (-5), 2) := dq_16 bk_cX8_hand_0 27 rfl (by decide)
theorem dX8_hand_29 : decode cX8_hand 29 = .ok (.ireturn, 1) := dk_172 (blk_at bk_cX8_hand_0 29 rfl)
theorem dX8_hand_30 : decode cX8_hand 30 = .ok (.aload_n 0, 1) := dk_42 (blk_at bk_cX8_hand_0 30 rfl)
theorem dX8_hand_31 : decode cX8_hand 31 = .ok (.iload_n 1, 1) := dk_27 (blk_at bk_cX8_hand_0 31 rfl)
theorem dX8_hand_32 : decode cX8_hand 32 = .ok (.iconst 0, 1) := dk_3 (blk_at bk_cX8_hand_0 32 rfl)
theorem dX8_hand_33 : decode cX8_hand 33 = .ok (.invokevirtual 67, 3) := dq_182 bk_cX8_hand_0 33 rfl rfl
theorem dX8_hand_36 : decode cX8_hand 36 = .ok (.istore_n 3, 1) := dk_62 (blk_at bk_cX8_hand_0 36 rfl)
theorem dX8_hand_37 : decode cX8_hand 37 = .ok (.iload_n 3, 1) := dk_29 (blk_at bk_cX8_hand_0 37 rfl)
theorem dX8_hand_38 : decode cX8_hand 38 = .ok (.iload_n 2, 1) := dk_28 (blk_at bk_cX8_hand_0 38 rfl)
theorem bk_cX8_hand_39 : (cX8_hand.data.toList.drop 39).take 19 = [160, 0, 6, 16, 250, 172, 42, 182, 1, 110, 42, 27, 3, 28, 182, 0, 230, 29, 172] := by decide +kernel
theorem dX8_hand_39 : decode cX8_hand 39 = .ok (.if_icmp .ne 6, 3) := dq_160 bk_cX8_hand_39 0 rfl (by decide)
theorem dX8_hand_42 : decode cX8_hand 42 = .ok (.bipush (-6), 2) := dq_16 bk_cX8_hand_39 3 rfl (by decide)
theorem dX8_hand_44 : decode cX8_hand 44 = .ok (.ireturn, 1) := dk_172 (blk_at bk_cX8_hand_39 5 rfl)
theorem dX8_hand_45 : decode cX8_hand 45 = .ok (.aload_n 0, 1) := dk_42 (blk_at bk_cX8_hand_39 6 rfl)
theorem dX8_hand_46 : decode cX8_hand 46 = .ok (.invokevirtual 366, 3) := dq_182 bk_cX8_hand_39 7 rfl rfl
theorem dX8_hand_49 : decode cX8_hand 49 = .ok (.aload_n 0, 1) := dk_42 (blk_at bk_cX8_hand_39 10 rfl)
theorem dX8_hand_50 : decode cX8_hand 50 = .ok (.iload_n 1, 1) := dk_27 (blk_at bk_cX8_hand_39 11 rfl)
theorem dX8_hand_51 : decode cX8_hand 51 = .ok (.iconst 0, 1) := dk_3 (blk_at bk_cX8_hand_39 12 rfl)
theorem dX8_hand_52 : decode cX8_hand 52 = .ok (.iload_n 2, 1) := dk_28 (blk_at bk_cX8_hand_39 13 rfl)
theorem dX8_hand_53 : decode cX8_hand 53 = .ok (.invokevirtual 230, 3) := dq_182 bk_cX8_hand_39 14 rfl rfl
theorem dX8_hand_56 : decode cX8_hand 56 = .ok (.iload_n 3, 1) := dk_29 (blk_at bk_cX8_hand_39 17 rfl)
theorem dX8_hand_57 : decode cX8_hand 57 = .ok (.ireturn, 1) := dk_172 (blk_at bk_cX8_hand_39 18 rfl)
theorem bk_cX8_isAbove_0 : (cX8_isAbove.data.toList.drop 0).take 40 = [42, 180, 0, 9, 7, 46, 54, 4, 21, 4, 42, 180, 0, 9, 3, 46, 162, 0, 57, 3, 54, 5, 21, 5, 16, 7, 162, 0, 41, 42, 21, 4, 21, 5, 27, 3, 2, 182, 0, 86] := by decide +kernel
theorem dX8_isAbove_0 : decode cX8_isAbove 0 = .ok (.aload_n 0, 1) := dk_42 (blk_at bk_cX8_isAbove_0 0 rfl)
theorem dX8_isAbove_1 : decode cX8_isAbove 1 = .ok (.getfield 9, 3) := dq_180 bk_cX8_isAbove_0 1 rfl rfl
theorem dX8_isAbove_4 : decode cX8_isAbove 4 = .ok (.iconst 4, 1) := dk_7 (blk_at bk_cX8_isAbove_0 4 rfl)
theorem dX8_isAbove_5 : decode cX8_isAbove 5 = .ok (.iaload, 1) := dk_46 (blk_at bk_cX8_isAbove_0 5 rfl)
theorem dX8_isAbove_6 : decode cX8_isAbove 6 = .ok (.istore 4, 2) := dq_54 bk_cX8_isAbove_0 6 rfl rfl
theorem dX8_isAbove_8 : decode cX8_isAbove 8 = .ok (.iload 4, 2) := dq_21 bk_cX8_isAbove_0 8 rfl rfl
theorem dX8_isAbove_10 : decode cX8_isAbove 10 = .ok (.aload_n 0, 1) := dk_42 (blk_at bk_cX8_isAbove_0 10 rfl)
theorem dX8_isAbove_11 : decode cX8_isAbove 11 = .ok (.getfield 9, 3) := dq_180 bk_cX8_isAbove_0 11 rfl rfl
theorem dX8_isAbove_14 : decode cX8_isAbove 14 = .ok (.iconst 0, 1) := dk_3 (blk_at bk_cX8_isAbove_0 14 rfl)
theorem dX8_isAbove_15 : decode cX8_isAbove 15 = .ok (.iaload, 1) := dk_46 (blk_at bk_cX8_isAbove_0 15 rfl)
theorem dX8_isAbove_16 : decode cX8_isAbove 16 = .ok (.if_icmp .ge 57, 3) := dq_162 bk_cX8_isAbove_0 16 rfl (by decide)
theorem dX8_isAbove_19 : decode cX8_isAbove 19 = .ok (.iconst 0, 1) := dk_3 (blk_at bk_cX8_isAbove_0 19 rfl)
theorem dX8_isAbove_20 : decode cX8_isAbove 20 = .ok (.istore 5, 2) := dq_54 bk_cX8_isAbove_0 20 rfl rfl
theorem dX8_isAbove_22 : decode cX8_isAbove 22 = .ok (.iload 5, 2) := dq_21 bk_cX8_isAbove_0 22 rfl rfl
theorem dX8_isAbove_24 : decode cX8_isAbove 24 = .ok (.bipush 7, 2) := dq_16 bk_cX8_isAbove_0 24 rfl (by decide)
theorem dX8_isAbove_26 : decode cX8_isAbove 26 = .ok (.if_icmp .ge 41, 3) := dq_162 bk_cX8_isAbove_0 26 rfl (by decide)
theorem dX8_isAbove_29 : decode cX8_isAbove 29 = .ok (.aload_n 0, 1) := dk_42 (blk_at bk_cX8_isAbove_0 29 rfl)
theorem dX8_isAbove_30 : decode cX8_isAbove 30 = .ok (.iload 4, 2) := dq_21 bk_cX8_isAbove_0 30 rfl rfl
theorem dX8_isAbove_32 : decode cX8_isAbove 32 = .ok (.iload 5, 2) := dq_21 bk_cX8_isAbove_0 32 rfl rfl
theorem dX8_isAbove_34 : decode cX8_isAbove 34 = .ok (.iload_n 1, 1) := dk_27 (blk_at bk_cX8_isAbove_0 34 rfl)
theorem dX8_isAbove_35 : decode cX8_isAbove 35 = .ok (.iconst 0, 1) := dk_3 (blk_at bk_cX8_isAbove_0 35 rfl)
theorem dX8_isAbove_36 : decode cX8_isAbove 36 = .ok (.iconst (-1), 1) := dk_2 (blk_at bk_cX8_isAbove_0 36 rfl)
theorem dX8_isAbove_37 : decode cX8_isAbove 37 = .ok (.invokevirtual 86, 3) := dq_182 bk_cX8_isAbove_0 37 rfl rfl
theorem bk_cX8_isAbove_40 : (cX8_isAbove.data.toList.drop 40).take 35 = [28, 163, 0, 18, 42, 21, 4, 21, 5, 27, 4, 2, 182, 0, 86, 29, 164, 0, 5, 4, 172, 132, 5, 1, 167, 255, 214, 132, 4, 1, 167, 255, 194, 3, 172] := by decide +kernel
theorem dX8_isAbove_40 : decode cX8_isAbove 40 = .ok (.iload_n 2, 1) := dk_28 (blk_at bk_cX8_isAbove_40 0 rfl)
theorem dX8_isAbove_41 : decode cX8_isAbove 41 = .ok (.if_icmp .gt 18, 3) := dq_163 bk_cX8_isAbove_40 1 rfl (by decide)
theorem dX8_isAbove_44 : decode cX8_isAbove 44 = .ok (.aload_n 0, 1) := dk_42 (blk_at bk_cX8_isAbove_40 4 rfl)
theorem dX8_isAbove_45 : decode cX8_isAbove 45 = .ok (.iload 4, 2) := dq_21 bk_cX8_isAbove_40 5 rfl rfl
theorem dX8_isAbove_47 : decode cX8_isAbove 47 = .ok (.iload 5, 2) := dq_21 bk_cX8_isAbove_40 7 rfl rfl
theorem dX8_isAbove_49 : decode cX8_isAbove 49 = .ok (.iload_n 1, 1) := dk_27 (blk_at bk_cX8_isAbove_40 9 rfl)
theorem dX8_isAbove_50 : decode cX8_isAbove 50 = .ok (.iconst 1, 1) := dk_4 (blk_at bk_cX8_isAbove_40 10 rfl)
theorem dX8_isAbove_51 : decode cX8_isAbove 51 = .ok (.iconst (-1), 1) := dk_2 (blk_at bk_cX8_isAbove_40 11 rfl)
theorem dX8_isAbove_52 : decode cX8_isAbove 52 = .ok (.invokevirtual 86, 3) := dq_182 bk_cX8_isAbove_40 12 rfl rfl
theorem dX8_isAbove_55 : decode cX8_isAbove 55 = .ok (.iload_n 3, 1) := dk_29 (blk_at bk_cX8_isAbove_40 15 rfl)
theorem dX8_isAbove_56 : decode cX8_isAbove 56 = .ok (.if_icmp .le 5, 3) := dq_164 bk_cX8_isAbove_40 16 rfl (by decide)
theorem dX8_isAbove_59 : decode cX8_isAbove 59 = .ok (.iconst 1, 1) := dk_4 (blk_at bk_cX8_isAbove_40 19 rfl)
theorem dX8_isAbove_60 : decode cX8_isAbove 60 = .ok (.ireturn, 1) := dk_172 (blk_at bk_cX8_isAbove_40 20 rfl)
theorem dX8_isAbove_61 : decode cX8_isAbove 61 = .ok (.iinc 5 1, 3) := dq_132 bk_cX8_isAbove_40 21 rfl rfl (by decide)
theorem dX8_isAbove_64 : decode cX8_isAbove 64 = .ok (.goto (-42), 3) := dq_167 bk_cX8_isAbove_40 24 rfl (by decide)
theorem dX8_isAbove_67 : decode cX8_isAbove 67 = .ok (.iinc 4 1, 3) := dq_132 bk_cX8_isAbove_40 27 rfl rfl (by decide)
theorem dX8_isAbove_70 : decode cX8_isAbove 70 = .ok (.goto (-62), 3) := dq_167 bk_cX8_isAbove_40 30 rfl (by decide)
theorem dX8_isAbove_73 : decode cX8_isAbove 73 = .ok (.iconst 0, 1) := dk_3 (blk_at bk_cX8_isAbove_40 33 rfl)
theorem dX8_isAbove_74 : decode cX8_isAbove 74 = .ok (.ireturn, 1) := dk_172 (blk_at bk_cX8_isAbove_40 34 rfl)
theorem bk_cX8_limit_0 : (cX8_limit.data.toList.drop 0).take 38 = [42, 27, 182, 0, 64, 153, 0, 26, 28, 133, 9, 20, 1, 132, 184, 0, 45, 153, 0, 14, 29, 133, 9, 28, 133, 184, 0, 45, 154, 0, 6, 16, 254, 172, 42, 27, 28, 29] := by decide +kernel
theorem dX8_limit_0 : decode cX8_limit 0 = .ok (.aload_n 0, 1) := dk_42 (blk_at bk_cX8_limit_0 0 rfl)
theorem dX8_limit_1 : decode cX8_limit 1 = .ok (.iload_n 1, 1) := dk_27 (blk_at bk_cX8_limit_0 1 rfl)
theorem dX8_limit_2 : decode cX8_limit 2 = .ok (.invokevirtual 64, 3) := dq_182 bk_cX8_limit_0 2 rfl rfl
theorem dX8_limit_5 : decode cX8_limit 5 = .ok (.ifCond .eq 26, 3) := dq_153 bk_cX8_limit_0 5 rfl (by decide)
theorem dX8_limit_8 : decode cX8_limit 8 = .ok (.iload_n 2, 1) := dk_28 (blk_at bk_cX8_limit_0 8 rfl)
theorem dX8_limit_9 : decode cX8_limit 9 = .ok (.i2l, 1) := dk_133 (blk_at bk_cX8_limit_0 9 rfl)
theorem dX8_limit_10 : decode cX8_limit 10 = .ok (.lconst 0, 1) := dk_9 (blk_at bk_cX8_limit_0 10 rfl)
theorem dX8_limit_11 : decode cX8_limit 11 = .ok (.ldc2_w 388, 3) := dq_20 bk_cX8_limit_0 11 rfl rfl
theorem dX8_limit_14 : decode cX8_limit 14 = .ok (.invokestatic 45, 3) := dq_184 bk_cX8_limit_0 14 rfl rfl
theorem dX8_limit_17 : decode cX8_limit 17 = .ok (.ifCond .eq 14, 3) := dq_153 bk_cX8_limit_0 17 rfl (by decide)
theorem dX8_limit_20 : decode cX8_limit 20 = .ok (.iload_n 3, 1) := dk_29 (blk_at bk_cX8_limit_0 20 rfl)
theorem dX8_limit_21 : decode cX8_limit 21 = .ok (.i2l, 1) := dk_133 (blk_at bk_cX8_limit_0 21 rfl)
theorem dX8_limit_22 : decode cX8_limit 22 = .ok (.lconst 0, 1) := dk_9 (blk_at bk_cX8_limit_0 22 rfl)
theorem dX8_limit_23 : decode cX8_limit 23 = .ok (.iload_n 2, 1) := dk_28 (blk_at bk_cX8_limit_0 23 rfl)
theorem dX8_limit_24 : decode cX8_limit 24 = .ok (.i2l, 1) := dk_133 (blk_at bk_cX8_limit_0 24 rfl)
theorem dX8_limit_25 : decode cX8_limit 25 = .ok (.invokestatic 45, 3) := dq_184 bk_cX8_limit_0 25 rfl rfl
theorem dX8_limit_28 : decode cX8_limit 28 = .ok (.ifCond .ne 6, 3) := dq_154 bk_cX8_limit_0 28 rfl (by decide)
theorem dX8_limit_31 : decode cX8_limit 31 = .ok (.bipush (-2), 2) := dq_16 bk_cX8_limit_0 31 rfl (by decide)
theorem dX8_limit_33 : decode cX8_limit 33 = .ok (.ireturn, 1) := dk_172 (blk_at bk_cX8_limit_0 33 rfl)
theorem dX8_limit_34 : decode cX8_limit 34 = .ok (.aload_n 0, 1) := dk_42 (blk_at bk_cX8_limit_0 34 rfl)
theorem dX8_limit_35 : decode cX8_limit 35 = .ok (.iload_n 1, 1) := dk_27 (blk_at bk_cX8_limit_0 35 rfl)
theorem dX8_limit_36 : decode cX8_limit 36 = .ok (.iload_n 2, 1) := dk_28 (blk_at bk_cX8_limit_0 36 rfl)
theorem dX8_limit_37 : decode cX8_limit 37 = .ok (.iload_n 3, 1) := dk_29 (blk_at bk_cX8_limit_0 37 rfl)
theorem bk_cX8_limit_38 : (cX8_limit.data.toList.drop 38).take 40 = [182, 1, 134, 153, 0, 6, 16, 250, 172, 42, 180, 0, 9, 16, 6, 5, 27, 104, 96, 46, 54, 4, 42, 180, 0, 9, 16, 6, 5, 27, 104, 96, 4, 96, 46, 54, 5, 21, 4, 28] := by decide +kernel
theorem dX8_limit_38 : decode cX8_limit 38 = .ok (.invokevirtual 390, 3) := dq_182 bk_cX8_limit_38 0 rfl rfl
theorem dX8_limit_41 : decode cX8_limit 41 = .ok (.ifCond .eq 6, 3) := dq_153 bk_cX8_limit_38 3 rfl (by decide)
theorem dX8_limit_44 : decode cX8_limit 44 = .ok (.bipush (-6), 2) := dq_16 bk_cX8_limit_38 6 rfl (by decide)
theorem dX8_limit_46 : decode cX8_limit 46 = .ok (.ireturn, 1) := dk_172 (blk_at bk_cX8_limit_38 8 rfl)
theorem dX8_limit_47 : decode cX8_limit 47 = .ok (.aload_n 0, 1) := dk_42 (blk_at bk_cX8_limit_38 9 rfl)
theorem dX8_limit_48 : decode cX8_limit 48 = .ok (.getfield 9, 3) := dq_180 bk_cX8_limit_38 10 rfl rfl
theorem dX8_limit_51 : decode cX8_limit 51 = .ok (.bipush 6, 2) := dq_16 bk_cX8_limit_38 13 rfl (by decide)
theorem dX8_limit_53 : decode cX8_limit 53 = .ok (.iconst 2, 1) := dk_5 (blk_at bk_cX8_limit_38 15 rfl)
theorem dX8_limit_54 : decode cX8_limit 54 = .ok (.iload_n 1, 1) := dk_27 (blk_at bk_cX8_limit_38 16 rfl)
theorem dX8_limit_55 : decode cX8_limit 55 = .ok (.imul, 1) := dk_104 (blk_at bk_cX8_limit_38 17 rfl)
theorem dX8_limit_56 : decode cX8_limit 56 = .ok (.iadd, 1) := dk_96 (blk_at bk_cX8_limit_38 18 rfl)
theorem dX8_limit_57 : decode cX8_limit 57 = .ok (.iaload, 1) := dk_46 (blk_at bk_cX8_limit_38 19 rfl)
theorem dX8_limit_58 : decode cX8_limit 58 = .ok (.istore 4, 2) := dq_54 bk_cX8_limit_38 20 rfl rfl
theorem dX8_limit_60 : decode cX8_limit 60 = .ok (.aload_n 0, 1) := dk_42 (blk_at bk_cX8_limit_38 22 rfl)
theorem dX8_limit_61 : decode cX8_limit 61 = .ok (.getfield 9, 3) := dq_180 bk_cX8_limit_38 23 rfl rfl
theorem dX8_limit_64 : decode cX8_limit 64 = .ok (.bipush 6, 2) := dq_16 bk_cX8_limit_38 26 rfl (by decide)
theorem dX8_limit_66 : decode cX8_limit 66 = .ok (.iconst 2, 1) := dk_5 (blk_at bk_cX8_limit_38 28 rfl)
theorem dX8_limit_67 : decode cX8_limit 67 = .ok (.iload_n 1, 1) := dk_27 (blk_at bk_cX8_limit_38 29 rfl)
theorem dX8_limit_68 : decode cX8_limit 68 = .ok (.imul, 1) := dk_104 (blk_at bk_cX8_limit_38 30 rfl)
theorem dX8_limit_69 : decode cX8_limit 69 = .ok (.iadd, 1) := dk_96 (blk_at bk_cX8_limit_38 31 rfl)
theorem dX8_limit_70 : decode cX8_limit 70 = .ok (.iconst 1, 1) := dk_4 (blk_at bk_cX8_limit_38 32 rfl)
theorem dX8_limit_71 : decode cX8_limit 71 = .ok (.iadd, 1) := dk_96 (blk_at bk_cX8_limit_38 33 rfl)
theorem dX8_limit_72 : decode cX8_limit 72 = .ok (.iaload, 1) := dk_46 (blk_at bk_cX8_limit_38 34 rfl)
theorem dX8_limit_73 : decode cX8_limit 73 = .ok (.istore 5, 2) := dq_54 bk_cX8_limit_38 35 rfl rfl
theorem dX8_limit_75 : decode cX8_limit 75 = .ok (.iload 4, 2) := dq_21 bk_cX8_limit_38 37 rfl rfl
theorem dX8_limit_77 : decode cX8_limit 77 = .ok (.iload_n 2, 1) := dk_28 (blk_at bk_cX8_limit_38 39 rfl)
theorem bk_cX8_limit_78 : (cX8_limit.data.toList.drop 78).take 39 = [160, 0, 9, 21, 5, 29, 159, 0, 7, 42, 182, 1, 110, 42, 180, 0, 9, 16, 6, 5, 27, 104, 96, 28, 79, 42, 180, 0, 9, 16, 6, 5, 27, 104, 96, 4, 96, 29, 79] := by decide +kernel
theorem dX8_limit_78 : decode cX8_limit 78 = .ok (.if_icmp .ne 9, 3) := dq_160 bk_cX8_limit_78 0 rfl (by decide)
theorem dX8_limit_81 : decode cX8_limit 81 = .ok (.iload 5, 2) := dq_21 bk_cX8_limit_78 3 rfl rfl
theorem dX8_limit_83 : decode cX8_limit 83 = .ok (.iload_n 3, 1) := dk_29 (blk_at bk_cX8_limit_78 5 rfl)
theorem dX8_limit_84 : decode cX8_limit 84 = .ok (.if_icmp .eq 7, 3) := dq_159 bk_cX8_limit_78 6 rfl (by decide)
theorem dX8_limit_87 : decode cX8_limit 87 = .ok (.aload_n 0, 1) := dk_42 (blk_at bk_cX8_limit_78 9 rfl)
theorem dX8_limit_88 : decode cX8_limit 88 = .ok (.invokevirtual 366, 3) := dq_182 bk_cX8_limit_78 10 rfl rfl
theorem dX8_limit_91 : decode cX8_limit 91 = .ok (.aload_n 0, 1) := dk_42 (blk_at bk_cX8_limit_78 13 rfl)
theorem dX8_limit_92 : decode cX8_limit 92 = .ok (.getfield 9, 3) := dq_180 bk_cX8_limit_78 14 rfl rfl
theorem dX8_limit_95 : decode cX8_limit 95 = .ok (.bipush 6, 2) := dq_16 bk_cX8_limit_78 17 rfl (by decide)
theorem dX8_limit_97 : decode cX8_limit 97 = .ok (.iconst 2, 1) := dk_5 (blk_at bk_cX8_limit_78 19 rfl)
theorem dX8_limit_98 : decode cX8_limit 98 = .ok (.iload_n 1, 1) := dk_27 (blk_at bk_cX8_limit_78 20 rfl)
theorem dX8_limit_99 : decode cX8_limit 99 = .ok (.imul, 1) := dk_104 (blk_at bk_cX8_limit_78 21 rfl)
theorem dX8_limit_100 : decode cX8_limit 100 = .ok (.iadd, 1) := dk_96 (blk_at bk_cX8_limit_78 22 rfl)
theorem dX8_limit_101 : decode cX8_limit 101 = .ok (.iload_n 2, 1) := dk_28 (blk_at bk_cX8_limit_78 23 rfl)
theorem dX8_limit_102 : decode cX8_limit 102 = .ok (.iastore, 1) := dk_79 (blk_at bk_cX8_limit_78 24 rfl)
theorem dX8_limit_103 : decode cX8_limit 103 = .ok (.aload_n 0, 1) := dk_42 (blk_at bk_cX8_limit_78 25 rfl)
theorem dX8_limit_104 : decode cX8_limit 104 = .ok (.getfield 9, 3) := dq_180 bk_cX8_limit_78 26 rfl rfl
theorem dX8_limit_107 : decode cX8_limit 107 = .ok (.bipush 6, 2) := dq_16 bk_cX8_limit_78 29 rfl (by decide)
theorem dX8_limit_109 : decode cX8_limit 109 = .ok (.iconst 2, 1) := dk_5 (blk_at bk_cX8_limit_78 31 rfl)
theorem dX8_limit_110 : decode cX8_limit 110 = .ok (.iload_n 1, 1) := dk_27 (blk_at bk_cX8_limit_78 32 rfl)
theorem dX8_limit_111 : decode cX8_limit 111 = .ok (.imul, 1) := dk_104 (blk_at bk_cX8_limit_78 33 rfl)
theorem dX8_limit_112 : decode cX8_limit 112 = .ok (.iadd, 1) := dk_96 (blk_at bk_cX8_limit_78 34 rfl)
theorem dX8_limit_113 : decode cX8_limit 113 = .ok (.iconst 1, 1) := dk_4 (blk_at bk_cX8_limit_78 35 rfl)
theorem dX8_limit_114 : decode cX8_limit 114 = .ok (.iadd, 1) := dk_96 (blk_at bk_cX8_limit_78 36 rfl)
theorem dX8_limit_115 : decode cX8_limit 115 = .ok (.iload_n 3, 1) := dk_29 (blk_at bk_cX8_limit_78 37 rfl)
theorem dX8_limit_116 : decode cX8_limit 116 = .ok (.iastore, 1) := dk_79 (blk_at bk_cX8_limit_78 38 rfl)
theorem bk_cX8_limit_117 : (cX8_limit.data.toList.drop 117).take 9 = [16, 10, 21, 4, 104, 21, 5, 96, 172] := by decide +kernel
theorem dX8_limit_117 : decode cX8_limit 117 = .ok (.bipush 10, 2) := dq_16 bk_cX8_limit_117 0 rfl (by decide)
theorem dX8_limit_119 : decode cX8_limit 119 = .ok (.iload 4, 2) := dq_21 bk_cX8_limit_117 2 rfl rfl
theorem dX8_limit_121 : decode cX8_limit 121 = .ok (.imul, 1) := dk_104 (blk_at bk_cX8_limit_117 4 rfl)
theorem dX8_limit_122 : decode cX8_limit 122 = .ok (.iload 5, 2) := dq_21 bk_cX8_limit_117 5 rfl rfl
theorem dX8_limit_124 : decode cX8_limit 124 = .ok (.iadd, 1) := dk_96 (blk_at bk_cX8_limit_117 7 rfl)
theorem dX8_limit_125 : decode cX8_limit 125 = .ok (.ireturn, 1) := dk_172 (blk_at bk_cX8_limit_117 8 rfl)
theorem bk_cX8_ask_0 : (cX8_ask.data.toList.drop 0).take 39 = [28, 16, 10, 108, 16, 100, 112, 54, 6, 42, 27, 182, 1, 9, 153, 0, 41, 28, 133, 9, 20, 1, 137, 184, 0, 45, 153, 0, 29, 28, 16, 10, 112, 133, 9, 10, 184, 0, 45] := by decide +kernel
theorem dX8_ask_0 : decode cX8_ask 0 = .ok (.iload_n 2, 1) := dk_28 (blk_at bk_cX8_ask_0 0 rfl)
theorem dX8_ask_1 : decode cX8_ask 1 = .ok (.bipush 10, 2) := dq_16 bk_cX8_ask_0 1 rfl (by decide)
theorem dX8_ask_3 : decode cX8_ask 3 = .ok (.idiv, 1) := dk_108 (blk_at bk_cX8_ask_0 3 rfl)
theorem dX8_ask_4 : decode cX8_ask 4 = .ok (.bipush 100, 2) := dq_16 bk_cX8_ask_0 4 rfl (by decide)
theorem dX8_ask_6 : decode cX8_ask 6 = .ok (.irem, 1) := dk_112 (blk_at bk_cX8_ask_0 6 rfl)
theorem dX8_ask_7 : decode cX8_ask 7 = .ok (.istore 6, 2) := dq_54 bk_cX8_ask_0 7 rfl rfl
theorem dX8_ask_9 : decode cX8_ask 9 = .ok (.aload_n 0, 1) := dk_42 (blk_at bk_cX8_ask_0 9 rfl)
theorem dX8_ask_10 : decode cX8_ask 10 = .ok (.iload_n 1, 1) := dk_27 (blk_at bk_cX8_ask_0 10 rfl)
theorem dX8_ask_11 : decode cX8_ask 11 = .ok (.invokevirtual 265, 3) := dq_182 bk_cX8_ask_0 11 rfl rfl
theorem dX8_ask_14 : decode cX8_ask 14 = .ok (.ifCond .eq 41, 3) := dq_153 bk_cX8_ask_0 14 rfl (by decide)
theorem dX8_ask_17 : decode cX8_ask 17 = .ok (.iload_n 2, 1) := dk_28 (blk_at bk_cX8_ask_0 17 rfl)
theorem dX8_ask_18 : decode cX8_ask 18 = .ok (.i2l, 1) := dk_133 (blk_at bk_cX8_ask_0 18 rfl)
theorem dX8_ask_19 : decode cX8_ask 19 = .ok (.lconst 0, 1) := dk_9 (blk_at bk_cX8_ask_0 19 rfl)
theorem dX8_ask_20 : decode cX8_ask 20 = .ok (.ldc2_w 393, 3) := dq_20 bk_cX8_ask_0 20 rfl rfl
theorem dX8_ask_23 : decode cX8_ask 23 = .ok (.invokestatic 45, 3) := dq_184 bk_cX8_ask_0 23 rfl rfl
theorem dX8_ask_26 : decode cX8_ask 26 = .ok (.ifCond .eq 29, 3) := dq_153 bk_cX8_ask_0 26 rfl (by decide)
theorem dX8_ask_29 : decode cX8_ask 29 = .ok (.iload_n 2, 1) := dk_28 (blk_at bk_cX8_ask_0 29 rfl)
theorem dX8_ask_30 : decode cX8_ask 30 = .ok (.bipush 10, 2) := dq_16 bk_cX8_ask_0 30 rfl (by decide)
theorem dX8_ask_32 : decode cX8_ask 32 = .ok (.irem, 1) := dk_112 (blk_at bk_cX8_ask_0 32 rfl)
theorem dX8_ask_33 : decode cX8_ask 33 = .ok (.i2l, 1) := dk_133 (blk_at bk_cX8_ask_0 33 rfl)
theorem dX8_ask_34 : decode cX8_ask 34 = .ok (.lconst 0, 1) := dk_9 (blk_at bk_cX8_ask_0 34 rfl)
theorem dX8_ask_35 : decode cX8_ask 35 = .ok (.lconst 1, 1) := dk_10 (blk_at bk_cX8_ask_0 35 rfl)
theorem dX8_ask_36 : decode cX8_ask 36 = .ok (.invokestatic 45, 3) := dq_184 bk_cX8_ask_0 36 rfl rfl
theorem bk_cX8_ask_39 : (cX8_ask.data.toList.drop 39).take 40 = [153, 0, 16, 21, 6, 133, 9, 20, 0, 55, 184, 0, 45, 154, 0, 6, 16, 254, 172, 42, 29, 182, 0, 57, 153, 0, 33, 42, 21, 4, 182, 0, 57, 153, 0, 24, 21, 4, 29, 7] := by decide +kernel
theorem dX8_ask_39 : decode cX8_ask 39 = .ok (.ifCond .eq 16, 3) := dq_153 bk_cX8_ask_39 0 rfl (by decide)
theorem dX8_ask_42 : decode cX8_ask 42 = .ok (.iload 6, 2) := dq_21 bk_cX8_ask_39 3 rfl rfl
theorem dX8_ask_44 : decode cX8_ask 44 = .ok (.i2l, 1) := dk_133 (blk_at bk_cX8_ask_39 5 rfl)
theorem dX8_ask_45 : decode cX8_ask 45 = .ok (.lconst 0, 1) := dk_9 (blk_at bk_cX8_ask_39 6 rfl)
theorem dX8_ask_46 : decode cX8_ask 46 = .ok (.ldc2_w 55, 3) := dq_20 bk_cX8_ask_39 7 rfl rfl
theorem dX8_ask_49 : decode cX8_ask 49 = .ok (.invokestatic 45, 3) := dq_184 bk_cX8_ask_39 10 rfl rfl
theorem dX8_ask_52 : decode cX8_ask 52 = .ok (.ifCond .ne 6, 3) := dq_154 bk_cX8_ask_39 13 rfl (by decide)
theorem dX8_ask_55 : decode cX8_ask 55 = .ok (.bipush (-2), 2) := dq_16 bk_cX8_ask_39 16 rfl (by decide)
theorem dX8_ask_57 : decode cX8_ask 57 = .ok (.ireturn, 1) := dk_172 (blk_at bk_cX8_ask_39 18 rfl)
theorem dX8_ask_58 : decode cX8_ask 58 = .ok (.aload_n 0, 1) := dk_42 (blk_at bk_cX8_ask_39 19 rfl)
theorem dX8_ask_59 : decode cX8_ask 59 = .ok (.iload_n 3, 1) := dk_29 (blk_at bk_cX8_ask_39 20 rfl)
theorem dX8_ask_60 : decode cX8_ask 60 = .ok (.invokevirtual 57, 3) := dq_182 bk_cX8_ask_39 21 rfl rfl
theorem dX8_ask_63 : decode cX8_ask 63 = .ok (.ifCond .eq 33, 3) := dq_153 bk_cX8_ask_39 24 rfl (by decide)
theorem dX8_ask_66 : decode cX8_ask 66 = .ok (.aload_n 0, 1) := dk_42 (blk_at bk_cX8_ask_39 27 rfl)
theorem dX8_ask_67 : decode cX8_ask 67 = .ok (.iload 4, 2) := dq_21 bk_cX8_ask_39 28 rfl rfl
theorem dX8_ask_69 : decode cX8_ask 69 = .ok (.invokevirtual 57, 3) := dq_182 bk_cX8_ask_39 30 rfl rfl
theorem dX8_ask_72 : decode cX8_ask 72 = .ok (.ifCond .eq 24, 3) := dq_153 bk_cX8_ask_39 33 rfl (by decide)
theorem dX8_ask_75 : decode cX8_ask 75 = .ok (.iload 4, 2) := dq_21 bk_cX8_ask_39 36 rfl rfl
theorem dX8_ask_77 : decode cX8_ask 77 = .ok (.iload_n 3, 1) := dk_29 (blk_at bk_cX8_ask_39 38 rfl)
theorem dX8_ask_78 : decode cX8_ask 78 = .ok (.iconst 4, 1) := dk_7 (blk_at bk_cX8_ask_39 39 rfl)
theorem bk_cX8_ask_79 : (cX8_ask.data.toList.drop 79).take 39 = [96, 161, 0, 16, 21, 5, 133, 9, 20, 1, 132, 184, 0, 45, 154, 0, 6, 16, 254, 172, 42, 180, 0, 9, 6, 46, 16, 24, 160, 0, 6, 16, 251, 172, 42, 182, 1, 110, 42] := by decide +kernel
theorem dX8_ask_79 : decode cX8_ask 79 = .ok (.iadd, 1) := dk_96 (blk_at bk_cX8_ask_79 0 rfl)
theorem dX8_ask_80 : decode cX8_ask 80 = .ok (.if_icmp .lt 16, 3) := dq_161 bk_cX8_ask_79 1 rfl (by decide)
theorem dX8_ask_83 : decode cX8_ask 83 = .ok (.iload 5, 2) := dq_21 bk_cX8_ask_79 4 rfl rfl
theorem dX8_ask_85 : decode cX8_ask 85 = .ok (.i2l, 1) := dk_133 (blk_at bk_cX8_ask_79 6 rfl)
theorem dX8_ask_86 : decode cX8_ask 86 = .ok (.lconst 0, 1) := dk_9 (blk_at bk_cX8_ask_79 7 rfl)
theorem dX8_ask_87 : decode cX8_ask 87 = .ok (.ldc2_w 388, 3) := dq_20 bk_cX8_ask_79 8 rfl rfl
theorem dX8_ask_90 : decode cX8_ask 90 = .ok (.invokestatic 45, 3) := dq_184 bk_cX8_ask_79 11 rfl rfl
theorem dX8_ask_93 : decode cX8_ask 93 = .ok (.ifCond .ne 6, 3) := dq_154 bk_cX8_ask_79 14 rfl (by decide)
theorem dX8_ask_96 : decode cX8_ask 96 = .ok (.bipush (-2), 2) := dq_16 bk_cX8_ask_79 17 rfl (by decide)
theorem dX8_ask_98 : decode cX8_ask 98 = .ok (.ireturn, 1) := dk_172 (blk_at bk_cX8_ask_79 19 rfl)
theorem dX8_ask_99 : decode cX8_ask 99 = .ok (.aload_n 0, 1) := dk_42 (blk_at bk_cX8_ask_79 20 rfl)
theorem dX8_ask_100 : decode cX8_ask 100 = .ok (.getfield 9, 3) := dq_180 bk_cX8_ask_79 21 rfl rfl
theorem dX8_ask_103 : decode cX8_ask 103 = .ok (.iconst 3, 1) := dk_6 (blk_at bk_cX8_ask_79 24 rfl)
theorem dX8_ask_104 : decode cX8_ask 104 = .ok (.iaload, 1) := dk_46 (blk_at bk_cX8_ask_79 25 rfl)
theorem dX8_ask_105 : decode cX8_ask 105 = .ok (.bipush 24, 2) := dq_16 bk_cX8_ask_79 26 rfl (by decide)
theorem dX8_ask_107 : decode cX8_ask 107 = .ok (.if_icmp .ne 6, 3) := dq_160 bk_cX8_ask_79 28 rfl (by decide)
theorem dX8_ask_110 : decode cX8_ask 110 = .ok (.bipush (-5), 2) := dq_16 bk_cX8_ask_79 31 rfl (by decide)
theorem dX8_ask_112 : decode cX8_ask 112 = .ok (.ireturn, 1) := dk_172 (blk_at bk_cX8_ask_79 33 rfl)
theorem dX8_ask_113 : decode cX8_ask 113 = .ok (.aload_n 0, 1) := dk_42 (blk_at bk_cX8_ask_79 34 rfl)
theorem dX8_ask_114 : decode cX8_ask 114 = .ok (.invokevirtual 366, 3) := dq_182 bk_cX8_ask_79 35 rfl rfl
theorem dX8_ask_117 : decode cX8_ask 117 = .ok (.aload_n 0, 1) := dk_42 (blk_at bk_cX8_ask_79 38 rfl)
theorem bk_cX8_ask_118 : (cX8_ask.data.toList.drop 118).take 40 = [180, 0, 27, 3, 27, 79, 42, 180, 0, 27, 4, 28, 17, 3, 232, 108, 79, 42, 180, 0, 27, 5, 21, 6, 79, 42, 180, 0, 27, 6, 28, 16, 10, 112, 79, 42, 180, 0, 27, 7] := by decide +kernel
theorem dX8_ask_118 : decode cX8_ask 118 = .ok (.getfield 27, 3) := dq_180 bk_cX8_ask_118 0 rfl rfl
theorem dX8_ask_121 : decode cX8_ask 121 = .ok (.iconst 0, 1) := dk_3 (blk_at bk_cX8_ask_118 3 rfl)
theorem dX8_ask_122 : decode cX8_ask 122 = .ok (.iload_n 1, 1) := dk_27 (blk_at bk_cX8_ask_118 4 rfl)
theorem dX8_ask_123 : decode cX8_ask 123 = .ok (.iastore, 1) := dk_79 (blk_at bk_cX8_ask_118 5 rfl)
theorem dX8_ask_124 : decode cX8_ask 124 = .ok (.aload_n 0, 1) := dk_42 (blk_at bk_cX8_ask_118 6 rfl)
theorem dX8_ask_125 : decode cX8_ask 125 = .ok (.getfield 27, 3) := dq_180 bk_cX8_ask_118 7 rfl rfl
theorem dX8_ask_128 : decode cX8_ask 128 = .ok (.iconst 1, 1) := dk_4 (blk_at bk_cX8_ask_118 10 rfl)
theorem dX8_ask_129 : decode cX8_ask 129 = .ok (.iload_n 2, 1) := dk_28 (blk_at bk_cX8_ask_118 11 rfl)
theorem dX8_ask_130 : decode cX8_ask 130 = .ok (.sipush 1000, 3) := dq_17 bk_cX8_ask_118 12 rfl (by decide)
theorem dX8_ask_133 : decode cX8_ask 133 = .ok (.idiv, 1) := dk_108 (blk_at bk_cX8_ask_118 15 rfl)
theorem dX8_ask_134 : decode cX8_ask 134 = .ok (.iastore, 1) := dk_79 (blk_at bk_cX8_ask_118 16 rfl)
theorem dX8_ask_135 : decode cX8_ask 135 = .ok (.aload_n 0, 1) := dk_42 (blk_at bk_cX8_ask_118 17 rfl)
theorem dX8_ask_136 : decode cX8_ask 136 = .ok (.getfield 27, 3) := dq_180 bk_cX8_ask_118 18 rfl rfl
theorem dX8_ask_139 : decode cX8_ask 139 = .ok (.iconst 2, 1) := dk_5 (blk_at bk_cX8_ask_118 21 rfl)
theorem dX8_ask_140 : decode cX8_ask 140 = .ok (.iload 6, 2) := dq_21 bk_cX8_ask_118 22 rfl rfl
theorem dX8_ask_142 : decode cX8_ask 142 = .ok (.iastore, 1) := dk_79 (blk_at bk_cX8_ask_118 24 rfl)
theorem dX8_ask_143 : decode cX8_ask 143 = .ok (.aload_n 0, 1) := dk_42 (blk_at bk_cX8_ask_118 25 rfl)
theorem dX8_ask_144 : decode cX8_ask 144 = .ok (.getfield 27, 3) := dq_180 bk_cX8_ask_118 26 rfl rfl
theorem dX8_ask_147 : decode cX8_ask 147 = .ok (.iconst 3, 1) := dk_6 (blk_at bk_cX8_ask_118 29 rfl)
theorem dX8_ask_148 : decode cX8_ask 148 = .ok (.iload_n 2, 1) := dk_28 (blk_at bk_cX8_ask_118 30 rfl)
theorem dX8_ask_149 : decode cX8_ask 149 = .ok (.bipush 10, 2) := dq_16 bk_cX8_ask_118 31 rfl (by decide)
theorem dX8_ask_151 : decode cX8_ask 151 = .ok (.irem, 1) := dk_112 (blk_at bk_cX8_ask_118 33 rfl)
theorem dX8_ask_152 : decode cX8_ask 152 = .ok (.iastore, 1) := dk_79 (blk_at bk_cX8_ask_118 34 rfl)
theorem dX8_ask_153 : decode cX8_ask 153 = .ok (.aload_n 0, 1) := dk_42 (blk_at bk_cX8_ask_118 35 rfl)
theorem dX8_ask_154 : decode cX8_ask 154 = .ok (.getfield 27, 3) := dq_180 bk_cX8_ask_118 36 rfl rfl
theorem dX8_ask_157 : decode cX8_ask 157 = .ok (.iconst 4, 1) := dk_7 (blk_at bk_cX8_ask_118 39 rfl)
theorem bk_cX8_ask_158 : (cX8_ask.data.toList.drop 158).take 30 = [29, 79, 42, 180, 0, 27, 8, 21, 4, 79, 42, 180, 0, 27, 16, 6, 21, 5, 79, 42, 182, 0, 241, 42, 180, 0, 9, 6, 46, 172] := by decide +kernel
theorem dX8_ask_158 : decode cX8_ask 158 = .ok (.iload_n 3, 1) := dk_29 (blk_at bk_cX8_ask_158 0 rfl)
theorem dX8_ask_159 : decode cX8_ask 159 = .ok (.iastore, 1) := dk_79 (blk_at bk_cX8_ask_158 1 rfl)
theorem dX8_ask_160 : decode cX8_ask 160 = .ok (.aload_n 0, 1) := dk_42 (blk_at bk_cX8_ask_158 2 rfl)
theorem dX8_ask_161 : decode cX8_ask 161 = .ok (.getfield 27, 3) := dq_180 bk_cX8_ask_158 3 rfl rfl
theorem dX8_ask_164 : decode cX8_ask 164 = .ok (.iconst 5, 1) := dk_8 (blk_at bk_cX8_ask_158 6 rfl)
theorem dX8_ask_165 : decode cX8_ask 165 = .ok (.iload 4, 2) := dq_21 bk_cX8_ask_158 7 rfl rfl
theorem dX8_ask_167 : decode cX8_ask 167 = .ok (.iastore, 1) := dk_79 (blk_at bk_cX8_ask_158 9 rfl)
theorem dX8_ask_168 : decode cX8_ask 168 = .ok (.aload_n 0, 1) := dk_42 (blk_at bk_cX8_ask_158 10 rfl)
theorem dX8_ask_169 : decode cX8_ask 169 = .ok (.getfield 27, 3) := dq_180 bk_cX8_ask_158 11 rfl rfl
theorem dX8_ask_172 : decode cX8_ask 172 = .ok (.bipush 6, 2) := dq_16 bk_cX8_ask_158 14 rfl (by decide)
theorem dX8_ask_174 : decode cX8_ask 174 = .ok (.iload 5, 2) := dq_21 bk_cX8_ask_158 16 rfl rfl
theorem dX8_ask_176 : decode cX8_ask 176 = .ok (.iastore, 1) := dk_79 (blk_at bk_cX8_ask_158 18 rfl)
theorem dX8_ask_177 : decode cX8_ask 177 = .ok (.aload_n 0, 1) := dk_42 (blk_at bk_cX8_ask_158 19 rfl)
theorem dX8_ask_178 : decode cX8_ask 178 = .ok (.invokevirtual 241, 3) := dq_182 bk_cX8_ask_158 20 rfl rfl
theorem dX8_ask_181 : decode cX8_ask 181 = .ok (.aload_n 0, 1) := dk_42 (blk_at bk_cX8_ask_158 23 rfl)
theorem dX8_ask_182 : decode cX8_ask 182 = .ok (.getfield 9, 3) := dq_180 bk_cX8_ask_158 24 rfl rfl
theorem dX8_ask_185 : decode cX8_ask 185 = .ok (.iconst 3, 1) := dk_6 (blk_at bk_cX8_ask_158 27 rfl)
theorem dX8_ask_186 : decode cX8_ask 186 = .ok (.iaload, 1) := dk_46 (blk_at bk_cX8_ask_158 28 rfl)
theorem dX8_ask_187 : decode cX8_ask 187 = .ok (.ireturn, 1) := dk_172 (blk_at bk_cX8_ask_158 29 rfl)
theorem bk_cX8_drop_0 : (cX8_drop.data.toList.drop 0).take 27 = [42, 27, 182, 1, 25, 154, 0, 6, 16, 254, 172, 42, 182, 1, 110, 42, 27, 182, 1, 120, 42, 180, 0, 9, 6, 46, 172] := by decide +kernel
theorem dX8_drop_0 : decode cX8_drop 0 = .ok (.aload_n 0, 1) := dk_42 (blk_at bk_cX8_drop_0 0 rfl)
theorem dX8_drop_1 : decode cX8_drop 1 = .ok (.iload_n 1, 1) := dk_27 (blk_at bk_cX8_drop_0 1 rfl)
theorem dX8_drop_2 : decode cX8_drop 2 = .ok (.invokevirtual 281, 3) := dq_182 bk_cX8_drop_0 2 rfl rfl
theorem dX8_drop_5 : decode cX8_drop 5 = .ok (.ifCond .ne 6, 3) := dq_154 bk_cX8_drop_0 5 rfl (by decide)
theorem dX8_drop_8 : decode cX8_drop 8 = .ok (.bipush (-2), 2) := dq_16 bk_cX8_drop_0 8 rfl (by decide)
theorem dX8_drop_10 : decode cX8_drop 10 = .ok (.ireturn, 1) := dk_172 (blk_at bk_cX8_drop_0 10 rfl)
theorem dX8_drop_11 : decode cX8_drop 11 = .ok (.aload_n 0, 1) := dk_42 (blk_at bk_cX8_drop_0 11 rfl)
theorem dX8_drop_12 : decode cX8_drop 12 = .ok (.invokevirtual 366, 3) := dq_182 bk_cX8_drop_0 12 rfl rfl
theorem dX8_drop_15 : decode cX8_drop 15 = .ok (.aload_n 0, 1) := dk_42 (blk_at bk_cX8_drop_0 15 rfl)
theorem dX8_drop_16 : decode cX8_drop 16 = .ok (.iload_n 1, 1) := dk_27 (blk_at bk_cX8_drop_0 16 rfl)
theorem dX8_drop_17 : decode cX8_drop 17 = .ok (.invokevirtual 376, 3) := dq_182 bk_cX8_drop_0 17 rfl rfl
theorem dX8_drop_20 : decode cX8_drop 20 = .ok (.aload_n 0, 1) := dk_42 (blk_at bk_cX8_drop_0 20 rfl)
theorem dX8_drop_21 : decode cX8_drop 21 = .ok (.getfield 9, 3) := dq_180 bk_cX8_drop_0 21 rfl rfl
theorem dX8_drop_24 : decode cX8_drop 24 = .ok (.iconst 3, 1) := dk_6 (blk_at bk_cX8_drop_0 24 rfl)
theorem dX8_drop_25 : decode cX8_drop 25 = .ok (.iaload, 1) := dk_46 (blk_at bk_cX8_drop_0 25 rfl)
theorem dX8_drop_26 : decode cX8_drop 26 = .ok (.ireturn, 1) := dk_172 (blk_at bk_cX8_drop_0 26 rfl)
theorem bk_cX8_stays_0 : (cX8_stays.data.toList.drop 0).take 39 = [42, 27, 182, 0, 71, 62, 3, 54, 4, 21, 4, 16, 12, 162, 0, 23, 42, 28, 21, 4, 42, 27, 21, 4, 182, 0, 67, 182, 0, 230, 132, 4, 1, 167, 255, 232, 3, 54, 4] := by decide +kernel
theorem dX8_stays_0 : decode cX8_stays 0 = .ok (.aload_n 0, 1) := dk_42 (blk_at bk_cX8_stays_0 0 rfl)
theorem dX8_stays_1 : decode cX8_stays 1 = .ok (.iload_n 1, 1) := dk_27 (blk_at bk_cX8_stays_0 1 rfl)
theorem dX8_stays_2 : decode cX8_stays 2 = .ok (.invokevirtual 71, 3) := dq_182 bk_cX8_stays_0 2 rfl rfl
theorem dX8_stays_5 : decode cX8_stays 5 = .ok (.istore_n 3, 1) := dk_62 (blk_at bk_cX8_stays_0 5 rfl)
theorem dX8_stays_6 : decode cX8_stays 6 = .ok (.iconst 0, 1) := dk_3 (blk_at bk_cX8_stays_0 6 rfl)
theorem dX8_stays_7 : decode cX8_stays 7 = .ok (.istore 4, 2) := dq_54 bk_cX8_stays_0 7 rfl rfl
theorem dX8_stays_9 : decode cX8_stays 9 = .ok (.iload 4, 2) := dq_21 bk_cX8_stays_0 9 rfl rfl
theorem dX8_stays_11 : decode cX8_stays 11 = .ok (.bipush 12, 2) := dq_16 bk_cX8_stays_0 11 rfl (by decide)
theorem dX8_stays_13 : decode cX8_stays 13 = .ok (.if_icmp .ge 23, 3) := dq_162 bk_cX8_stays_0 13 rfl (by decide)
theorem dX8_stays_16 : decode cX8_stays 16 = .ok (.aload_n 0, 1) := dk_42 (blk_at bk_cX8_stays_0 16 rfl)
theorem dX8_stays_17 : decode cX8_stays 17 = .ok (.iload_n 2, 1) := dk_28 (blk_at bk_cX8_stays_0 17 rfl)
theorem dX8_stays_18 : decode cX8_stays 18 = .ok (.iload 4, 2) := dq_21 bk_cX8_stays_0 18 rfl rfl
theorem dX8_stays_20 : decode cX8_stays 20 = .ok (.aload_n 0, 1) := dk_42 (blk_at bk_cX8_stays_0 20 rfl)
theorem dX8_stays_21 : decode cX8_stays 21 = .ok (.iload_n 1, 1) := dk_27 (blk_at bk_cX8_stays_0 21 rfl)
theorem dX8_stays_22 : decode cX8_stays 22 = .ok (.iload 4, 2) := dq_21 bk_cX8_stays_0 22 rfl rfl
theorem dX8_stays_24 : decode cX8_stays 24 = .ok (.invokevirtual 67, 3) := dq_182 bk_cX8_stays_0 24 rfl rfl
theorem dX8_stays_27 : decode cX8_stays 27 = .ok (.invokevirtual 230, 3) := dq_182 bk_cX8_stays_0 27 rfl rfl
theorem dX8_stays_30 : decode cX8_stays 30 = .ok (.iinc 4 1, 3) := dq_132 bk_cX8_stays_0 30 rfl rfl (by decide)
theorem dX8_stays_33 : decode cX8_stays 33 = .ok (.goto (-24), 3) := dq_167 bk_cX8_stays_0 33 rfl (by decide)
theorem dX8_stays_36 : decode cX8_stays 36 = .ok (.iconst 0, 1) := dk_3 (blk_at bk_cX8_stays_0 36 rfl)
theorem dX8_stays_37 : decode cX8_stays 37 = .ok (.istore 4, 2) := dq_54 bk_cX8_stays_0 37 rfl rfl
theorem bk_cX8_stays_39 : (cX8_stays.data.toList.drop 39).take 40 = [21, 4, 8, 162, 0, 29, 42, 28, 16, 7, 21, 4, 96, 21, 4, 154, 0, 7, 29, 167, 0, 4, 3, 182, 0, 230, 132, 4, 1, 167, 255, 227, 42, 28, 7, 3, 182, 0, 230, 177] := by decide +kernel
theorem dX8_stays_39 : decode cX8_stays 39 = .ok (.iload 4, 2) := dq_21 bk_cX8_stays_39 0 rfl rfl
theorem dX8_stays_41 : decode cX8_stays 41 = .ok (.iconst 5, 1) := dk_8 (blk_at bk_cX8_stays_39 2 rfl)
theorem dX8_stays_42 : decode cX8_stays 42 = .ok (.if_icmp .ge 29, 3) := dq_162 bk_cX8_stays_39 3 rfl (by decide)
theorem dX8_stays_45 : decode cX8_stays 45 = .ok (.aload_n 0, 1) := dk_42 (blk_at bk_cX8_stays_39 6 rfl)
theorem dX8_stays_46 : decode cX8_stays 46 = .ok (.iload_n 2, 1) := dk_28 (blk_at bk_cX8_stays_39 7 rfl)
theorem dX8_stays_47 : decode cX8_stays 47 = .ok (.bipush 7, 2) := dq_16 bk_cX8_stays_39 8 rfl (by decide)
theorem dX8_stays_49 : decode cX8_stays 49 = .ok (.iload 4, 2) := dq_21 bk_cX8_stays_39 10 rfl rfl
theorem dX8_stays_51 : decode cX8_stays 51 = .ok (.iadd, 1) := dk_96 (blk_at bk_cX8_stays_39 12 rfl)
theorem dX8_stays_52 : decode cX8_stays 52 = .ok (.iload 4, 2) := dq_21 bk_cX8_stays_39 13 rfl rfl
theorem dX8_stays_54 : decode cX8_stays 54 = .ok (.ifCond .ne 7, 3) := dq_154 bk_cX8_stays_39 15 rfl (by decide)
theorem dX8_stays_57 : decode cX8_stays 57 = .ok (.iload_n 3, 1) := dk_29 (blk_at bk_cX8_stays_39 18 rfl)
theorem dX8_stays_58 : decode cX8_stays 58 = .ok (.goto 4, 3) := dq_167 bk_cX8_stays_39 19 rfl (by decide)
theorem dX8_stays_61 : decode cX8_stays 61 = .ok (.iconst 0, 1) := dk_3 (blk_at bk_cX8_stays_39 22 rfl)
theorem dX8_stays_62 : decode cX8_stays 62 = .ok (.invokevirtual 230, 3) := dq_182 bk_cX8_stays_39 23 rfl rfl
theorem dX8_stays_65 : decode cX8_stays 65 = .ok (.iinc 4 1, 3) := dq_132 bk_cX8_stays_39 26 rfl rfl (by decide)
theorem dX8_stays_68 : decode cX8_stays 68 = .ok (.goto (-29), 3) := dq_167 bk_cX8_stays_39 29 rfl (by decide)
theorem dX8_stays_71 : decode cX8_stays 71 = .ok (.aload_n 0, 1) := dk_42 (blk_at bk_cX8_stays_39 32 rfl)
theorem dX8_stays_72 : decode cX8_stays 72 = .ok (.iload_n 2, 1) := dk_28 (blk_at bk_cX8_stays_39 33 rfl)
theorem dX8_stays_73 : decode cX8_stays 73 = .ok (.iconst 4, 1) := dk_7 (blk_at bk_cX8_stays_39 34 rfl)
theorem dX8_stays_74 : decode cX8_stays 74 = .ok (.iconst 0, 1) := dk_3 (blk_at bk_cX8_stays_39 35 rfl)
theorem dX8_stays_75 : decode cX8_stays 75 = .ok (.invokevirtual 230, 3) := dq_182 bk_cX8_stays_39 36 rfl rfl
theorem dX8_stays_78 : decode cX8_stays 78 = .ok (.return_, 1) := dk_177 (blk_at bk_cX8_stays_39 39 rfl)
theorem bk_cX8_ends_0 : (cX8_ends.data.toList.drop 0).take 38 = [42, 182, 0, 49, 154, 0, 6, 16, 254, 172, 42, 180, 0, 9, 7, 46, 42, 180, 0, 9, 3, 46, 162, 0, 6, 16, 250, 172, 42, 182, 1, 110, 3, 60, 3, 61, 28, 42] := by decide +kernel
theorem dX8_ends_0 : decode cX8_ends 0 = .ok (.aload_n 0, 1) := dk_42 (blk_at bk_cX8_ends_0 0 rfl)
theorem dX8_ends_1 : decode cX8_ends 1 = .ok (.invokevirtual 49, 3) := dq_182 bk_cX8_ends_0 1 rfl rfl
theorem dX8_ends_4 : decode cX8_ends 4 = .ok (.ifCond .ne 6, 3) := dq_154 bk_cX8_ends_0 4 rfl (by decide)
theorem dX8_ends_7 : decode cX8_ends 7 = .ok (.bipush (-2), 2) := dq_16 bk_cX8_ends_0 7 rfl (by decide)
theorem dX8_ends_9 : decode cX8_ends 9 = .ok (.ireturn, 1) := dk_172 (blk_at bk_cX8_ends_0 9 rfl)
theorem dX8_ends_10 : decode cX8_ends 10 = .ok (.aload_n 0, 1) := dk_42 (blk_at bk_cX8_ends_0 10 rfl)
theorem dX8_ends_11 : decode cX8_ends 11 = .ok (.getfield 9, 3) := dq_180 bk_cX8_ends_0 11 rfl rfl
theorem dX8_ends_14 : decode cX8_ends 14 = .ok (.iconst 4, 1) := dk_7 (blk_at bk_cX8_ends_0 14 rfl)
theorem dX8_ends_15 : decode cX8_ends 15 = .ok (.iaload, 1) := dk_46 (blk_at bk_cX8_ends_0 15 rfl)
theorem dX8_ends_16 : decode cX8_ends 16 = .ok (.aload_n 0, 1) := dk_42 (blk_at bk_cX8_ends_0 16 rfl)
theorem dX8_ends_17 : decode cX8_ends 17 = .ok (.getfield 9, 3) := dq_180 bk_cX8_ends_0 17 rfl rfl
theorem dX8_ends_20 : decode cX8_ends 20 = .ok (.iconst 0, 1) := dk_3 (blk_at bk_cX8_ends_0 20 rfl)
theorem dX8_ends_21 : decode cX8_ends 21 = .ok (.iaload, 1) := dk_46 (blk_at bk_cX8_ends_0 21 rfl)
theorem dX8_ends_22 : decode cX8_ends 22 = .ok (.if_icmp .ge 6, 3) := dq_162 bk_cX8_ends_0 22 rfl (by decide)
theorem dX8_ends_25 : decode cX8_ends 25 = .ok (.bipush (-6), 2) := dq_16 bk_cX8_ends_0 25 rfl (by decide)
theorem dX8_ends_27 : decode cX8_ends 27 = .ok (.ireturn, 1) := dk_172 (blk_at bk_cX8_ends_0 27 rfl)
theorem dX8_ends_28 : decode cX8_ends 28 = .ok (.aload_n 0, 1) := dk_42 (blk_at bk_cX8_ends_0 28 rfl)
theorem dX8_ends_29 : decode cX8_ends 29 = .ok (.invokevirtual 366, 3) := dq_182 bk_cX8_ends_0 29 rfl rfl
theorem dX8_ends_32 : decode cX8_ends 32 = .ok (.iconst 0, 1) := dk_3 (blk_at bk_cX8_ends_0 32 rfl)
theorem dX8_ends_33 : decode cX8_ends 33 = .ok (.istore_n 1, 1) := dk_60 (blk_at bk_cX8_ends_0 33 rfl)
theorem dX8_ends_34 : decode cX8_ends 34 = .ok (.iconst 0, 1) := dk_3 (blk_at bk_cX8_ends_0 34 rfl)
theorem dX8_ends_35 : decode cX8_ends 35 = .ok (.istore_n 2, 1) := dk_61 (blk_at bk_cX8_ends_0 35 rfl)
theorem dX8_ends_36 : decode cX8_ends 36 = .ok (.iload_n 2, 1) := dk_28 (blk_at bk_cX8_ends_0 36 rfl)
theorem dX8_ends_37 : decode cX8_ends 37 = .ok (.aload_n 0, 1) := dk_42 (blk_at bk_cX8_ends_0 37 rfl)
theorem bk_cX8_ends_38 : (cX8_ends.data.toList.drop 38).take 40 = [180, 0, 9, 5, 46, 162, 0, 30, 42, 28, 3, 182, 1, 46, 154, 0, 6, 167, 0, 12, 42, 28, 27, 182, 1, 139, 132, 1, 1, 132, 2, 1, 167, 255, 222, 42, 180, 0, 9, 5] := by decide +kernel
theorem dX8_ends_38 : decode cX8_ends 38 = .ok (.getfield 9, 3) := dq_180 bk_cX8_ends_38 0 rfl rfl
theorem dX8_ends_41 : decode cX8_ends 41 = .ok (.iconst 2, 1) := dk_5 (blk_at bk_cX8_ends_38 3 rfl)
theorem dX8_ends_42 : decode cX8_ends 42 = .ok (.iaload, 1) := dk_46 (blk_at bk_cX8_ends_38 4 rfl)
theorem dX8_ends_43 : decode cX8_ends 43 = .ok (.if_icmp .ge 30, 3) := dq_162 bk_cX8_ends_38 5 rfl (by decide)
theorem dX8_ends_46 : decode cX8_ends 46 = .ok (.aload_n 0, 1) := dk_42 (blk_at bk_cX8_ends_38 8 rfl)
theorem dX8_ends_47 : decode cX8_ends 47 = .ok (.iload_n 2, 1) := dk_28 (blk_at bk_cX8_ends_38 9 rfl)
theorem dX8_ends_48 : decode cX8_ends 48 = .ok (.iconst 0, 1) := dk_3 (blk_at bk_cX8_ends_38 10 rfl)
theorem dX8_ends_49 : decode cX8_ends 49 = .ok (.invokevirtual 302, 3) := dq_182 bk_cX8_ends_38 11 rfl rfl
theorem dX8_ends_52 : decode cX8_ends 52 = .ok (.ifCond .ne 6, 3) := dq_154 bk_cX8_ends_38 14 rfl (by decide)
theorem dX8_ends_55 : decode cX8_ends 55 = .ok (.goto 12, 3) := dq_167 bk_cX8_ends_38 17 rfl (by decide)
theorem dX8_ends_58 : decode cX8_ends 58 = .ok (.aload_n 0, 1) := dk_42 (blk_at bk_cX8_ends_38 20 rfl)
theorem dX8_ends_59 : decode cX8_ends 59 = .ok (.iload_n 2, 1) := dk_28 (blk_at bk_cX8_ends_38 21 rfl)
theorem dX8_ends_60 : decode cX8_ends 60 = .ok (.iload_n 1, 1) := dk_27 (blk_at bk_cX8_ends_38 22 rfl)
theorem dX8_ends_61 : decode cX8_ends 61 = .ok (.invokevirtual 395, 3) := dq_182 bk_cX8_ends_38 23 rfl rfl
theorem dX8_ends_64 : decode cX8_ends 64 = .ok (.iinc 1 1, 3) := dq_132 bk_cX8_ends_38 26 rfl rfl (by decide)
theorem dX8_ends_67 : decode cX8_ends 67 = .ok (.iinc 2 1, 3) := dq_132 bk_cX8_ends_38 29 rfl rfl (by decide)
theorem dX8_ends_70 : decode cX8_ends 70 = .ok (.goto (-34), 3) := dq_167 bk_cX8_ends_38 32 rfl (by decide)
theorem dX8_ends_73 : decode cX8_ends 73 = .ok (.aload_n 0, 1) := dk_42 (blk_at bk_cX8_ends_38 35 rfl)
theorem dX8_ends_74 : decode cX8_ends 74 = .ok (.getfield 9, 3) := dq_180 bk_cX8_ends_38 36 rfl rfl
theorem dX8_ends_77 : decode cX8_ends 77 = .ok (.iconst 2, 1) := dk_5 (blk_at bk_cX8_ends_38 39 rfl)
theorem bk_cX8_ends_78 : (cX8_ends.data.toList.drop 78).take 28 = [27, 79, 42, 180, 0, 9, 6, 3, 79, 42, 180, 0, 9, 7, 3, 79, 42, 180, 0, 9, 8, 92, 46, 4, 96, 79, 27, 172] := by decide +kernel
theorem dX8_ends_78 : decode cX8_ends 78 = .ok (.iload_n 1, 1) := dk_27 (blk_at bk_cX8_ends_78 0 rfl)
theorem dX8_ends_79 : decode cX8_ends 79 = .ok (.iastore, 1) := dk_79 (blk_at bk_cX8_ends_78 1 rfl)
theorem dX8_ends_80 : decode cX8_ends 80 = .ok (.aload_n 0, 1) := dk_42 (blk_at bk_cX8_ends_78 2 rfl)
theorem dX8_ends_81 : decode cX8_ends 81 = .ok (.getfield 9, 3) := dq_180 bk_cX8_ends_78 3 rfl rfl
theorem dX8_ends_84 : decode cX8_ends 84 = .ok (.iconst 3, 1) := dk_6 (blk_at bk_cX8_ends_78 6 rfl)
theorem dX8_ends_85 : decode cX8_ends 85 = .ok (.iconst 0, 1) := dk_3 (blk_at bk_cX8_ends_78 7 rfl)
theorem dX8_ends_86 : decode cX8_ends 86 = .ok (.iastore, 1) := dk_79 (blk_at bk_cX8_ends_78 8 rfl)
theorem dX8_ends_87 : decode cX8_ends 87 = .ok (.aload_n 0, 1) := dk_42 (blk_at bk_cX8_ends_78 9 rfl)
theorem dX8_ends_88 : decode cX8_ends 88 = .ok (.getfield 9, 3) := dq_180 bk_cX8_ends_78 10 rfl rfl
theorem dX8_ends_91 : decode cX8_ends 91 = .ok (.iconst 4, 1) := dk_7 (blk_at bk_cX8_ends_78 13 rfl)
theorem dX8_ends_92 : decode cX8_ends 92 = .ok (.iconst 0, 1) := dk_3 (blk_at bk_cX8_ends_78 14 rfl)
theorem dX8_ends_93 : decode cX8_ends 93 = .ok (.iastore, 1) := dk_79 (blk_at bk_cX8_ends_78 15 rfl)
theorem dX8_ends_94 : decode cX8_ends 94 = .ok (.aload_n 0, 1) := dk_42 (blk_at bk_cX8_ends_78 16 rfl)
theorem dX8_ends_95 : decode cX8_ends 95 = .ok (.getfield 9, 3) := dq_180 bk_cX8_ends_78 17 rfl rfl
theorem dX8_ends_98 : decode cX8_ends 98 = .ok (.iconst 5, 1) := dk_8 (blk_at bk_cX8_ends_78 20 rfl)
theorem dX8_ends_99 : decode cX8_ends 99 = .ok (.dup2, 1) := dk_92 (blk_at bk_cX8_ends_78 21 rfl)
theorem dX8_ends_100 : decode cX8_ends 100 = .ok (.iaload, 1) := dk_46 (blk_at bk_cX8_ends_78 22 rfl)
theorem dX8_ends_101 : decode cX8_ends 101 = .ok (.iconst 1, 1) := dk_4 (blk_at bk_cX8_ends_78 23 rfl)
theorem dX8_ends_102 : decode cX8_ends 102 = .ok (.iadd, 1) := dk_96 (blk_at bk_cX8_ends_78 24 rfl)
theorem dX8_ends_103 : decode cX8_ends 103 = .ok (.iastore, 1) := dk_79 (blk_at bk_cX8_ends_78 25 rfl)
theorem dX8_ends_104 : decode cX8_ends 104 = .ok (.iload_n 1, 1) := dk_27 (blk_at bk_cX8_ends_78 26 rfl)
theorem dX8_ends_105 : decode cX8_ends 105 = .ok (.ireturn, 1) := dk_172 (blk_at bk_cX8_ends_78 27 rfl)
theorem bk_cX8_says_0 : (cX8_says.data.toList.drop 0).take 22 = [42, 180, 0, 39, 42, 180, 1, 142, 27, 145, 84, 42, 89, 180, 1, 142, 4, 96, 181, 1, 142, 177] := by decide +kernel
theorem dX8_says_0 : decode cX8_says 0 = .ok (.aload_n 0, 1) := dk_42 (blk_at bk_cX8_says_0 0 rfl)
theorem dX8_says_1 : decode cX8_says 1 = .ok (.getfield 39, 3) := dq_180 bk_cX8_says_0 1 rfl rfl
theorem dX8_says_4 : decode cX8_says 4 = .ok (.aload_n 0, 1) := dk_42 (blk_at bk_cX8_says_0 4 rfl)
theorem dX8_says_5 : decode cX8_says 5 = .ok (.getfield 398, 3) := dq_180 bk_cX8_says_0 5 rfl rfl
theorem dX8_says_8 : decode cX8_says 8 = .ok (.iload_n 1, 1) := dk_27 (blk_at bk_cX8_says_0 8 rfl)
theorem dX8_says_9 : decode cX8_says 9 = .ok (.i2b, 1) := dk_145 (blk_at bk_cX8_says_0 9 rfl)
theorem dX8_says_10 : decode cX8_says 10 = .ok (.bastore, 1) := dk_84 (blk_at bk_cX8_says_0 10 rfl)
theorem dX8_says_11 : decode cX8_says 11 = .ok (.aload_n 0, 1) := dk_42 (blk_at bk_cX8_says_0 11 rfl)
theorem dX8_says_12 : decode cX8_says 12 = .ok (.dup, 1) := dk_89 (blk_at bk_cX8_says_0 12 rfl)
theorem dX8_says_13 : decode cX8_says 13 = .ok (.getfield 398, 3) := dq_180 bk_cX8_says_0 13 rfl rfl
theorem dX8_says_16 : decode cX8_says 16 = .ok (.iconst 1, 1) := dk_4 (blk_at bk_cX8_says_0 16 rfl)
theorem dX8_says_17 : decode cX8_says 17 = .ok (.iadd, 1) := dk_96 (blk_at bk_cX8_says_0 17 rfl)
theorem dX8_says_18 : decode cX8_says 18 = .ok (.putfield 398, 3) := dq_181 bk_cX8_says_0 18 rfl rfl
theorem dX8_says_21 : decode cX8_says 21 = .ok (.return_, 1) := dk_177 (blk_at bk_cX8_says_0 21 rfl)
theorem bk_cX8_saysText_0 : (cX8_saysText.data.toList.drop 0).take 26 = [3, 61, 28, 43, 182, 0, 138, 162, 0, 18, 42, 43, 28, 182, 0, 143, 182, 1, 145, 132, 2, 1, 167, 255, 236, 177] := by decide +kernel
theorem dX8_saysText_0 : decode cX8_saysText 0 = .ok (.iconst 0, 1) := dk_3 (blk_at bk_cX8_saysText_0 0 rfl)
theorem dX8_saysText_1 : decode cX8_saysText 1 = .ok (.istore_n 2, 1) := dk_61 (blk_at bk_cX8_saysText_0 1 rfl)
theorem dX8_saysText_2 : decode cX8_saysText 2 = .ok (.iload_n 2, 1) := dk_28 (blk_at bk_cX8_saysText_0 2 rfl)
theorem dX8_saysText_3 : decode cX8_saysText 3 = .ok (.aload_n 1, 1) := dk_43 (blk_at bk_cX8_saysText_0 3 rfl)
theorem dX8_saysText_4 : decode cX8_saysText 4 = .ok (.invokevirtual 138, 3) := dq_182 bk_cX8_saysText_0 4 rfl rfl
theorem dX8_saysText_7 : decode cX8_saysText 7 = .ok (.if_icmp .ge 18, 3) := dq_162 bk_cX8_saysText_0 7 rfl (by decide)
theorem dX8_saysText_10 : decode cX8_saysText 10 = .ok (.aload_n 0, 1) := dk_42 (blk_at bk_cX8_saysText_0 10 rfl)
theorem dX8_saysText_11 : decode cX8_saysText 11 = .ok (.aload_n 1, 1) := dk_43 (blk_at bk_cX8_saysText_0 11 rfl)
theorem dX8_saysText_12 : decode cX8_saysText 12 = .ok (.iload_n 2, 1) := dk_28 (blk_at bk_cX8_saysText_0 12 rfl)
theorem dX8_saysText_13 : decode cX8_saysText 13 = .ok (.invokevirtual 143, 3) := dq_182 bk_cX8_saysText_0 13 rfl rfl
theorem dX8_saysText_16 : decode cX8_saysText 16 = .ok (.invokevirtual 401, 3) := dq_182 bk_cX8_saysText_0 16 rfl rfl
theorem dX8_saysText_19 : decode cX8_saysText 19 = .ok (.iinc 2 1, 3) := dq_132 bk_cX8_saysText_0 19 rfl rfl (by decide)
theorem dX8_saysText_22 : decode cX8_saysText 22 = .ok (.goto (-20), 3) := dq_167 bk_cX8_saysText_0 22 rfl (by decide)
theorem dX8_saysText_25 : decode cX8_saysText 25 = .ok (.return_, 1) := dk_177 (blk_at bk_cX8_saysText_0 25 rfl)
theorem bk_cX8_saysNumber_0 : (cX8_saysNumber.data.toList.drop 0).take 29 = [27, 16, 10, 161, 0, 14, 42, 16, 48, 27, 16, 10, 108, 96, 182, 1, 145, 42, 16, 48, 27, 16, 10, 112, 96, 182, 1, 145, 177] := by decide +kernel
theorem dX8_saysNumber_0 : decode cX8_saysNumber 0 = .ok (.iload_n 1, 1) := dk_27 (blk_at bk_cX8_saysNumber_0 0 rfl)
theorem dX8_saysNumber_1 : decode cX8_saysNumber 1 = .ok (.bipush 10, 2) := dq_16 bk_cX8_saysNumber_0 1 rfl (by decide)
theorem dX8_saysNumber_3 : decode cX8_saysNumber 3 = .ok (.if_icmp .lt 14, 3) := dq_161 bk_cX8_saysNumber_0 3 rfl (by decide)
theorem dX8_saysNumber_6 : decode cX8_saysNumber 6 = .ok (.aload_n 0, 1) := dk_42 (blk_at bk_cX8_saysNumber_0 6 rfl)
theorem dX8_saysNumber_7 : decode cX8_saysNumber 7 = .ok (.bipush 48, 2) := dq_16 bk_cX8_saysNumber_0 7 rfl (by decide)
theorem dX8_saysNumber_9 : decode cX8_saysNumber 9 = .ok (.iload_n 1, 1) := dk_27 (blk_at bk_cX8_saysNumber_0 9 rfl)
theorem dX8_saysNumber_10 : decode cX8_saysNumber 10 = .ok (.bipush 10, 2) := dq_16 bk_cX8_saysNumber_0 10 rfl (by decide)
theorem dX8_saysNumber_12 : decode cX8_saysNumber 12 = .ok (.idiv, 1) := dk_108 (blk_at bk_cX8_saysNumber_0 12 rfl)
theorem dX8_saysNumber_13 : decode cX8_saysNumber 13 = .ok (.iadd, 1) := dk_96 (blk_at bk_cX8_saysNumber_0 13 rfl)
theorem dX8_saysNumber_14 : decode cX8_saysNumber 14 = .ok (.invokevirtual 401, 3) := dq_182 bk_cX8_saysNumber_0 14 rfl rfl
theorem dX8_saysNumber_17 : decode cX8_saysNumber 17 = .ok (.aload_n 0, 1) := dk_42 (blk_at bk_cX8_saysNumber_0 17 rfl)
theorem dX8_saysNumber_18 : decode cX8_saysNumber 18 = .ok (.bipush 48, 2) := dq_16 bk_cX8_saysNumber_0 18 rfl (by decide)
theorem dX8_saysNumber_20 : decode cX8_saysNumber 20 = .ok (.iload_n 1, 1) := dk_27 (blk_at bk_cX8_saysNumber_0 20 rfl)
theorem dX8_saysNumber_21 : decode cX8_saysNumber 21 = .ok (.bipush 10, 2) := dq_16 bk_cX8_saysNumber_0 21 rfl (by decide)
theorem dX8_saysNumber_23 : decode cX8_saysNumber 23 = .ok (.irem, 1) := dk_112 (blk_at bk_cX8_saysNumber_0 23 rfl)
theorem dX8_saysNumber_24 : decode cX8_saysNumber 24 = .ok (.iadd, 1) := dk_96 (blk_at bk_cX8_saysNumber_0 24 rfl)
theorem dX8_saysNumber_25 : decode cX8_saysNumber 25 = .ok (.invokevirtual 401, 3) := dq_182 bk_cX8_saysNumber_0 25 rfl rfl
theorem dX8_saysNumber_28 : decode cX8_saysNumber 28 = .ok (.return_, 1) := dk_177 (blk_at bk_cX8_saysNumber_0 28 rfl)
theorem bk_cX8_saysName_0 : (cX8_saysName.data.toList.drop 0).take 40 = [3, 61, 28, 16, 6, 162, 0, 47, 42, 180, 0, 9, 16, 54, 27, 96, 46, 28, 184, 1, 14, 158, 0, 25, 42, 16, 97, 42, 180, 0, 9, 16, 54, 27, 96, 46, 28, 184, 1, 14] := by decide +kernel
theorem dX8_saysName_0 : decode cX8_saysName 0 = .ok (.iconst 0, 1) := dk_3 (blk_at bk_cX8_saysName_0 0 rfl)
theorem dX8_saysName_1 : decode cX8_saysName 1 = .ok (.istore_n 2, 1) := dk_61 (blk_at bk_cX8_saysName_0 1 rfl)
theorem dX8_saysName_2 : decode cX8_saysName 2 = .ok (.iload_n 2, 1) := dk_28 (blk_at bk_cX8_saysName_0 2 rfl)
theorem dX8_saysName_3 : decode cX8_saysName 3 = .ok (.bipush 6, 2) := dq_16 bk_cX8_saysName_0 3 rfl (by decide)
theorem dX8_saysName_5 : decode cX8_saysName 5 = .ok (.if_icmp .ge 47, 3) := dq_162 bk_cX8_saysName_0 5 rfl (by decide)
theorem dX8_saysName_8 : decode cX8_saysName 8 = .ok (.aload_n 0, 1) := dk_42 (blk_at bk_cX8_saysName_0 8 rfl)
theorem dX8_saysName_9 : decode cX8_saysName 9 = .ok (.getfield 9, 3) := dq_180 bk_cX8_saysName_0 9 rfl rfl
theorem dX8_saysName_12 : decode cX8_saysName 12 = .ok (.bipush 54, 2) := dq_16 bk_cX8_saysName_0 12 rfl (by decide)
theorem dX8_saysName_14 : decode cX8_saysName 14 = .ok (.iload_n 1, 1) := dk_27 (blk_at bk_cX8_saysName_0 14 rfl)
theorem dX8_saysName_15 : decode cX8_saysName 15 = .ok (.iadd, 1) := dk_96 (blk_at bk_cX8_saysName_0 15 rfl)
theorem dX8_saysName_16 : decode cX8_saysName 16 = .ok (.iaload, 1) := dk_46 (blk_at bk_cX8_saysName_0 16 rfl)
theorem dX8_saysName_17 : decode cX8_saysName 17 = .ok (.iload_n 2, 1) := dk_28 (blk_at bk_cX8_saysName_0 17 rfl)
theorem dX8_saysName_18 : decode cX8_saysName 18 = .ok (.invokestatic 270, 3) := dq_184 bk_cX8_saysName_0 18 rfl rfl
theorem dX8_saysName_21 : decode cX8_saysName 21 = .ok (.ifCond .le 25, 3) := dq_158 bk_cX8_saysName_0 21 rfl (by decide)
theorem dX8_saysName_24 : decode cX8_saysName 24 = .ok (.aload_n 0, 1) := dk_42 (blk_at bk_cX8_saysName_0 24 rfl)
theorem dX8_saysName_25 : decode cX8_saysName 25 = .ok (.bipush 97, 2) := dq_16 bk_cX8_saysName_0 25 rfl (by decide)
theorem dX8_saysName_27 : decode cX8_saysName 27 = .ok (.aload_n 0, 1) := dk_42 (blk_at bk_cX8_saysName_0 27 rfl)
theorem dX8_saysName_28 : decode cX8_saysName 28 = .ok (.getfield 9, 3) := dq_180 bk_cX8_saysName_0 28 rfl rfl
theorem dX8_saysName_31 : decode cX8_saysName 31 = .ok (.bipush 54, 2) := dq_16 bk_cX8_saysName_0 31 rfl (by decide)
theorem dX8_saysName_33 : decode cX8_saysName 33 = .ok (.iload_n 1, 1) := dk_27 (blk_at bk_cX8_saysName_0 33 rfl)
theorem dX8_saysName_34 : decode cX8_saysName 34 = .ok (.iadd, 1) := dk_96 (blk_at bk_cX8_saysName_0 34 rfl)
theorem dX8_saysName_35 : decode cX8_saysName 35 = .ok (.iaload, 1) := dk_46 (blk_at bk_cX8_saysName_0 35 rfl)
theorem dX8_saysName_36 : decode cX8_saysName 36 = .ok (.iload_n 2, 1) := dk_28 (blk_at bk_cX8_saysName_0 36 rfl)
theorem dX8_saysName_37 : decode cX8_saysName 37 = .ok (.invokestatic 270, 3) := dq_184 bk_cX8_saysName_0 37 rfl rfl
theorem bk_cX8_saysName_40 : (cX8_saysName.data.toList.drop 40).take 13 = [96, 4, 100, 182, 1, 145, 132, 2, 1, 167, 255, 209, 177] := by decide +kernel
theorem dX8_saysName_40 : decode cX8_saysName 40 = .ok (.iadd, 1) := dk_96 (blk_at bk_cX8_saysName_40 0 rfl)
theorem dX8_saysName_41 : decode cX8_saysName 41 = .ok (.iconst 1, 1) := dk_4 (blk_at bk_cX8_saysName_40 1 rfl)
theorem dX8_saysName_42 : decode cX8_saysName 42 = .ok (.isub, 1) := dk_100 (blk_at bk_cX8_saysName_40 2 rfl)
theorem dX8_saysName_43 : decode cX8_saysName 43 = .ok (.invokevirtual 401, 3) := dq_182 bk_cX8_saysName_40 3 rfl rfl
theorem dX8_saysName_46 : decode cX8_saysName 46 = .ok (.iinc 2 1, 3) := dq_132 bk_cX8_saysName_40 6 rfl rfl (by decide)
theorem dX8_saysName_49 : decode cX8_saysName 49 = .ok (.goto (-47), 3) := dq_167 bk_cX8_saysName_40 9 rfl (by decide)
theorem dX8_saysName_52 : decode cX8_saysName 52 = .ok (.return_, 1) := dk_177 (blk_at bk_cX8_saysName_40 12 rfl)
theorem bk_cX8_saysCommon_0 : (cX8_saysCommon.data.toList.drop 0).take 39 = [42, 43, 182, 1, 148, 42, 42, 180, 0, 9, 28, 46, 182, 1, 151, 42, 16, 32, 182, 1, 145, 42, 42, 180, 0, 9, 28, 4, 96, 46, 184, 0, 178, 182, 1, 148, 42, 16, 32] := by decide +kernel
theorem dX8_saysCommon_0 : decode cX8_saysCommon 0 = .ok (.aload_n 0, 1) := dk_42 (blk_at bk_cX8_saysCommon_0 0 rfl)
theorem dX8_saysCommon_1 : decode cX8_saysCommon 1 = .ok (.aload_n 1, 1) := dk_43 (blk_at bk_cX8_saysCommon_0 1 rfl)
theorem dX8_saysCommon_2 : decode cX8_saysCommon 2 = .ok (.invokevirtual 404, 3) := dq_182 bk_cX8_saysCommon_0 2 rfl rfl
theorem dX8_saysCommon_5 : decode cX8_saysCommon 5 = .ok (.aload_n 0, 1) := dk_42 (blk_at bk_cX8_saysCommon_0 5 rfl)
theorem dX8_saysCommon_6 : decode cX8_saysCommon 6 = .ok (.aload_n 0, 1) := dk_42 (blk_at bk_cX8_saysCommon_0 6 rfl)
theorem dX8_saysCommon_7 : decode cX8_saysCommon 7 = .ok (.getfield 9, 3) := dq_180 bk_cX8_saysCommon_0 7 rfl rfl
theorem dX8_saysCommon_10 : decode cX8_saysCommon 10 = .ok (.iload_n 2, 1) := dk_28 (blk_at bk_cX8_saysCommon_0 10 rfl)
theorem dX8_saysCommon_11 : decode cX8_saysCommon 11 = .ok (.iaload, 1) := dk_46 (blk_at bk_cX8_saysCommon_0 11 rfl)
theorem dX8_saysCommon_12 : decode cX8_saysCommon 12 = .ok (.invokevirtual 407, 3) := dq_182 bk_cX8_saysCommon_0 12 rfl rfl
theorem dX8_saysCommon_15 : decode cX8_saysCommon 15 = .ok (.aload_n 0, 1) := dk_42 (blk_at bk_cX8_saysCommon_0 15 rfl)
theorem dX8_saysCommon_16 : decode cX8_saysCommon 16 = .ok (.bipush 32, 2) := dq_16 bk_cX8_saysCommon_0 16 rfl (by decide)
theorem dX8_saysCommon_18 : decode cX8_saysCommon 18 = .ok (.invokevirtual 401, 3) := dq_182 bk_cX8_saysCommon_0 18 rfl rfl
theorem dX8_saysCommon_21 : decode cX8_saysCommon 21 = .ok (.aload_n 0, 1) := dk_42 (blk_at bk_cX8_saysCommon_0 21 rfl)
theorem dX8_saysCommon_22 : decode cX8_saysCommon 22 = .ok (.aload_n 0, 1) := dk_42 (blk_at bk_cX8_saysCommon_0 22 rfl)
theorem dX8_saysCommon_23 : decode cX8_saysCommon 23 = .ok (.getfield 9, 3) := dq_180 bk_cX8_saysCommon_0 23 rfl rfl
theorem dX8_saysCommon_26 : decode cX8_saysCommon 26 = .ok (.iload_n 2, 1) := dk_28 (blk_at bk_cX8_saysCommon_0 26 rfl)
theorem dX8_saysCommon_27 : decode cX8_saysCommon 27 = .ok (.iconst 1, 1) := dk_4 (blk_at bk_cX8_saysCommon_0 27 rfl)
theorem dX8_saysCommon_28 : decode cX8_saysCommon 28 = .ok (.iadd, 1) := dk_96 (blk_at bk_cX8_saysCommon_0 28 rfl)
theorem dX8_saysCommon_29 : decode cX8_saysCommon 29 = .ok (.iaload, 1) := dk_46 (blk_at bk_cX8_saysCommon_0 29 rfl)
theorem dX8_saysCommon_30 : decode cX8_saysCommon 30 = .ok (.invokestatic 178, 3) := dq_184 bk_cX8_saysCommon_0 30 rfl rfl
theorem dX8_saysCommon_33 : decode cX8_saysCommon 33 = .ok (.invokevirtual 404, 3) := dq_182 bk_cX8_saysCommon_0 33 rfl rfl
theorem dX8_saysCommon_36 : decode cX8_saysCommon 36 = .ok (.aload_n 0, 1) := dk_42 (blk_at bk_cX8_saysCommon_0 36 rfl)
theorem dX8_saysCommon_37 : decode cX8_saysCommon 37 = .ok (.bipush 32, 2) := dq_16 bk_cX8_saysCommon_0 37 rfl (by decide)
theorem bk_cX8_saysCommon_39 : (cX8_saysCommon.data.toList.drop 39).take 40 = [182, 1, 145, 42, 42, 180, 0, 9, 28, 5, 96, 46, 182, 1, 154, 42, 42, 180, 0, 9, 28, 6, 96, 46, 154, 0, 9, 19, 1, 157, 167, 0, 6, 19, 1, 159, 182, 1, 148, 42] := by decide +kernel
theorem dX8_saysCommon_39 : decode cX8_saysCommon 39 = .ok (.invokevirtual 401, 3) := dq_182 bk_cX8_saysCommon_39 0 rfl rfl
theorem dX8_saysCommon_42 : decode cX8_saysCommon 42 = .ok (.aload_n 0, 1) := dk_42 (blk_at bk_cX8_saysCommon_39 3 rfl)
theorem dX8_saysCommon_43 : decode cX8_saysCommon 43 = .ok (.aload_n 0, 1) := dk_42 (blk_at bk_cX8_saysCommon_39 4 rfl)
theorem dX8_saysCommon_44 : decode cX8_saysCommon 44 = .ok (.getfield 9, 3) := dq_180 bk_cX8_saysCommon_39 5 rfl rfl
theorem dX8_saysCommon_47 : decode cX8_saysCommon 47 = .ok (.iload_n 2, 1) := dk_28 (blk_at bk_cX8_saysCommon_39 8 rfl)
theorem dX8_saysCommon_48 : decode cX8_saysCommon 48 = .ok (.iconst 2, 1) := dk_5 (blk_at bk_cX8_saysCommon_39 9 rfl)
theorem dX8_saysCommon_49 : decode cX8_saysCommon 49 = .ok (.iadd, 1) := dk_96 (blk_at bk_cX8_saysCommon_39 10 rfl)
theorem dX8_saysCommon_50 : decode cX8_saysCommon 50 = .ok (.iaload, 1) := dk_46 (blk_at bk_cX8_saysCommon_39 11 rfl)
theorem dX8_saysCommon_51 : decode cX8_saysCommon 51 = .ok (.invokevirtual 410, 3) := dq_182 bk_cX8_saysCommon_39 12 rfl rfl
theorem dX8_saysCommon_54 : decode cX8_saysCommon 54 = .ok (.aload_n 0, 1) := dk_42 (blk_at bk_cX8_saysCommon_39 15 rfl)
theorem dX8_saysCommon_55 : decode cX8_saysCommon 55 = .ok (.aload_n 0, 1) := dk_42 (blk_at bk_cX8_saysCommon_39 16 rfl)
theorem dX8_saysCommon_56 : decode cX8_saysCommon 56 = .ok (.getfield 9, 3) := dq_180 bk_cX8_saysCommon_39 17 rfl rfl
theorem dX8_saysCommon_59 : decode cX8_saysCommon 59 = .ok (.iload_n 2, 1) := dk_28 (blk_at bk_cX8_saysCommon_39 20 rfl)
theorem dX8_saysCommon_60 : decode cX8_saysCommon 60 = .ok (.iconst 3, 1) := dk_6 (blk_at bk_cX8_saysCommon_39 21 rfl)
theorem dX8_saysCommon_61 : decode cX8_saysCommon 61 = .ok (.iadd, 1) := dk_96 (blk_at bk_cX8_saysCommon_39 22 rfl)
theorem dX8_saysCommon_62 : decode cX8_saysCommon 62 = .ok (.iaload, 1) := dk_46 (blk_at bk_cX8_saysCommon_39 23 rfl)
theorem dX8_saysCommon_63 : decode cX8_saysCommon 63 = .ok (.ifCond .ne 9, 3) := dq_154 bk_cX8_saysCommon_39 24 rfl (by decide)
theorem dX8_saysCommon_66 : decode cX8_saysCommon 66 = .ok (.ldc_w 413, 3) := dq_19 bk_cX8_saysCommon_39 27 rfl rfl
theorem dX8_saysCommon_69 : decode cX8_saysCommon 69 = .ok (.goto 6, 3) := dq_167 bk_cX8_saysCommon_39 30 rfl (by decide)
theorem dX8_saysCommon_72 : decode cX8_saysCommon 72 = .ok (.ldc_w 415, 3) := dq_19 bk_cX8_saysCommon_39 33 rfl rfl
theorem dX8_saysCommon_75 : decode cX8_saysCommon 75 = .ok (.invokevirtual 404, 3) := dq_182 bk_cX8_saysCommon_39 36 rfl rfl
theorem dX8_saysCommon_78 : decode cX8_saysCommon 78 = .ok (.aload_n 0, 1) := dk_42 (blk_at bk_cX8_saysCommon_39 39 rfl)
theorem bk_cX8_saysCommon_79 : (cX8_saysCommon.data.toList.drop 79).take 32 = [42, 180, 0, 9, 28, 29, 96, 46, 182, 1, 154, 42, 16, 45, 182, 1, 145, 42, 42, 180, 0, 9, 28, 29, 96, 4, 96, 46, 182, 1, 154, 177] := by decide +kernel
theorem dX8_saysCommon_79 : decode cX8_saysCommon 79 = .ok (.aload_n 0, 1) := dk_42 (blk_at bk_cX8_saysCommon_79 0 rfl)
theorem dX8_saysCommon_80 : decode cX8_saysCommon 80 = .ok (.getfield 9, 3) := dq_180 bk_cX8_saysCommon_79 1 rfl rfl
theorem dX8_saysCommon_83 : decode cX8_saysCommon 83 = .ok (.iload_n 2, 1) := dk_28 (blk_at bk_cX8_saysCommon_79 4 rfl)
theorem dX8_saysCommon_84 : decode cX8_saysCommon 84 = .ok (.iload_n 3, 1) := dk_29 (blk_at bk_cX8_saysCommon_79 5 rfl)
theorem dX8_saysCommon_85 : decode cX8_saysCommon 85 = .ok (.iadd, 1) := dk_96 (blk_at bk_cX8_saysCommon_79 6 rfl)
theorem dX8_saysCommon_86 : decode cX8_saysCommon 86 = .ok (.iaload, 1) := dk_46 (blk_at bk_cX8_saysCommon_79 7 rfl)
theorem dX8_saysCommon_87 : decode cX8_saysCommon 87 = .ok (.invokevirtual 410, 3) := dq_182 bk_cX8_saysCommon_79 8 rfl rfl
theorem dX8_saysCommon_90 : decode cX8_saysCommon 90 = .ok (.aload_n 0, 1) := dk_42 (blk_at bk_cX8_saysCommon_79 11 rfl)
theorem dX8_saysCommon_91 : decode cX8_saysCommon 91 = .ok (.bipush 45, 2) := dq_16 bk_cX8_saysCommon_79 12 rfl (by decide)
theorem dX8_saysCommon_93 : decode cX8_saysCommon 93 = .ok (.invokevirtual 401, 3) := dq_182 bk_cX8_saysCommon_79 14 rfl rfl
theorem dX8_saysCommon_96 : decode cX8_saysCommon 96 = .ok (.aload_n 0, 1) := dk_42 (blk_at bk_cX8_saysCommon_79 17 rfl)
theorem dX8_saysCommon_97 : decode cX8_saysCommon 97 = .ok (.aload_n 0, 1) := dk_42 (blk_at bk_cX8_saysCommon_79 18 rfl)
theorem dX8_saysCommon_98 : decode cX8_saysCommon 98 = .ok (.getfield 9, 3) := dq_180 bk_cX8_saysCommon_79 19 rfl rfl
theorem dX8_saysCommon_101 : decode cX8_saysCommon 101 = .ok (.iload_n 2, 1) := dk_28 (blk_at bk_cX8_saysCommon_79 22 rfl)
theorem dX8_saysCommon_102 : decode cX8_saysCommon 102 = .ok (.iload_n 3, 1) := dk_29 (blk_at bk_cX8_saysCommon_79 23 rfl)
theorem dX8_saysCommon_103 : decode cX8_saysCommon 103 = .ok (.iadd, 1) := dk_96 (blk_at bk_cX8_saysCommon_79 24 rfl)
theorem dX8_saysCommon_104 : decode cX8_saysCommon 104 = .ok (.iconst 1, 1) := dk_4 (blk_at bk_cX8_saysCommon_79 25 rfl)
theorem dX8_saysCommon_105 : decode cX8_saysCommon 105 = .ok (.iadd, 1) := dk_96 (blk_at bk_cX8_saysCommon_79 26 rfl)
theorem dX8_saysCommon_106 : decode cX8_saysCommon 106 = .ok (.iaload, 1) := dk_46 (blk_at bk_cX8_saysCommon_79 27 rfl)
theorem dX8_saysCommon_107 : decode cX8_saysCommon 107 = .ok (.invokevirtual 410, 3) := dq_182 bk_cX8_saysCommon_79 28 rfl rfl
theorem dX8_saysCommon_110 : decode cX8_saysCommon 110 = .ok (.return_, 1) := dk_177 (blk_at bk_cX8_saysCommon_79 31 rfl)
theorem bk_cX8_tell_0 : (cX8_tell.data.toList.drop 0).take 40 = [42, 182, 0, 49, 154, 0, 6, 16, 254, 172, 42, 3, 181, 1, 142, 42, 19, 1, 161, 182, 1, 148, 42, 42, 180, 0, 9, 3, 46, 182, 1, 154, 42, 16, 59, 182, 1, 145, 3, 60] := by decide +kernel
theorem dX8_tell_0 : decode cX8_tell 0 = .ok (.aload_n 0, 1) := dk_42 (blk_at bk_cX8_tell_0 0 rfl)
theorem dX8_tell_1 : decode cX8_tell 1 = .ok (.invokevirtual 49, 3) := dq_182 bk_cX8_tell_0 1 rfl rfl
theorem dX8_tell_4 : decode cX8_tell 4 = .ok (.ifCond .ne 6, 3) := dq_154 bk_cX8_tell_0 4 rfl (by decide)
theorem dX8_tell_7 : decode cX8_tell 7 = .ok (.bipush (-2), 2) := dq_16 bk_cX8_tell_0 7 rfl (by decide)
theorem dX8_tell_9 : decode cX8_tell 9 = .ok (.ireturn, 1) := dk_172 (blk_at bk_cX8_tell_0 9 rfl)
theorem dX8_tell_10 : decode cX8_tell 10 = .ok (.aload_n 0, 1) := dk_42 (blk_at bk_cX8_tell_0 10 rfl)
theorem dX8_tell_11 : decode cX8_tell 11 = .ok (.iconst 0, 1) := dk_3 (blk_at bk_cX8_tell_0 11 rfl)
theorem dX8_tell_12 : decode cX8_tell 12 = .ok (.putfield 398, 3) := dq_181 bk_cX8_tell_0 12 rfl rfl
theorem dX8_tell_15 : decode cX8_tell 15 = .ok (.aload_n 0, 1) := dk_42 (blk_at bk_cX8_tell_0 15 rfl)
theorem dX8_tell_16 : decode cX8_tell 16 = .ok (.ldc_w 417, 3) := dq_19 bk_cX8_tell_0 16 rfl rfl
theorem dX8_tell_19 : decode cX8_tell 19 = .ok (.invokevirtual 404, 3) := dq_182 bk_cX8_tell_0 19 rfl rfl
theorem dX8_tell_22 : decode cX8_tell 22 = .ok (.aload_n 0, 1) := dk_42 (blk_at bk_cX8_tell_0 22 rfl)
theorem dX8_tell_23 : decode cX8_tell 23 = .ok (.aload_n 0, 1) := dk_42 (blk_at bk_cX8_tell_0 23 rfl)
theorem dX8_tell_24 : decode cX8_tell 24 = .ok (.getfield 9, 3) := dq_180 bk_cX8_tell_0 24 rfl rfl
theorem dX8_tell_27 : decode cX8_tell 27 = .ok (.iconst 0, 1) := dk_3 (blk_at bk_cX8_tell_0 27 rfl)
theorem dX8_tell_28 : decode cX8_tell 28 = .ok (.iaload, 1) := dk_46 (blk_at bk_cX8_tell_0 28 rfl)
theorem dX8_tell_29 : decode cX8_tell 29 = .ok (.invokevirtual 410, 3) := dq_182 bk_cX8_tell_0 29 rfl rfl
theorem dX8_tell_32 : decode cX8_tell 32 = .ok (.aload_n 0, 1) := dk_42 (blk_at bk_cX8_tell_0 32 rfl)
theorem dX8_tell_33 : decode cX8_tell 33 = .ok (.bipush 59, 2) := dq_16 bk_cX8_tell_0 33 rfl (by decide)
theorem dX8_tell_35 : decode cX8_tell 35 = .ok (.invokevirtual 401, 3) := dq_182 bk_cX8_tell_0 35 rfl rfl
theorem dX8_tell_38 : decode cX8_tell 38 = .ok (.iconst 0, 1) := dk_3 (blk_at bk_cX8_tell_0 38 rfl)
theorem dX8_tell_39 : decode cX8_tell 39 = .ok (.istore_n 1, 1) := dk_60 (blk_at bk_cX8_tell_0 39 rfl)
theorem bk_cX8_tell_40 : (cX8_tell.data.toList.drop 40).take 38 = [27, 16, 24, 162, 0, 107, 42, 180, 0, 9, 16, 6, 5, 27, 104, 96, 46, 7, 160, 0, 23, 42, 180, 0, 9, 16, 6, 5, 27, 104, 96, 4, 96, 46, 7, 160, 0, 6] := by decide +kernel
theorem dX8_tell_40 : decode cX8_tell 40 = .ok (.iload_n 1, 1) := dk_27 (blk_at bk_cX8_tell_40 0 rfl)
theorem dX8_tell_41 : decode cX8_tell 41 = .ok (.bipush 24, 2) := dq_16 bk_cX8_tell_40 1 rfl (by decide)
theorem dX8_tell_43 : decode cX8_tell 43 = .ok (.if_icmp .ge 107, 3) := dq_162 bk_cX8_tell_40 3 rfl (by decide)
theorem dX8_tell_46 : decode cX8_tell 46 = .ok (.aload_n 0, 1) := dk_42 (blk_at bk_cX8_tell_40 6 rfl)
theorem dX8_tell_47 : decode cX8_tell 47 = .ok (.getfield 9, 3) := dq_180 bk_cX8_tell_40 7 rfl rfl
theorem dX8_tell_50 : decode cX8_tell 50 = .ok (.bipush 6, 2) := dq_16 bk_cX8_tell_40 10 rfl (by decide)
theorem dX8_tell_52 : decode cX8_tell 52 = .ok (.iconst 2, 1) := dk_5 (blk_at bk_cX8_tell_40 12 rfl)
theorem dX8_tell_53 : decode cX8_tell 53 = .ok (.iload_n 1, 1) := dk_27 (blk_at bk_cX8_tell_40 13 rfl)
theorem dX8_tell_54 : decode cX8_tell 54 = .ok (.imul, 1) := dk_104 (blk_at bk_cX8_tell_40 14 rfl)
theorem dX8_tell_55 : decode cX8_tell 55 = .ok (.iadd, 1) := dk_96 (blk_at bk_cX8_tell_40 15 rfl)
theorem dX8_tell_56 : decode cX8_tell 56 = .ok (.iaload, 1) := dk_46 (blk_at bk_cX8_tell_40 16 rfl)
theorem dX8_tell_57 : decode cX8_tell 57 = .ok (.iconst 4, 1) := dk_7 (blk_at bk_cX8_tell_40 17 rfl)
theorem dX8_tell_58 : decode cX8_tell 58 = .ok (.if_icmp .ne 23, 3) := dq_160 bk_cX8_tell_40 18 rfl (by decide)
theorem dX8_tell_61 : decode cX8_tell 61 = .ok (.aload_n 0, 1) := dk_42 (blk_at bk_cX8_tell_40 21 rfl)
theorem dX8_tell_62 : decode cX8_tell 62 = .ok (.getfield 9, 3) := dq_180 bk_cX8_tell_40 22 rfl rfl
theorem dX8_tell_65 : decode cX8_tell 65 = .ok (.bipush 6, 2) := dq_16 bk_cX8_tell_40 25 rfl (by decide)
theorem dX8_tell_67 : decode cX8_tell 67 = .ok (.iconst 2, 1) := dk_5 (blk_at bk_cX8_tell_40 27 rfl)
theorem dX8_tell_68 : decode cX8_tell 68 = .ok (.iload_n 1, 1) := dk_27 (blk_at bk_cX8_tell_40 28 rfl)
theorem dX8_tell_69 : decode cX8_tell 69 = .ok (.imul, 1) := dk_104 (blk_at bk_cX8_tell_40 29 rfl)
theorem dX8_tell_70 : decode cX8_tell 70 = .ok (.iadd, 1) := dk_96 (blk_at bk_cX8_tell_40 30 rfl)
theorem dX8_tell_71 : decode cX8_tell 71 = .ok (.iconst 1, 1) := dk_4 (blk_at bk_cX8_tell_40 31 rfl)
theorem dX8_tell_72 : decode cX8_tell 72 = .ok (.iadd, 1) := dk_96 (blk_at bk_cX8_tell_40 32 rfl)
theorem dX8_tell_73 : decode cX8_tell 73 = .ok (.iaload, 1) := dk_46 (blk_at bk_cX8_tell_40 33 rfl)
theorem dX8_tell_74 : decode cX8_tell 74 = .ok (.iconst 4, 1) := dk_7 (blk_at bk_cX8_tell_40 34 rfl)
theorem dX8_tell_75 : decode cX8_tell 75 = .ok (.if_icmp .ne 6, 3) := dq_160 bk_cX8_tell_40 35 rfl (by decide)
theorem bk_cX8_tell_78 : (cX8_tell.data.toList.drop 78).take 40 = [167, 0, 66, 42, 19, 1, 163, 182, 1, 148, 42, 27, 182, 1, 154, 42, 16, 32, 182, 1, 145, 42, 42, 180, 0, 9, 16, 6, 5, 27, 104, 96, 46, 182, 1, 154, 42, 19, 1, 157] := by decide +kernel
theorem dX8_tell_78 : decode cX8_tell 78 = .ok (.goto 66, 3) := dq_167 bk_cX8_tell_78 0 rfl (by decide)
theorem dX8_tell_81 : decode cX8_tell 81 = .ok (.aload_n 0, 1) := dk_42 (blk_at bk_cX8_tell_78 3 rfl)
theorem dX8_tell_82 : decode cX8_tell 82 = .ok (.ldc_w 419, 3) := dq_19 bk_cX8_tell_78 4 rfl rfl
theorem dX8_tell_85 : decode cX8_tell 85 = .ok (.invokevirtual 404, 3) := dq_182 bk_cX8_tell_78 7 rfl rfl
theorem dX8_tell_88 : decode cX8_tell 88 = .ok (.aload_n 0, 1) := dk_42 (blk_at bk_cX8_tell_78 10 rfl)
theorem dX8_tell_89 : decode cX8_tell 89 = .ok (.iload_n 1, 1) := dk_27 (blk_at bk_cX8_tell_78 11 rfl)
theorem dX8_tell_90 : decode cX8_tell 90 = .ok (.invokevirtual 410, 3) := dq_182 bk_cX8_tell_78 12 rfl rfl
theorem dX8_tell_93 : decode cX8_tell 93 = .ok (.aload_n 0, 1) := dk_42 (blk_at bk_cX8_tell_78 15 rfl)
theorem dX8_tell_94 : decode cX8_tell 94 = .ok (.bipush 32, 2) := dq_16 bk_cX8_tell_78 16 rfl (by decide)
theorem dX8_tell_96 : decode cX8_tell 96 = .ok (.invokevirtual 401, 3) := dq_182 bk_cX8_tell_78 18 rfl rfl
theorem dX8_tell_99 : decode cX8_tell 99 = .ok (.aload_n 0, 1) := dk_42 (blk_at bk_cX8_tell_78 21 rfl)
theorem dX8_tell_100 : decode cX8_tell 100 = .ok (.aload_n 0, 1) := dk_42 (blk_at bk_cX8_tell_78 22 rfl)
theorem dX8_tell_101 : decode cX8_tell 101 = .ok (.getfield 9, 3) := dq_180 bk_cX8_tell_78 23 rfl rfl
theorem dX8_tell_104 : decode cX8_tell 104 = .ok (.bipush 6, 2) := dq_16 bk_cX8_tell_78 26 rfl (by decide)
theorem dX8_tell_106 : decode cX8_tell 106 = .ok (.iconst 2, 1) := dk_5 (blk_at bk_cX8_tell_78 28 rfl)
theorem dX8_tell_107 : decode cX8_tell 107 = .ok (.iload_n 1, 1) := dk_27 (blk_at bk_cX8_tell_78 29 rfl)
theorem dX8_tell_108 : decode cX8_tell 108 = .ok (.imul, 1) := dk_104 (blk_at bk_cX8_tell_78 30 rfl)
theorem dX8_tell_109 : decode cX8_tell 109 = .ok (.iadd, 1) := dk_96 (blk_at bk_cX8_tell_78 31 rfl)
theorem dX8_tell_110 : decode cX8_tell 110 = .ok (.iaload, 1) := dk_46 (blk_at bk_cX8_tell_78 32 rfl)
theorem dX8_tell_111 : decode cX8_tell 111 = .ok (.invokevirtual 410, 3) := dq_182 bk_cX8_tell_78 33 rfl rfl
theorem dX8_tell_114 : decode cX8_tell 114 = .ok (.aload_n 0, 1) := dk_42 (blk_at bk_cX8_tell_78 36 rfl)
theorem dX8_tell_115 : decode cX8_tell 115 = .ok (.ldc_w 413, 3) := dq_19 bk_cX8_tell_78 37 rfl rfl
theorem bk_cX8_tell_118 : (cX8_tell.data.toList.drop 118).take 40 = [182, 1, 148, 42, 42, 180, 0, 9, 16, 6, 5, 27, 104, 96, 4, 96, 46, 182, 1, 154, 42, 16, 59, 182, 1, 145, 132, 1, 1, 167, 255, 149, 3, 60, 27, 42, 180, 0, 9, 4] := by decide +kernel
theorem dX8_tell_118 : decode cX8_tell 118 = .ok (.invokevirtual 404, 3) := dq_182 bk_cX8_tell_118 0 rfl rfl
theorem dX8_tell_121 : decode cX8_tell 121 = .ok (.aload_n 0, 1) := dk_42 (blk_at bk_cX8_tell_118 3 rfl)
theorem dX8_tell_122 : decode cX8_tell 122 = .ok (.aload_n 0, 1) := dk_42 (blk_at bk_cX8_tell_118 4 rfl)
theorem dX8_tell_123 : decode cX8_tell 123 = .ok (.getfield 9, 3) := dq_180 bk_cX8_tell_118 5 rfl rfl
theorem dX8_tell_126 : decode cX8_tell 126 = .ok (.bipush 6, 2) := dq_16 bk_cX8_tell_118 8 rfl (by decide)
theorem dX8_tell_128 : decode cX8_tell 128 = .ok (.iconst 2, 1) := dk_5 (blk_at bk_cX8_tell_118 10 rfl)
theorem dX8_tell_129 : decode cX8_tell 129 = .ok (.iload_n 1, 1) := dk_27 (blk_at bk_cX8_tell_118 11 rfl)
theorem dX8_tell_130 : decode cX8_tell 130 = .ok (.imul, 1) := dk_104 (blk_at bk_cX8_tell_118 12 rfl)
theorem dX8_tell_131 : decode cX8_tell 131 = .ok (.iadd, 1) := dk_96 (blk_at bk_cX8_tell_118 13 rfl)
theorem dX8_tell_132 : decode cX8_tell 132 = .ok (.iconst 1, 1) := dk_4 (blk_at bk_cX8_tell_118 14 rfl)
theorem dX8_tell_133 : decode cX8_tell 133 = .ok (.iadd, 1) := dk_96 (blk_at bk_cX8_tell_118 15 rfl)
theorem dX8_tell_134 : decode cX8_tell 134 = .ok (.iaload, 1) := dk_46 (blk_at bk_cX8_tell_118 16 rfl)
theorem dX8_tell_135 : decode cX8_tell 135 = .ok (.invokevirtual 410, 3) := dq_182 bk_cX8_tell_118 17 rfl rfl
theorem dX8_tell_138 : decode cX8_tell 138 = .ok (.aload_n 0, 1) := dk_42 (blk_at bk_cX8_tell_118 20 rfl)
theorem dX8_tell_139 : decode cX8_tell 139 = .ok (.bipush 59, 2) := dq_16 bk_cX8_tell_118 21 rfl (by decide)
theorem dX8_tell_141 : decode cX8_tell 141 = .ok (.invokevirtual 401, 3) := dq_182 bk_cX8_tell_118 23 rfl rfl
theorem dX8_tell_144 : decode cX8_tell 144 = .ok (.iinc 1 1, 3) := dq_132 bk_cX8_tell_118 26 rfl rfl (by decide)
theorem dX8_tell_147 : decode cX8_tell 147 = .ok (.goto (-107), 3) := dq_167 bk_cX8_tell_118 29 rfl (by decide)
theorem dX8_tell_150 : decode cX8_tell 150 = .ok (.iconst 0, 1) := dk_3 (blk_at bk_cX8_tell_118 32 rfl)
theorem dX8_tell_151 : decode cX8_tell 151 = .ok (.istore_n 1, 1) := dk_60 (blk_at bk_cX8_tell_118 33 rfl)
theorem dX8_tell_152 : decode cX8_tell 152 = .ok (.iload_n 1, 1) := dk_27 (blk_at bk_cX8_tell_118 34 rfl)
theorem dX8_tell_153 : decode cX8_tell 153 = .ok (.aload_n 0, 1) := dk_42 (blk_at bk_cX8_tell_118 35 rfl)
theorem dX8_tell_154 : decode cX8_tell 154 = .ok (.getfield 9, 3) := dq_180 bk_cX8_tell_118 36 rfl rfl
theorem dX8_tell_157 : decode cX8_tell 157 = .ok (.iconst 1, 1) := dk_4 (blk_at bk_cX8_tell_118 39 rfl)
theorem bk_cX8_tell_158 : (cX8_tell.data.toList.drop 158).take 40 = [46, 162, 0, 27, 42, 19, 1, 165, 182, 1, 148, 42, 27, 182, 1, 151, 42, 16, 59, 182, 1, 145, 132, 1, 1, 167, 255, 225, 3, 60, 27, 42, 180, 0, 9, 5, 46, 162, 0, 45] := by decide +kernel
theorem dX8_tell_158 : decode cX8_tell 158 = .ok (.iaload, 1) := dk_46 (blk_at bk_cX8_tell_158 0 rfl)
theorem dX8_tell_159 : decode cX8_tell 159 = .ok (.if_icmp .ge 27, 3) := dq_162 bk_cX8_tell_158 1 rfl (by decide)
theorem dX8_tell_162 : decode cX8_tell 162 = .ok (.aload_n 0, 1) := dk_42 (blk_at bk_cX8_tell_158 4 rfl)
theorem dX8_tell_163 : decode cX8_tell 163 = .ok (.ldc_w 421, 3) := dq_19 bk_cX8_tell_158 5 rfl rfl
theorem dX8_tell_166 : decode cX8_tell 166 = .ok (.invokevirtual 404, 3) := dq_182 bk_cX8_tell_158 8 rfl rfl
theorem dX8_tell_169 : decode cX8_tell 169 = .ok (.aload_n 0, 1) := dk_42 (blk_at bk_cX8_tell_158 11 rfl)
theorem dX8_tell_170 : decode cX8_tell 170 = .ok (.iload_n 1, 1) := dk_27 (blk_at bk_cX8_tell_158 12 rfl)
theorem dX8_tell_171 : decode cX8_tell 171 = .ok (.invokevirtual 407, 3) := dq_182 bk_cX8_tell_158 13 rfl rfl
theorem dX8_tell_174 : decode cX8_tell 174 = .ok (.aload_n 0, 1) := dk_42 (blk_at bk_cX8_tell_158 16 rfl)
theorem dX8_tell_175 : decode cX8_tell 175 = .ok (.bipush 59, 2) := dq_16 bk_cX8_tell_158 17 rfl (by decide)
theorem dX8_tell_177 : decode cX8_tell 177 = .ok (.invokevirtual 401, 3) := dq_182 bk_cX8_tell_158 19 rfl rfl
theorem dX8_tell_180 : decode cX8_tell 180 = .ok (.iinc 1 1, 3) := dq_132 bk_cX8_tell_158 22 rfl rfl (by decide)
theorem dX8_tell_183 : decode cX8_tell 183 = .ok (.goto (-31), 3) := dq_167 bk_cX8_tell_158 25 rfl (by decide)
theorem dX8_tell_186 : decode cX8_tell 186 = .ok (.iconst 0, 1) := dk_3 (blk_at bk_cX8_tell_158 28 rfl)
theorem dX8_tell_187 : decode cX8_tell 187 = .ok (.istore_n 1, 1) := dk_60 (blk_at bk_cX8_tell_158 29 rfl)
theorem dX8_tell_188 : decode cX8_tell 188 = .ok (.iload_n 1, 1) := dk_27 (blk_at bk_cX8_tell_158 30 rfl)
theorem dX8_tell_189 : decode cX8_tell 189 = .ok (.aload_n 0, 1) := dk_42 (blk_at bk_cX8_tell_158 31 rfl)
theorem dX8_tell_190 : decode cX8_tell 190 = .ok (.getfield 9, 3) := dq_180 bk_cX8_tell_158 32 rfl rfl
theorem dX8_tell_193 : decode cX8_tell 193 = .ok (.iconst 2, 1) := dk_5 (blk_at bk_cX8_tell_158 35 rfl)
theorem dX8_tell_194 : decode cX8_tell 194 = .ok (.iaload, 1) := dk_46 (blk_at bk_cX8_tell_158 36 rfl)
theorem dX8_tell_195 : decode cX8_tell 195 = .ok (.if_icmp .ge 45, 3) := dq_162 bk_cX8_tell_158 37 rfl (by decide)
theorem bk_cX8_tell_198 : (cX8_tell.data.toList.drop 198).take 39 = [42, 19, 1, 167, 16, 62, 16, 12, 27, 104, 96, 8, 182, 1, 169, 42, 42, 27, 182, 1, 126, 153, 0, 9, 19, 1, 173, 167, 0, 6, 19, 1, 175, 182, 1, 148, 132, 1, 1] := by decide +kernel
theorem dX8_tell_198 : decode cX8_tell 198 = .ok (.aload_n 0, 1) := dk_42 (blk_at bk_cX8_tell_198 0 rfl)
theorem dX8_tell_199 : decode cX8_tell 199 = .ok (.ldc_w 423, 3) := dq_19 bk_cX8_tell_198 1 rfl rfl
theorem dX8_tell_202 : decode cX8_tell 202 = .ok (.bipush 62, 2) := dq_16 bk_cX8_tell_198 4 rfl (by decide)
theorem dX8_tell_204 : decode cX8_tell 204 = .ok (.bipush 12, 2) := dq_16 bk_cX8_tell_198 6 rfl (by decide)
theorem dX8_tell_206 : decode cX8_tell 206 = .ok (.iload_n 1, 1) := dk_27 (blk_at bk_cX8_tell_198 8 rfl)
theorem dX8_tell_207 : decode cX8_tell 207 = .ok (.imul, 1) := dk_104 (blk_at bk_cX8_tell_198 9 rfl)
theorem dX8_tell_208 : decode cX8_tell 208 = .ok (.iadd, 1) := dk_96 (blk_at bk_cX8_tell_198 10 rfl)
theorem dX8_tell_209 : decode cX8_tell 209 = .ok (.iconst 5, 1) := dk_8 (blk_at bk_cX8_tell_198 11 rfl)
theorem dX8_tell_210 : decode cX8_tell 210 = .ok (.invokevirtual 425, 3) := dq_182 bk_cX8_tell_198 12 rfl rfl
theorem dX8_tell_213 : decode cX8_tell 213 = .ok (.aload_n 0, 1) := dk_42 (blk_at bk_cX8_tell_198 15 rfl)
theorem dX8_tell_214 : decode cX8_tell 214 = .ok (.aload_n 0, 1) := dk_42 (blk_at bk_cX8_tell_198 16 rfl)
theorem dX8_tell_215 : decode cX8_tell 215 = .ok (.iload_n 1, 1) := dk_27 (blk_at bk_cX8_tell_198 17 rfl)
theorem dX8_tell_216 : decode cX8_tell 216 = .ok (.invokevirtual 382, 3) := dq_182 bk_cX8_tell_198 18 rfl rfl
theorem dX8_tell_219 : decode cX8_tell 219 = .ok (.ifCond .eq 9, 3) := dq_153 bk_cX8_tell_198 21 rfl (by decide)
theorem dX8_tell_222 : decode cX8_tell 222 = .ok (.ldc_w 429, 3) := dq_19 bk_cX8_tell_198 24 rfl rfl
theorem dX8_tell_225 : decode cX8_tell 225 = .ok (.goto 6, 3) := dq_167 bk_cX8_tell_198 27 rfl (by decide)
theorem dX8_tell_228 : decode cX8_tell 228 = .ok (.ldc_w 431, 3) := dq_19 bk_cX8_tell_198 30 rfl rfl
theorem dX8_tell_231 : decode cX8_tell 231 = .ok (.invokevirtual 404, 3) := dq_182 bk_cX8_tell_198 33 rfl rfl
theorem dX8_tell_234 : decode cX8_tell 234 = .ok (.iinc 1 1, 3) := dq_132 bk_cX8_tell_198 36 rfl rfl (by decide)
theorem bk_cX8_tell_237 : (cX8_tell.data.toList.drop 237).take 38 = [167, 255, 207, 3, 60, 27, 42, 180, 0, 9, 6, 46, 162, 0, 69, 42, 19, 1, 177, 17, 1, 94, 16, 7, 27, 104, 96, 7, 182, 1, 169, 42, 27, 16, 6, 182, 1, 28] := by decide +kernel
theorem dX8_tell_237 : decode cX8_tell 237 = .ok (.goto (-49), 3) := dq_167 bk_cX8_tell_237 0 rfl (by decide)
theorem dX8_tell_240 : decode cX8_tell 240 = .ok (.iconst 0, 1) := dk_3 (blk_at bk_cX8_tell_237 3 rfl)
theorem dX8_tell_241 : decode cX8_tell 241 = .ok (.istore_n 1, 1) := dk_60 (blk_at bk_cX8_tell_237 4 rfl)
theorem dX8_tell_242 : decode cX8_tell 242 = .ok (.iload_n 1, 1) := dk_27 (blk_at bk_cX8_tell_237 5 rfl)
theorem dX8_tell_243 : decode cX8_tell 243 = .ok (.aload_n 0, 1) := dk_42 (blk_at bk_cX8_tell_237 6 rfl)
theorem dX8_tell_244 : decode cX8_tell 244 = .ok (.getfield 9, 3) := dq_180 bk_cX8_tell_237 7 rfl rfl
theorem dX8_tell_247 : decode cX8_tell 247 = .ok (.iconst 3, 1) := dk_6 (blk_at bk_cX8_tell_237 10 rfl)
theorem dX8_tell_248 : decode cX8_tell 248 = .ok (.iaload, 1) := dk_46 (blk_at bk_cX8_tell_237 11 rfl)
theorem dX8_tell_249 : decode cX8_tell 249 = .ok (.if_icmp .ge 69, 3) := dq_162 bk_cX8_tell_237 12 rfl (by decide)
theorem dX8_tell_252 : decode cX8_tell 252 = .ok (.aload_n 0, 1) := dk_42 (blk_at bk_cX8_tell_237 15 rfl)
theorem dX8_tell_253 : decode cX8_tell 253 = .ok (.ldc_w 433, 3) := dq_19 bk_cX8_tell_237 16 rfl rfl
theorem dX8_tell_256 : decode cX8_tell 256 = .ok (.sipush 350, 3) := dq_17 bk_cX8_tell_237 19 rfl (by decide)
theorem dX8_tell_259 : decode cX8_tell 259 = .ok (.bipush 7, 2) := dq_16 bk_cX8_tell_237 22 rfl (by decide)
theorem dX8_tell_261 : decode cX8_tell 261 = .ok (.iload_n 1, 1) := dk_27 (blk_at bk_cX8_tell_237 24 rfl)
theorem dX8_tell_262 : decode cX8_tell 262 = .ok (.imul, 1) := dk_104 (blk_at bk_cX8_tell_237 25 rfl)
theorem dX8_tell_263 : decode cX8_tell 263 = .ok (.iadd, 1) := dk_96 (blk_at bk_cX8_tell_237 26 rfl)
theorem dX8_tell_264 : decode cX8_tell 264 = .ok (.iconst 4, 1) := dk_7 (blk_at bk_cX8_tell_237 27 rfl)
theorem dX8_tell_265 : decode cX8_tell 265 = .ok (.invokevirtual 425, 3) := dq_182 bk_cX8_tell_237 28 rfl rfl
theorem dX8_tell_268 : decode cX8_tell 268 = .ok (.aload_n 0, 1) := dk_42 (blk_at bk_cX8_tell_237 31 rfl)
theorem dX8_tell_269 : decode cX8_tell 269 = .ok (.iload_n 1, 1) := dk_27 (blk_at bk_cX8_tell_237 32 rfl)
theorem dX8_tell_270 : decode cX8_tell 270 = .ok (.bipush 6, 2) := dq_16 bk_cX8_tell_237 33 rfl (by decide)
theorem dX8_tell_272 : decode cX8_tell 272 = .ok (.invokevirtual 284, 3) := dq_182 bk_cX8_tell_237 35 rfl rfl
theorem bk_cX8_tell_275 : (cX8_tell.data.toList.drop 275).take 40 = [158, 0, 10, 42, 19, 1, 179, 182, 1, 148, 42, 27, 16, 6, 182, 1, 28, 158, 0, 14, 42, 42, 27, 16, 6, 182, 1, 28, 182, 1, 154, 42, 16, 59, 182, 1, 145, 132, 1, 1] := by decide +kernel
theorem dX8_tell_275 : decode cX8_tell 275 = .ok (.ifCond .le 10, 3) := dq_158 bk_cX8_tell_275 0 rfl (by decide)
theorem dX8_tell_278 : decode cX8_tell 278 = .ok (.aload_n 0, 1) := dk_42 (blk_at bk_cX8_tell_275 3 rfl)
theorem dX8_tell_279 : decode cX8_tell 279 = .ok (.ldc_w 435, 3) := dq_19 bk_cX8_tell_275 4 rfl rfl
theorem dX8_tell_282 : decode cX8_tell 282 = .ok (.invokevirtual 404, 3) := dq_182 bk_cX8_tell_275 7 rfl rfl
theorem dX8_tell_285 : decode cX8_tell 285 = .ok (.aload_n 0, 1) := dk_42 (blk_at bk_cX8_tell_275 10 rfl)
theorem dX8_tell_286 : decode cX8_tell 286 = .ok (.iload_n 1, 1) := dk_27 (blk_at bk_cX8_tell_275 11 rfl)
theorem dX8_tell_287 : decode cX8_tell 287 = .ok (.bipush 6, 2) := dq_16 bk_cX8_tell_275 12 rfl (by decide)
theorem dX8_tell_289 : decode cX8_tell 289 = .ok (.invokevirtual 284, 3) := dq_182 bk_cX8_tell_275 14 rfl rfl
theorem dX8_tell_292 : decode cX8_tell 292 = .ok (.ifCond .le 14, 3) := dq_158 bk_cX8_tell_275 17 rfl (by decide)
theorem dX8_tell_295 : decode cX8_tell 295 = .ok (.aload_n 0, 1) := dk_42 (blk_at bk_cX8_tell_275 20 rfl)
theorem dX8_tell_296 : decode cX8_tell 296 = .ok (.aload_n 0, 1) := dk_42 (blk_at bk_cX8_tell_275 21 rfl)
theorem dX8_tell_297 : decode cX8_tell 297 = .ok (.iload_n 1, 1) := dk_27 (blk_at bk_cX8_tell_275 22 rfl)
theorem dX8_tell_298 : decode cX8_tell 298 = .ok (.bipush 6, 2) := dq_16 bk_cX8_tell_275 23 rfl (by decide)
theorem dX8_tell_300 : decode cX8_tell 300 = .ok (.invokevirtual 284, 3) := dq_182 bk_cX8_tell_275 25 rfl rfl
theorem dX8_tell_303 : decode cX8_tell 303 = .ok (.invokevirtual 410, 3) := dq_182 bk_cX8_tell_275 28 rfl rfl
theorem dX8_tell_306 : decode cX8_tell 306 = .ok (.aload_n 0, 1) := dk_42 (blk_at bk_cX8_tell_275 31 rfl)
theorem dX8_tell_307 : decode cX8_tell 307 = .ok (.bipush 59, 2) := dq_16 bk_cX8_tell_275 32 rfl (by decide)
theorem dX8_tell_309 : decode cX8_tell 309 = .ok (.invokevirtual 401, 3) := dq_182 bk_cX8_tell_275 34 rfl rfl
theorem dX8_tell_312 : decode cX8_tell 312 = .ok (.iinc 1 1, 3) := dq_132 bk_cX8_tell_275 37 rfl rfl (by decide)
theorem bk_cX8_tell_315 : (cX8_tell.data.toList.drop 315).take 8 = [167, 255, 183, 42, 180, 1, 142, 172] := by decide +kernel
theorem dX8_tell_315 : decode cX8_tell 315 = .ok (.goto (-73), 3) := dq_167 bk_cX8_tell_315 0 rfl (by decide)
theorem dX8_tell_318 : decode cX8_tell 318 = .ok (.aload_n 0, 1) := dk_42 (blk_at bk_cX8_tell_315 3 rfl)
theorem dX8_tell_319 : decode cX8_tell 319 = .ok (.getfield 398, 3) := dq_180 bk_cX8_tell_315 4 rfl rfl
theorem dX8_tell_322 : decode cX8_tell 322 = .ok (.ireturn, 1) := dk_172 (blk_at bk_cX8_tell_315 7 rfl)
theorem bk_cX8_octet_0 : (cX8_octet.data.toList.drop 0).take 27 = [27, 133, 9, 42, 180, 1, 142, 4, 100, 133, 184, 0, 45, 153, 0, 12, 42, 180, 0, 39, 27, 51, 167, 0, 4, 2, 172] := by decide +kernel
theorem dX8_octet_0 : decode cX8_octet 0 = .ok (.iload_n 1, 1) := dk_27 (blk_at bk_cX8_octet_0 0 rfl)
theorem dX8_octet_1 : decode cX8_octet 1 = .ok (.i2l, 1) := dk_133 (blk_at bk_cX8_octet_0 1 rfl)
theorem dX8_octet_2 : decode cX8_octet 2 = .ok (.lconst 0, 1) := dk_9 (blk_at bk_cX8_octet_0 2 rfl)
theorem dX8_octet_3 : decode cX8_octet 3 = .ok (.aload_n 0, 1) := dk_42 (blk_at bk_cX8_octet_0 3 rfl)
theorem dX8_octet_4 : decode cX8_octet 4 = .ok (.getfield 398, 3) := dq_180 bk_cX8_octet_0 4 rfl rfl
theorem dX8_octet_7 : decode cX8_octet 7 = .ok (.iconst 1, 1) := dk_4 (blk_at bk_cX8_octet_0 7 rfl)
theorem dX8_octet_8 : decode cX8_octet 8 = .ok (.isub, 1) := dk_100 (blk_at bk_cX8_octet_0 8 rfl)
theorem dX8_octet_9 : decode cX8_octet 9 = .ok (.i2l, 1) := dk_133 (blk_at bk_cX8_octet_0 9 rfl)
theorem dX8_octet_10 : decode cX8_octet 10 = .ok (.invokestatic 45, 3) := dq_184 bk_cX8_octet_0 10 rfl rfl
theorem dX8_octet_13 : decode cX8_octet 13 = .ok (.ifCond .eq 12, 3) := dq_153 bk_cX8_octet_0 13 rfl (by decide)
theorem dX8_octet_16 : decode cX8_octet 16 = .ok (.aload_n 0, 1) := dk_42 (blk_at bk_cX8_octet_0 16 rfl)
theorem dX8_octet_17 : decode cX8_octet 17 = .ok (.getfield 39, 3) := dq_180 bk_cX8_octet_0 17 rfl rfl
theorem dX8_octet_20 : decode cX8_octet 20 = .ok (.iload_n 1, 1) := dk_27 (blk_at bk_cX8_octet_0 20 rfl)
theorem dX8_octet_21 : decode cX8_octet 21 = .ok (.baload, 1) := dk_51 (blk_at bk_cX8_octet_0 21 rfl)
theorem dX8_octet_22 : decode cX8_octet 22 = .ok (.goto 4, 3) := dq_167 bk_cX8_octet_0 22 rfl (by decide)
theorem dX8_octet_25 : decode cX8_octet 25 = .ok (.iconst (-1), 1) := dk_2 (blk_at bk_cX8_octet_0 25 rfl)
theorem dX8_octet_26 : decode cX8_octet 26 = .ok (.ireturn, 1) := dk_172 (blk_at bk_cX8_octet_0 26 rfl)
theorem bk_cJ6_bitCount_0f7a4_0 : (cJ6_bitCount_0f7a4.data.toList.drop 0).take 40 = [26, 26, 4, 124, 19, 1, 9, 126, 100, 59, 26, 19, 1, 10, 126, 26, 5, 124, 19, 1, 10, 126, 96, 59, 26, 26, 7, 124, 96, 19, 1, 11, 126, 59, 26, 26, 16, 8, 124, 96] := by decide +kernel
theorem dJ6_bitCount_0f7a4_0 : decode cJ6_bitCount_0f7a4 0 = .ok (.iload_n 0, 1) := dk_26 (blk_at bk_cJ6_bitCount_0f7a4_0 0 rfl)
theorem dJ6_bitCount_0f7a4_1 : decode cJ6_bitCount_0f7a4 1 = .ok (.iload_n 0, 1) := dk_26 (blk_at bk_cJ6_bitCount_0f7a4_0 1 rfl)
theorem dJ6_bitCount_0f7a4_2 : decode cJ6_bitCount_0f7a4 2 = .ok (.iconst 1, 1) := dk_4 (blk_at bk_cJ6_bitCount_0f7a4_0 2 rfl)
theorem dJ6_bitCount_0f7a4_3 : decode cJ6_bitCount_0f7a4 3 = .ok (.iushr, 1) := dk_124 (blk_at bk_cJ6_bitCount_0f7a4_0 3 rfl)
theorem dJ6_bitCount_0f7a4_4 : decode cJ6_bitCount_0f7a4 4 = .ok (.ldc_w 265, 3) := dq_19 bk_cJ6_bitCount_0f7a4_0 4 rfl rfl
theorem dJ6_bitCount_0f7a4_7 : decode cJ6_bitCount_0f7a4 7 = .ok (.iand, 1) := dk_126 (blk_at bk_cJ6_bitCount_0f7a4_0 7 rfl)
theorem dJ6_bitCount_0f7a4_8 : decode cJ6_bitCount_0f7a4 8 = .ok (.isub, 1) := dk_100 (blk_at bk_cJ6_bitCount_0f7a4_0 8 rfl)
theorem dJ6_bitCount_0f7a4_9 : decode cJ6_bitCount_0f7a4 9 = .ok (.istore_n 0, 1) := dk_59 (blk_at bk_cJ6_bitCount_0f7a4_0 9 rfl)
theorem dJ6_bitCount_0f7a4_10 : decode cJ6_bitCount_0f7a4 10 = .ok (.iload_n 0, 1) := dk_26 (blk_at bk_cJ6_bitCount_0f7a4_0 10 rfl)
theorem dJ6_bitCount_0f7a4_11 : decode cJ6_bitCount_0f7a4 11 = .ok (.ldc_w 266, 3) := dq_19 bk_cJ6_bitCount_0f7a4_0 11 rfl rfl
theorem dJ6_bitCount_0f7a4_14 : decode cJ6_bitCount_0f7a4 14 = .ok (.iand, 1) := dk_126 (blk_at bk_cJ6_bitCount_0f7a4_0 14 rfl)
theorem dJ6_bitCount_0f7a4_15 : decode cJ6_bitCount_0f7a4 15 = .ok (.iload_n 0, 1) := dk_26 (blk_at bk_cJ6_bitCount_0f7a4_0 15 rfl)
theorem dJ6_bitCount_0f7a4_16 : decode cJ6_bitCount_0f7a4 16 = .ok (.iconst 2, 1) := dk_5 (blk_at bk_cJ6_bitCount_0f7a4_0 16 rfl)
theorem dJ6_bitCount_0f7a4_17 : decode cJ6_bitCount_0f7a4 17 = .ok (.iushr, 1) := dk_124 (blk_at bk_cJ6_bitCount_0f7a4_0 17 rfl)
theorem dJ6_bitCount_0f7a4_18 : decode cJ6_bitCount_0f7a4 18 = .ok (.ldc_w 266, 3) := dq_19 bk_cJ6_bitCount_0f7a4_0 18 rfl rfl
theorem dJ6_bitCount_0f7a4_21 : decode cJ6_bitCount_0f7a4 21 = .ok (.iand, 1) := dk_126 (blk_at bk_cJ6_bitCount_0f7a4_0 21 rfl)
theorem dJ6_bitCount_0f7a4_22 : decode cJ6_bitCount_0f7a4 22 = .ok (.iadd, 1) := dk_96 (blk_at bk_cJ6_bitCount_0f7a4_0 22 rfl)
theorem dJ6_bitCount_0f7a4_23 : decode cJ6_bitCount_0f7a4 23 = .ok (.istore_n 0, 1) := dk_59 (blk_at bk_cJ6_bitCount_0f7a4_0 23 rfl)
theorem dJ6_bitCount_0f7a4_24 : decode cJ6_bitCount_0f7a4 24 = .ok (.iload_n 0, 1) := dk_26 (blk_at bk_cJ6_bitCount_0f7a4_0 24 rfl)
theorem dJ6_bitCount_0f7a4_25 : decode cJ6_bitCount_0f7a4 25 = .ok (.iload_n 0, 1) := dk_26 (blk_at bk_cJ6_bitCount_0f7a4_0 25 rfl)
theorem dJ6_bitCount_0f7a4_26 : decode cJ6_bitCount_0f7a4 26 = .ok (.iconst 4, 1) := dk_7 (blk_at bk_cJ6_bitCount_0f7a4_0 26 rfl)
theorem dJ6_bitCount_0f7a4_27 : decode cJ6_bitCount_0f7a4 27 = .ok (.iushr, 1) := dk_124 (blk_at bk_cJ6_bitCount_0f7a4_0 27 rfl)
theorem dJ6_bitCount_0f7a4_28 : decode cJ6_bitCount_0f7a4 28 = .ok (.iadd, 1) := dk_96 (blk_at bk_cJ6_bitCount_0f7a4_0 28 rfl)
theorem dJ6_bitCount_0f7a4_29 : decode cJ6_bitCount_0f7a4 29 = .ok (.ldc_w 267, 3) := dq_19 bk_cJ6_bitCount_0f7a4_0 29 rfl rfl
theorem dJ6_bitCount_0f7a4_32 : decode cJ6_bitCount_0f7a4 32 = .ok (.iand, 1) := dk_126 (blk_at bk_cJ6_bitCount_0f7a4_0 32 rfl)
theorem dJ6_bitCount_0f7a4_33 : decode cJ6_bitCount_0f7a4 33 = .ok (.istore_n 0, 1) := dk_59 (blk_at bk_cJ6_bitCount_0f7a4_0 33 rfl)
theorem dJ6_bitCount_0f7a4_34 : decode cJ6_bitCount_0f7a4 34 = .ok (.iload_n 0, 1) := dk_26 (blk_at bk_cJ6_bitCount_0f7a4_0 34 rfl)
theorem dJ6_bitCount_0f7a4_35 : decode cJ6_bitCount_0f7a4 35 = .ok (.iload_n 0, 1) := dk_26 (blk_at bk_cJ6_bitCount_0f7a4_0 35 rfl)
theorem dJ6_bitCount_0f7a4_36 : decode cJ6_bitCount_0f7a4 36 = .ok (.bipush 8, 2) := dq_16 bk_cJ6_bitCount_0f7a4_0 36 rfl (by decide)
theorem dJ6_bitCount_0f7a4_38 : decode cJ6_bitCount_0f7a4 38 = .ok (.iushr, 1) := dk_124 (blk_at bk_cJ6_bitCount_0f7a4_0 38 rfl)
theorem dJ6_bitCount_0f7a4_39 : decode cJ6_bitCount_0f7a4 39 = .ok (.iadd, 1) := dk_96 (blk_at bk_cJ6_bitCount_0f7a4_0 39 rfl)
theorem bk_cJ6_bitCount_0f7a4_40 : (cJ6_bitCount_0f7a4.data.toList.drop 40).take 13 = [59, 26, 26, 16, 16, 124, 96, 59, 26, 16, 63, 126, 172] := by decide +kernel
theorem dJ6_bitCount_0f7a4_40 : decode cJ6_bitCount_0f7a4 40 = .ok (.istore_n 0, 1) := dk_59 (blk_at bk_cJ6_bitCount_0f7a4_40 0 rfl)
theorem dJ6_bitCount_0f7a4_41 : decode cJ6_bitCount_0f7a4 41 = .ok (.iload_n 0, 1) := dk_26 (blk_at bk_cJ6_bitCount_0f7a4_40 1 rfl)
theorem dJ6_bitCount_0f7a4_42 : decode cJ6_bitCount_0f7a4 42 = .ok (.iload_n 0, 1) := dk_26 (blk_at bk_cJ6_bitCount_0f7a4_40 2 rfl)
theorem dJ6_bitCount_0f7a4_43 : decode cJ6_bitCount_0f7a4 43 = .ok (.bipush 16, 2) := dq_16 bk_cJ6_bitCount_0f7a4_40 3 rfl (by decide)
theorem dJ6_bitCount_0f7a4_45 : decode cJ6_bitCount_0f7a4 45 = .ok (.iushr, 1) := dk_124 (blk_at bk_cJ6_bitCount_0f7a4_40 5 rfl)
theorem dJ6_bitCount_0f7a4_46 : decode cJ6_bitCount_0f7a4 46 = .ok (.iadd, 1) := dk_96 (blk_at bk_cJ6_bitCount_0f7a4_40 6 rfl)
theorem dJ6_bitCount_0f7a4_47 : decode cJ6_bitCount_0f7a4 47 = .ok (.istore_n 0, 1) := dk_59 (blk_at bk_cJ6_bitCount_0f7a4_40 7 rfl)
theorem dJ6_bitCount_0f7a4_48 : decode cJ6_bitCount_0f7a4 48 = .ok (.iload_n 0, 1) := dk_26 (blk_at bk_cJ6_bitCount_0f7a4_40 8 rfl)
theorem dJ6_bitCount_0f7a4_49 : decode cJ6_bitCount_0f7a4 49 = .ok (.bipush 63, 2) := dq_16 bk_cJ6_bitCount_0f7a4_40 9 rfl (by decide)
theorem dJ6_bitCount_0f7a4_51 : decode cJ6_bitCount_0f7a4 51 = .ok (.iand, 1) := dk_126 (blk_at bk_cJ6_bitCount_0f7a4_40 11 rfl)
theorem dJ6_bitCount_0f7a4_52 : decode cJ6_bitCount_0f7a4 52 = .ok (.ireturn, 1) := dk_172 (blk_at bk_cJ6_bitCount_0f7a4_40 12 rfl)
theorem bk_cJ0_length_8abf5_0 : (cJ0_length_8abf5.data.toList.drop 0).take 11 = [42, 180, 0, 9, 190, 42, 182, 1, 79, 122, 172] := by decide +kernel
theorem dJ0_length_8abf5_0 : decode cJ0_length_8abf5 0 = .ok (.aload_n 0, 1) := dk_42 (blk_at bk_cJ0_length_8abf5_0 0 rfl)
theorem dJ0_length_8abf5_1 : decode cJ0_length_8abf5 1 = .ok (.getfield 9, 3) := dq_180 bk_cJ0_length_8abf5_0 1 rfl rfl
theorem dJ0_length_8abf5_4 : decode cJ0_length_8abf5 4 = .ok (.arraylength, 1) := dk_190 (blk_at bk_cJ0_length_8abf5_0 4 rfl)
theorem dJ0_length_8abf5_5 : decode cJ0_length_8abf5 5 = .ok (.aload_n 0, 1) := dk_42 (blk_at bk_cJ0_length_8abf5_0 5 rfl)
theorem dJ0_length_8abf5_6 : decode cJ0_length_8abf5 6 = .ok (.invokevirtual 335, 3) := dq_182 bk_cJ0_length_8abf5_0 6 rfl rfl
theorem dJ0_length_8abf5_9 : decode cJ0_length_8abf5 9 = .ok (.ishr, 1) := dk_122 (blk_at bk_cJ0_length_8abf5_0 9 rfl)
theorem dJ0_length_8abf5_10 : decode cJ0_length_8abf5 10 = .ok (.ireturn, 1) := dk_172 (blk_at bk_cJ0_length_8abf5_0 10 rfl)
theorem bk_cJ0_charAt_5068e_0 : (cJ0_charAt_5068e.data.toList.drop 0).take 25 = [42, 182, 1, 236, 153, 0, 12, 42, 180, 0, 9, 27, 184, 1, 239, 172, 42, 180, 0, 9, 27, 184, 1, 242, 172] := by decide +kernel
theorem dJ0_charAt_5068e_0 : decode cJ0_charAt_5068e 0 = .ok (.aload_n 0, 1) := dk_42 (blk_at bk_cJ0_charAt_5068e_0 0 rfl)
theorem dJ0_charAt_5068e_1 : decode cJ0_charAt_5068e 1 = .ok (.invokevirtual 492, 3) := dq_182 bk_cJ0_charAt_5068e_0 1 rfl rfl
theorem dJ0_charAt_5068e_4 : decode cJ0_charAt_5068e 4 = .ok (.ifCond .eq 12, 3) := dq_153 bk_cJ0_charAt_5068e_0 4 rfl (by decide)
theorem dJ0_charAt_5068e_7 : decode cJ0_charAt_5068e 7 = .ok (.aload_n 0, 1) := dk_42 (blk_at bk_cJ0_charAt_5068e_0 7 rfl)
theorem dJ0_charAt_5068e_8 : decode cJ0_charAt_5068e 8 = .ok (.getfield 9, 3) := dq_180 bk_cJ0_charAt_5068e_0 8 rfl rfl
theorem dJ0_charAt_5068e_11 : decode cJ0_charAt_5068e 11 = .ok (.iload_n 1, 1) := dk_27 (blk_at bk_cJ0_charAt_5068e_0 11 rfl)
theorem dJ0_charAt_5068e_12 : decode cJ0_charAt_5068e 12 = .ok (.invokestatic 495, 3) := dq_184 bk_cJ0_charAt_5068e_0 12 rfl rfl
theorem dJ0_charAt_5068e_15 : decode cJ0_charAt_5068e 15 = .ok (.ireturn, 1) := dk_172 (blk_at bk_cJ0_charAt_5068e_0 15 rfl)
theorem dJ0_charAt_5068e_16 : decode cJ0_charAt_5068e 16 = .ok (.aload_n 0, 1) := dk_42 (blk_at bk_cJ0_charAt_5068e_0 16 rfl)
theorem dJ0_charAt_5068e_17 : decode cJ0_charAt_5068e 17 = .ok (.getfield 9, 3) := dq_180 bk_cJ0_charAt_5068e_0 17 rfl rfl
theorem dJ0_charAt_5068e_20 : decode cJ0_charAt_5068e 20 = .ok (.iload_n 1, 1) := dk_27 (blk_at bk_cJ0_charAt_5068e_0 20 rfl)
theorem dJ0_charAt_5068e_21 : decode cJ0_charAt_5068e 21 = .ok (.invokestatic 498, 3) := dq_184 bk_cJ0_charAt_5068e_0 21 rfl rfl
theorem dJ0_charAt_5068e_24 : decode cJ0_charAt_5068e 24 = .ok (.ireturn, 1) := dk_172 (blk_at bk_cJ0_charAt_5068e_0 24 rfl)
theorem bk_cJ0_coder_7d493_0 : (cJ0_coder_7d493.data.toList.drop 0).take 15 = [178, 0, 38, 153, 0, 10, 42, 180, 0, 15, 167, 0, 4, 4, 172] := by decide +kernel
theorem dJ0_coder_7d493_0 : decode cJ0_coder_7d493 0 = .ok (.getstatic 38, 3) := dq_178 bk_cJ0_coder_7d493_0 0 rfl rfl
theorem dJ0_coder_7d493_3 : decode cJ0_coder_7d493 3 = .ok (.ifCond .eq 10, 3) := dq_153 bk_cJ0_coder_7d493_0 3 rfl (by decide)
theorem dJ0_coder_7d493_6 : decode cJ0_coder_7d493 6 = .ok (.aload_n 0, 1) := dk_42 (blk_at bk_cJ0_coder_7d493_0 6 rfl)
theorem dJ0_coder_7d493_7 : decode cJ0_coder_7d493 7 = .ok (.getfield 15, 3) := dq_180 bk_cJ0_coder_7d493_0 7 rfl rfl
theorem dJ0_coder_7d493_10 : decode cJ0_coder_7d493 10 = .ok (.goto 4, 3) := dq_167 bk_cJ0_coder_7d493_0 10 rfl (by decide)
theorem dJ0_coder_7d493_13 : decode cJ0_coder_7d493 13 = .ok (.iconst 1, 1) := dk_4 (blk_at bk_cJ0_coder_7d493_0 13 rfl)
theorem dJ0_coder_7d493_14 : decode cJ0_coder_7d493 14 = .ok (.ireturn, 1) := dk_172 (blk_at bk_cJ0_coder_7d493_0 14 rfl)
theorem bk_cJ0_isLatin1_aae02_0 : (cJ0_isLatin1_aae02.data.toList.drop 0).take 19 = [178, 0, 38, 153, 0, 14, 42, 180, 0, 15, 154, 0, 7, 4, 167, 0, 4, 3, 172] := by decide +kernel
theorem dJ0_isLatin1_aae02_0 : decode cJ0_isLatin1_aae02 0 = .ok (.getstatic 38, 3) := dq_178 bk_cJ0_isLatin1_aae02_0 0 rfl rfl
theorem dJ0_isLatin1_aae02_3 : decode cJ0_isLatin1_aae02 3 = .ok (.ifCond .eq 14, 3) := dq_153 bk_cJ0_isLatin1_aae02_0 3 rfl (by decide)
theorem dJ0_isLatin1_aae02_6 : decode cJ0_isLatin1_aae02 6 = .ok (.aload_n 0, 1) := dk_42 (blk_at bk_cJ0_isLatin1_aae02_0 6 rfl)
theorem dJ0_isLatin1_aae02_7 : decode cJ0_isLatin1_aae02 7 = .ok (.getfield 15, 3) := dq_180 bk_cJ0_isLatin1_aae02_0 7 rfl rfl
theorem dJ0_isLatin1_aae02_10 : decode cJ0_isLatin1_aae02 10 = .ok (.ifCond .ne 7, 3) := dq_154 bk_cJ0_isLatin1_aae02_0 10 rfl (by decide)
theorem dJ0_isLatin1_aae02_13 : decode cJ0_isLatin1_aae02 13 = .ok (.iconst 1, 1) := dk_4 (blk_at bk_cJ0_isLatin1_aae02_0 13 rfl)
theorem dJ0_isLatin1_aae02_14 : decode cJ0_isLatin1_aae02 14 = .ok (.goto 4, 3) := dq_167 bk_cJ0_isLatin1_aae02_0 14 rfl (by decide)
theorem dJ0_isLatin1_aae02_17 : decode cJ0_isLatin1_aae02 17 = .ok (.iconst 0, 1) := dk_3 (blk_at bk_cJ0_isLatin1_aae02_0 17 rfl)
theorem dJ0_isLatin1_aae02_18 : decode cJ0_isLatin1_aae02 18 = .ok (.ireturn, 1) := dk_172 (blk_at bk_cJ0_isLatin1_aae02_0 18 rfl)
theorem bk_cJ0_checkIndex_df160_0 : (cJ0_checkIndex_df160.data.toList.drop 0).take 10 = [26, 27, 178, 4, 29, 184, 4, 35, 87, 177] := by decide +kernel
theorem dJ0_checkIndex_df160_0 : decode cJ0_checkIndex_df160 0 = .ok (.iload_n 0, 1) := dk_26 (blk_at bk_cJ0_checkIndex_df160_0 0 rfl)
theorem dJ0_checkIndex_df160_1 : decode cJ0_checkIndex_df160 1 = .ok (.iload_n 1, 1) := dk_27 (blk_at bk_cJ0_checkIndex_df160_0 1 rfl)
theorem dJ0_checkIndex_df160_2 : decode cJ0_checkIndex_df160 2 = .ok (.getstatic 1053, 3) := dq_178 bk_cJ0_checkIndex_df160_0 2 rfl rfl
theorem dJ0_checkIndex_df160_5 : decode cJ0_checkIndex_df160 5 = .ok (.invokestatic 1059, 3) := dq_184 bk_cJ0_checkIndex_df160_0 5 rfl rfl
theorem dJ0_checkIndex_df160_8 : decode cJ0_checkIndex_df160 8 = .ok (.pop, 1) := dk_87 (blk_at bk_cJ0_checkIndex_df160_0 8 rfl)
theorem dJ0_checkIndex_df160_9 : decode cJ0_checkIndex_df160 9 = .ok (.return_, 1) := dk_177 (blk_at bk_cJ0_checkIndex_df160_0 9 rfl)
theorem bk_cJ1_charAt_3b067_0 : (cJ1_charAt_3b067.data.toList.drop 0).take 15 = [27, 42, 190, 184, 0, 9, 42, 27, 51, 17, 0, 255, 126, 146, 172] := by decide +kernel
theorem dJ1_charAt_3b067_0 : decode cJ1_charAt_3b067 0 = .ok (.iload_n 1, 1) := dk_27 (blk_at bk_cJ1_charAt_3b067_0 0 rfl)
theorem dJ1_charAt_3b067_1 : decode cJ1_charAt_3b067 1 = .ok (.aload_n 0, 1) := dk_42 (blk_at bk_cJ1_charAt_3b067_0 1 rfl)
theorem dJ1_charAt_3b067_2 : decode cJ1_charAt_3b067 2 = .ok (.arraylength, 1) := dk_190 (blk_at bk_cJ1_charAt_3b067_0 2 rfl)
theorem dJ1_charAt_3b067_3 : decode cJ1_charAt_3b067 3 = .ok (.invokestatic 9, 3) := dq_184 bk_cJ1_charAt_3b067_0 3 rfl rfl
theorem dJ1_charAt_3b067_6 : decode cJ1_charAt_3b067 6 = .ok (.aload_n 0, 1) := dk_42 (blk_at bk_cJ1_charAt_3b067_0 6 rfl)
theorem dJ1_charAt_3b067_7 : decode cJ1_charAt_3b067 7 = .ok (.iload_n 1, 1) := dk_27 (blk_at bk_cJ1_charAt_3b067_0 7 rfl)
theorem dJ1_charAt_3b067_8 : decode cJ1_charAt_3b067 8 = .ok (.baload, 1) := dk_51 (blk_at bk_cJ1_charAt_3b067_0 8 rfl)
theorem dJ1_charAt_3b067_9 : decode cJ1_charAt_3b067 9 = .ok (.sipush 255, 3) := dq_17 bk_cJ1_charAt_3b067_0 9 rfl (by decide)
theorem dJ1_charAt_3b067_12 : decode cJ1_charAt_3b067 12 = .ok (.iand, 1) := dk_126 (blk_at bk_cJ1_charAt_3b067_0 12 rfl)
theorem dJ1_charAt_3b067_13 : decode cJ1_charAt_3b067 13 = .ok (.i2c, 1) := dk_146 (blk_at bk_cJ1_charAt_3b067_0 13 rfl)
theorem dJ1_charAt_3b067_14 : decode cJ1_charAt_3b067 14 = .ok (.ireturn, 1) := dk_172 (blk_at bk_cJ1_charAt_3b067_0 14 rfl)
theorem bk_cJ3_checkIndex_8e157_0 : (cJ3_checkIndex_8e157.data.toList.drop 0).take 18 = [26, 155, 0, 8, 26, 27, 161, 0, 10, 44, 26, 27, 184, 0, 95, 191, 26, 172] := by decide +kernel
theorem dJ3_checkIndex_8e157_0 : decode cJ3_checkIndex_8e157 0 = .ok (.iload_n 0, 1) := dk_26 (blk_at bk_cJ3_checkIndex_8e157_0 0 rfl)
theorem dJ3_checkIndex_8e157_1 : decode cJ3_checkIndex_8e157 1 = .ok (.ifCond .lt 8, 3) := dq_155 bk_cJ3_checkIndex_8e157_0 1 rfl (by decide)
theorem dJ3_checkIndex_8e157_4 : decode cJ3_checkIndex_8e157 4 = .ok (.iload_n 0, 1) := dk_26 (blk_at bk_cJ3_checkIndex_8e157_0 4 rfl)
theorem dJ3_checkIndex_8e157_5 : decode cJ3_checkIndex_8e157 5 = .ok (.iload_n 1, 1) := dk_27 (blk_at bk_cJ3_checkIndex_8e157_0 5 rfl)
theorem dJ3_checkIndex_8e157_6 : decode cJ3_checkIndex_8e157 6 = .ok (.if_icmp .lt 10, 3) := dq_161 bk_cJ3_checkIndex_8e157_0 6 rfl (by decide)
theorem dJ3_checkIndex_8e157_9 : decode cJ3_checkIndex_8e157 9 = .ok (.aload_n 2, 1) := dk_44 (blk_at bk_cJ3_checkIndex_8e157_0 9 rfl)
theorem dJ3_checkIndex_8e157_10 : decode cJ3_checkIndex_8e157 10 = .ok (.iload_n 0, 1) := dk_26 (blk_at bk_cJ3_checkIndex_8e157_0 10 rfl)
theorem dJ3_checkIndex_8e157_11 : decode cJ3_checkIndex_8e157 11 = .ok (.iload_n 1, 1) := dk_27 (blk_at bk_cJ3_checkIndex_8e157_0 11 rfl)
theorem dJ3_checkIndex_8e157_12 : decode cJ3_checkIndex_8e157 12 = .ok (.invokestatic 95, 3) := dq_184 bk_cJ3_checkIndex_8e157_0 12 rfl rfl
theorem dJ3_checkIndex_8e157_15 : decode cJ3_checkIndex_8e157 15 = .ok (.athrow, 1) := dk_191 (blk_at bk_cJ3_checkIndex_8e157_0 15 rfl)
theorem dJ3_checkIndex_8e157_16 : decode cJ3_checkIndex_8e157 16 = .ok (.iload_n 0, 1) := dk_26 (blk_at bk_cJ3_checkIndex_8e157_0 16 rfl)
theorem dJ3_checkIndex_8e157_17 : decode cJ3_checkIndex_8e157 17 = .ok (.ireturn, 1) := dk_172 (blk_at bk_cJ3_checkIndex_8e157_0 17 rfl)
