theorem dX8_advance_106 : decode cX8_advance 106 = .ok (.getfield 110, 3) := by decide +kernel
theorem dX8_advance_109 : decode cX8_advance 109 = .ok (.iconst 1, 1) := by decide +kernel
theorem dX8_advance_110 : decode cX8_advance 110 = .ok (.iadd, 1) := by decide +kernel
theorem dX8_advance_111 : decode cX8_advance 111 = .ok (.putfield 110, 3) := by decide +kernel
theorem dX8_advance_114 : decode cX8_advance 114 = .ok (.goto (-31), 3) := by decide +kernel
theorem dX8_advance_117 : decode cX8_advance 117 = .ok (.aload_n 0, 1) := by decide +kernel
theorem dX8_advance_118 : decode cX8_advance 118 = .ok (.iconst 1, 1) := by decide +kernel
theorem dX8_advance_119 : decode cX8_advance 119 = .ok (.putfield 119, 3) := by decide +kernel
theorem dX8_advance_122 : decode cX8_advance 122 = .ok (.goto 113, 3) := by decide +kernel
theorem dX8_advance_125 : decode cX8_advance 125 = .ok (.iload_n 1, 1) := by decide +kernel
theorem dX8_advance_126 : decode cX8_advance 126 = .ok (.i2l, 1) := by decide +kernel
theorem dX8_advance_127 : decode cX8_advance 127 = .ok (.ldc2_w 126, 3) := by decide +kernel
theorem dX8_advance_130 : decode cX8_advance 130 = .ok (.ldc2_w 128, 3) := by decide +kernel
theorem dX8_advance_133 : decode cX8_advance 133 = .ok (.invokestatic 45, 3) := by decide +kernel
theorem dX8_advance_136 : decode cX8_advance 136 = .ok (.ifCond .eq 79, 3) := by decide +kernel
theorem dX8_advance_139 : decode cX8_advance 139 = .ok (.aload_n 0, 1) := by decide +kernel
theorem dX8_advance_140 : decode cX8_advance 140 = .ok (.iconst 0, 1) := by decide +kernel
theorem dX8_advance_141 : decode cX8_advance 141 = .ok (.putfield 130, 3) := by decide +kernel
theorem dX8_advance_144 : decode cX8_advance 144 = .ok (.aload_n 0, 1) := by decide +kernel
theorem dX8_advance_145 : decode cX8_advance 145 = .ok (.aload_n 0, 1) := by decide +kernel
theorem dX8_advance_146 : decode cX8_advance 146 = .ok (.getfield 110, 3) := by decide +kernel
theorem dX8_advance_149 : decode cX8_advance 149 = .ok (.invokevirtual 113, 3) := by decide +kernel
theorem dX8_advance_152 : decode cX8_advance 152 = .ok (.i2l, 1) := by decide +kernel
theorem dX8_advance_153 : decode cX8_advance 153 = .ok (.ldc2_w 126, 3) := by decide +kernel
theorem dX8_advance_156 : decode cX8_advance 156 = .ok (.ldc2_w 128, 3) := by decide +kernel
theorem dX8_advance_159 : decode cX8_advance 159 = .ok (.invokestatic 45, 3) := by decide +kernel
theorem dX8_advance_162 : decode cX8_advance 162 = .ok (.ifCond .eq 45, 3) := by decide +kernel
theorem dX8_advance_165 : decode cX8_advance 165 = .ok (.aload_n 0, 1) := by decide +kernel
theorem dX8_advance_166 : decode cX8_advance 166 = .ok (.sipush 9999, 3) := by decide +kernel
theorem dX8_advance_169 : decode cX8_advance 169 = .ok (.bipush 10, 2) := by decide +kernel
theorem dX8_advance_171 : decode cX8_advance 171 = .ok (.aload_n 0, 1) := by decide +kernel
theorem dX8_advance_172 : decode cX8_advance 172 = .ok (.getfield 130, 3) := by decide +kernel
theorem dX8_advance_175 : decode cX8_advance 175 = .ok (.imul, 1) := by decide +kernel
theorem dX8_advance_176 : decode cX8_advance 176 = .ok (.aload_n 0, 1) := by decide +kernel
theorem dX8_advance_177 : decode cX8_advance 177 = .ok (.aload_n 0, 1) := by decide +kernel
theorem dX8_advance_178 : decode cX8_advance 178 = .ok (.getfield 110, 3) := by decide +kernel
theorem dX8_advance_181 : decode cX8_advance 181 = .ok (.invokevirtual 113, 3) := by decide +kernel
theorem dX8_advance_184 : decode cX8_advance 184 = .ok (.iadd, 1) := by decide +kernel
theorem dX8_advance_185 : decode cX8_advance 185 = .ok (.bipush 48, 2) := by decide +kernel
theorem dX8_advance_187 : decode cX8_advance 187 = .ok (.isub, 1) := by decide +kernel
theorem dX8_advance_188 : decode cX8_advance 188 = .ok (.invokestatic 133, 3) := by decide +kernel
theorem dX8_advance_191 : decode cX8_advance 191 = .ok (.putfield 130, 3) := by decide +kernel
theorem dX8_advance_194 : decode cX8_advance 194 = .ok (.aload_n 0, 1) := by decide +kernel
theorem dX8_advance_195 : decode cX8_advance 195 = .ok (.dup, 1) := by decide +kernel
theorem dX8_advance_196 : decode cX8_advance 196 = .ok (.getfield 110, 3) := by decide +kernel
theorem dX8_advance_199 : decode cX8_advance 199 = .ok (.iconst 1, 1) := by decide +kernel
theorem dX8_advance_200 : decode cX8_advance 200 = .ok (.iadd, 1) := by decide +kernel
theorem dX8_advance_201 : decode cX8_advance 201 = .ok (.putfield 110, 3) := by decide +kernel
theorem dX8_advance_204 : decode cX8_advance 204 = .ok (.goto (-60), 3) := by decide +kernel
theorem dX8_advance_207 : decode cX8_advance 207 = .ok (.aload_n 0, 1) := by decide +kernel
theorem dX8_advance_208 : decode cX8_advance 208 = .ok (.iconst 2, 1) := by decide +kernel
theorem dX8_advance_209 : decode cX8_advance 209 = .ok (.putfield 119, 3) := by decide +kernel
theorem dX8_advance_212 : decode cX8_advance 212 = .ok (.goto 23, 3) := by decide +kernel
theorem dX8_advance_215 : decode cX8_advance 215 = .ok (.aload_n 0, 1) := by decide +kernel
theorem dX8_advance_216 : decode cX8_advance 216 = .ok (.iconst 3, 1) := by decide +kernel
theorem dX8_advance_217 : decode cX8_advance 217 = .ok (.putfield 119, 3) := by decide +kernel
theorem dX8_advance_220 : decode cX8_advance 220 = .ok (.aload_n 0, 1) := by decide +kernel
theorem dX8_advance_221 : decode cX8_advance 221 = .ok (.iload_n 1, 1) := by decide +kernel
theorem dX8_advance_222 : decode cX8_advance 222 = .ok (.putfield 130, 3) := by decide +kernel
theorem dX8_advance_225 : decode cX8_advance 225 = .ok (.aload_n 0, 1) := by decide +kernel
theorem dX8_advance_226 : decode cX8_advance 226 = .ok (.dup, 1) := by decide +kernel
theorem dX8_advance_227 : decode cX8_advance 227 = .ok (.getfield 110, 3) := by decide +kernel
theorem dX8_advance_230 : decode cX8_advance 230 = .ok (.iconst 1, 1) := by decide +kernel
theorem dX8_advance_231 : decode cX8_advance 231 = .ok (.iadd, 1) := by decide +kernel
theorem dX8_advance_232 : decode cX8_advance 232 = .ok (.putfield 110, 3) := by decide +kernel
theorem dX8_advance_235 : decode cX8_advance 235 = .ok (.return_, 1) := by decide +kernel
theorem dX8_isWord_0 : decode cX8_isWord 0 = .ok (.aload_n 0, 1) := by decide +kernel
theorem dX8_isWord_1 : decode cX8_isWord 1 = .ok (.invokevirtual 104, 3) := by decide +kernel
theorem dX8_isWord_4 : decode cX8_isWord 4 = .ok (.ifCond .eq 31, 3) := by decide +kernel
theorem dX8_isWord_7 : decode cX8_isWord 7 = .ok (.aload_n 0, 1) := by decide +kernel
theorem dX8_isWord_8 : decode cX8_isWord 8 = .ok (.getfield 119, 3) := by decide +kernel
theorem dX8_isWord_11 : decode cX8_isWord 11 = .ok (.iconst 1, 1) := by decide +kernel
theorem dX8_isWord_12 : decode cX8_isWord 12 = .ok (.if_icmp .ne 23, 3) := by decide +kernel
theorem dX8_isWord_15 : decode cX8_isWord 15 = .ok (.aload_n 0, 1) := by decide +kernel
theorem dX8_isWord_16 : decode cX8_isWord 16 = .ok (.getfield 110, 3) := by decide +kernel
theorem dX8_isWord_19 : decode cX8_isWord 19 = .ok (.aload_n 0, 1) := by decide +kernel
theorem dX8_isWord_20 : decode cX8_isWord 20 = .ok (.getfield 116, 3) := by decide +kernel
theorem dX8_isWord_23 : decode cX8_isWord 23 = .ok (.isub, 1) := by decide +kernel
theorem dX8_isWord_24 : decode cX8_isWord 24 = .ok (.aload_n 1, 1) := by decide +kernel
theorem dX8_isWord_25 : decode cX8_isWord 25 = .ok (.invokevirtual 138, 3) := by decide +kernel
theorem dX8_isWord_28 : decode cX8_isWord 28 = .ok (.if_icmp .ne 7, 3) := by decide +kernel
theorem dX8_isWord_31 : decode cX8_isWord 31 = .ok (.iconst 1, 1) := by decide +kernel
theorem dX8_isWord_32 : decode cX8_isWord 32 = .ok (.goto 4, 3) := by decide +kernel
theorem dX8_isWord_35 : decode cX8_isWord 35 = .ok (.iconst 0, 1) := by decide +kernel
theorem dX8_isWord_36 : decode cX8_isWord 36 = .ok (.istore_n 2, 1) := by decide +kernel
theorem dX8_isWord_37 : decode cX8_isWord 37 = .ok (.iconst 0, 1) := by decide +kernel
theorem dX8_isWord_38 : decode cX8_isWord 38 = .ok (.istore_n 3, 1) := by decide +kernel
theorem dX8_isWord_39 : decode cX8_isWord 39 = .ok (.iload_n 3, 1) := by decide +kernel
theorem dX8_isWord_40 : decode cX8_isWord 40 = .ok (.aload_n 1, 1) := by decide +kernel
theorem dX8_isWord_41 : decode cX8_isWord 41 = .ok (.invokevirtual 138, 3) := by decide +kernel
theorem dX8_isWord_44 : decode cX8_isWord 44 = .ok (.if_icmp .ge 38, 3) := by decide +kernel
theorem dX8_isWord_47 : decode cX8_isWord 47 = .ok (.iload_n 2, 1) := by decide +kernel
theorem dX8_isWord_48 : decode cX8_isWord 48 = .ok (.ifCond .eq 34, 3) := by decide +kernel
theorem dX8_isWord_51 : decode cX8_isWord 51 = .ok (.aload_n 0, 1) := by decide +kernel
theorem dX8_isWord_52 : decode cX8_isWord 52 = .ok (.getfield 19, 3) := by decide +kernel
theorem dX8_isWord_55 : decode cX8_isWord 55 = .ok (.aload_n 0, 1) := by decide +kernel
theorem dX8_isWord_56 : decode cX8_isWord 56 = .ok (.getfield 116, 3) := by decide +kernel
theorem dX8_isWord_59 : decode cX8_isWord 59 = .ok (.iload_n 3, 1) := by decide +kernel
theorem dX8_isWord_60 : decode cX8_isWord 60 = .ok (.iadd, 1) := by decide +kernel
theorem dX8_isWord_61 : decode cX8_isWord 61 = .ok (.baload, 1) := by decide +kernel
theorem dX8_isWord_62 : decode cX8_isWord 62 = .ok (.aload_n 1, 1) := by decide +kernel
theorem dX8_isWord_63 : decode cX8_isWord 63 = .ok (.iload_n 3, 1) := by decide +kernel
theorem dX8_isWord_64 : decode cX8_isWord 64 = .ok (.invokevirtual 143, 3) := by decide +kernel
theorem dX8_isWord_67 : decode cX8_isWord 67 = .ok (.if_icmp .ne 7, 3) := by decide +kernel
theorem dX8_isWord_70 : decode cX8_isWord 70 = .ok (.iconst 1, 1) := by decide +kernel
theorem dX8_isWord_71 : decode cX8_isWord 71 = .ok (.goto 4, 3) := by decide +kernel
theorem dX8_isWord_74 : decode cX8_isWord 74 = .ok (.iconst 0, 1) := by decide +kernel
theorem dX8_isWord_75 : decode cX8_isWord 75 = .ok (.istore_n 2, 1) := by decide +kernel
theorem dX8_isWord_76 : decode cX8_isWord 76 = .ok (.iinc 3 1, 3) := by decide +kernel
theorem dX8_isWord_79 : decode cX8_isWord 79 = .ok (.goto (-40), 3) := by decide +kernel
theorem dX8_isWord_82 : decode cX8_isWord 82 = .ok (.iload_n 2, 1) := by decide +kernel
theorem dX8_isWord_83 : decode cX8_isWord 83 = .ok (.ireturn, 1) := by decide +kernel
theorem dX8_eats_0 : decode cX8_eats 0 = .ok (.aload_n 0, 1) := by decide +kernel
theorem dX8_eats_1 : decode cX8_eats 1 = .ok (.aload_n 1, 1) := by decide +kernel
theorem dX8_eats_2 : decode cX8_eats 2 = .ok (.invokevirtual 147, 3) := by decide +kernel
theorem dX8_eats_5 : decode cX8_eats 5 = .ok (.ifCond .ne 5, 3) := by decide +kernel
theorem dX8_eats_8 : decode cX8_eats 8 = .ok (.iconst 0, 1) := by decide +kernel
theorem dX8_eats_9 : decode cX8_eats 9 = .ok (.ireturn, 1) := by decide +kernel
theorem dX8_eats_10 : decode cX8_eats 10 = .ok (.aload_n 0, 1) := by decide +kernel
theorem dX8_eats_11 : decode cX8_eats 11 = .ok (.invokevirtual 151, 3) := by decide +kernel
theorem dX8_eats_14 : decode cX8_eats 14 = .ok (.iconst 1, 1) := by decide +kernel
theorem dX8_eats_15 : decode cX8_eats 15 = .ok (.ireturn, 1) := by decide +kernel
theorem dX8_passes_0 : decode cX8_passes 0 = .ok (.aload_n 0, 1) := by decide +kernel
theorem dX8_passes_1 : decode cX8_passes 1 = .ok (.aload_n 1, 1) := by decide +kernel
theorem dX8_passes_2 : decode cX8_passes 2 = .ok (.invokevirtual 154, 3) := by decide +kernel
theorem dX8_passes_5 : decode cX8_passes 5 = .ok (.ifCond .ne 12, 3) := by decide +kernel
theorem dX8_passes_8 : decode cX8_passes 8 = .ok (.aload_n 0, 1) := by decide +kernel
theorem dX8_passes_9 : decode cX8_passes 9 = .ok (.iconst 1, 1) := by decide +kernel
theorem dX8_passes_10 : decode cX8_passes 10 = .ok (.aload_n 0, 1) := by decide +kernel
theorem dX8_passes_11 : decode cX8_passes 11 = .ok (.getfield 116, 3) := by decide +kernel
theorem dX8_passes_14 : decode cX8_passes 14 = .ok (.invokevirtual 157, 3) := by decide +kernel
theorem dX8_passes_17 : decode cX8_passes 17 = .ok (.return_, 1) := by decide +kernel
theorem dX8_isByte_0 : decode cX8_isByte 0 = .ok (.aload_n 0, 1) := by decide +kernel
theorem dX8_isByte_1 : decode cX8_isByte 1 = .ok (.invokevirtual 104, 3) := by decide +kernel
theorem dX8_isByte_4 : decode cX8_isByte 4 = .ok (.ifCond .eq 23, 3) := by decide +kernel
theorem dX8_isByte_7 : decode cX8_isByte 7 = .ok (.aload_n 0, 1) := by decide +kernel
theorem dX8_isByte_8 : decode cX8_isByte 8 = .ok (.getfield 119, 3) := by decide +kernel
theorem dX8_isByte_11 : decode cX8_isByte 11 = .ok (.iconst 3, 1) := by decide +kernel
theorem dX8_isByte_12 : decode cX8_isByte 12 = .ok (.if_icmp .ne 15, 3) := by decide +kernel
theorem dX8_isByte_15 : decode cX8_isByte 15 = .ok (.aload_n 0, 1) := by decide +kernel
theorem dX8_isByte_16 : decode cX8_isByte 16 = .ok (.getfield 130, 3) := by decide +kernel
theorem dX8_isByte_19 : decode cX8_isByte 19 = .ok (.iload_n 1, 1) := by decide +kernel
theorem dX8_isByte_20 : decode cX8_isByte 20 = .ok (.if_icmp .ne 7, 3) := by decide +kernel
theorem dX8_isByte_23 : decode cX8_isByte 23 = .ok (.iconst 1, 1) := by decide +kernel
theorem dX8_isByte_24 : decode cX8_isByte 24 = .ok (.goto 4, 3) := by decide +kernel
theorem dX8_isByte_27 : decode cX8_isByte 27 = .ok (.iconst 0, 1) := by decide +kernel
theorem dX8_isByte_28 : decode cX8_isByte 28 = .ok (.ireturn, 1) := by decide +kernel
theorem dX8_passesByte_0 : decode cX8_passesByte 0 = .ok (.aload_n 0, 1) := by decide +kernel
theorem dX8_passesByte_1 : decode cX8_passesByte 1 = .ok (.iload_n 1, 1) := by decide +kernel
theorem dX8_passesByte_2 : decode cX8_passesByte 2 = .ok (.invokevirtual 161, 3) := by decide +kernel
theorem dX8_passesByte_5 : decode cX8_passesByte 5 = .ok (.ifCond .ne 12, 3) := by decide +kernel
theorem dX8_passesByte_8 : decode cX8_passesByte 8 = .ok (.aload_n 0, 1) := by decide +kernel
theorem dX8_passesByte_9 : decode cX8_passesByte 9 = .ok (.iconst 1, 1) := by decide +kernel
theorem dX8_passesByte_10 : decode cX8_passesByte 10 = .ok (.aload_n 0, 1) := by decide +kernel
theorem dX8_passesByte_11 : decode cX8_passesByte 11 = .ok (.getfield 116, 3) := by decide +kernel
theorem dX8_passesByte_14 : decode cX8_passesByte 14 = .ok (.invokevirtual 157, 3) := by decide +kernel
theorem dX8_passesByte_17 : decode cX8_passesByte 17 = .ok (.aload_n 0, 1) := by decide +kernel
theorem dX8_passesByte_18 : decode cX8_passesByte 18 = .ok (.invokevirtual 104, 3) := by decide +kernel
theorem dX8_passesByte_21 : decode cX8_passesByte 21 = .ok (.ifCond .eq 7, 3) := by decide +kernel
theorem dX8_passesByte_24 : decode cX8_passesByte 24 = .ok (.aload_n 0, 1) := by decide +kernel
theorem dX8_passesByte_25 : decode cX8_passesByte 25 = .ok (.invokevirtual 151, 3) := by decide +kernel
theorem dX8_passesByte_28 : decode cX8_passesByte 28 = .ok (.return_, 1) := by decide +kernel
theorem dX8_number_0 : decode cX8_number 0 = .ok (.aload_n 0, 1) := by decide +kernel
theorem dX8_number_1 : decode cX8_number 1 = .ok (.invokevirtual 104, 3) := by decide +kernel
theorem dX8_number_4 : decode cX8_number 4 = .ok (.ifCond .eq 20, 3) := by decide +kernel
theorem dX8_number_7 : decode cX8_number 7 = .ok (.aload_n 0, 1) := by decide +kernel
theorem dX8_number_8 : decode cX8_number 8 = .ok (.getfield 119, 3) := by decide +kernel
theorem dX8_number_11 : decode cX8_number 11 = .ok (.iconst 2, 1) := by decide +kernel
theorem dX8_number_12 : decode cX8_number 12 = .ok (.if_icmp .eq 12, 3) := by decide +kernel
theorem dX8_number_15 : decode cX8_number 15 = .ok (.aload_n 0, 1) := by decide +kernel
theorem dX8_number_16 : decode cX8_number 16 = .ok (.iconst 1, 1) := by decide +kernel
theorem dX8_number_17 : decode cX8_number 17 = .ok (.aload_n 0, 1) := by decide +kernel
theorem dX8_number_18 : decode cX8_number 18 = .ok (.getfield 116, 3) := by decide +kernel
theorem dX8_number_21 : decode cX8_number 21 = .ok (.invokevirtual 157, 3) := by decide +kernel
theorem dX8_number_24 : decode cX8_number 24 = .ok (.aload_n 0, 1) := by decide +kernel
theorem dX8_number_25 : decode cX8_number 25 = .ok (.invokevirtual 104, 3) := by decide +kernel
theorem dX8_number_28 : decode cX8_number 28 = .ok (.ifCond .eq 27, 3) := by decide +kernel
theorem dX8_number_31 : decode cX8_number 31 = .ok (.aload_n 0, 1) := by decide +kernel
theorem dX8_number_32 : decode cX8_number 32 = .ok (.getfield 130, 3) := by decide +kernel
theorem dX8_number_35 : decode cX8_number 35 = .ok (.i2l, 1) := by decide +kernel
theorem dX8_number_36 : decode cX8_number 36 = .ok (.iload_n 1, 1) := by decide +kernel
theorem dX8_number_37 : decode cX8_number 37 = .ok (.i2l, 1) := by decide +kernel
theorem dX8_number_38 : decode cX8_number 38 = .ok (.iload_n 2, 1) := by decide +kernel
theorem dX8_number_39 : decode cX8_number 39 = .ok (.i2l, 1) := by decide +kernel
theorem dX8_number_40 : decode cX8_number 40 = .ok (.invokestatic 45, 3) := by decide +kernel
theorem dX8_number_43 : decode cX8_number 43 = .ok (.ifCond .ne 12, 3) := by decide +kernel
theorem dX8_number_46 : decode cX8_number 46 = .ok (.aload_n 0, 1) := by decide +kernel
theorem dX8_number_47 : decode cX8_number 47 = .ok (.iconst 2, 1) := by decide +kernel
theorem dX8_number_48 : decode cX8_number 48 = .ok (.aload_n 0, 1) := by decide +kernel
theorem dX8_number_49 : decode cX8_number 49 = .ok (.getfield 116, 3) := by decide +kernel
theorem dX8_number_52 : decode cX8_number 52 = .ok (.invokevirtual 157, 3) := by decide +kernel
theorem dX8_number_55 : decode cX8_number 55 = .ok (.aload_n 0, 1) := by decide +kernel
theorem dX8_number_56 : decode cX8_number 56 = .ok (.getfield 130, 3) := by decide +kernel
theorem dX8_number_59 : decode cX8_number 59 = .ok (.istore_n 3, 1) := by decide +kernel
theorem dX8_number_60 : decode cX8_number 60 = .ok (.aload_n 0, 1) := by decide +kernel
theorem dX8_number_61 : decode cX8_number 61 = .ok (.invokevirtual 104, 3) := by decide +kernel
theorem dX8_number_64 : decode cX8_number 64 = .ok (.ifCond .eq 7, 3) := by decide +kernel
theorem dX8_number_67 : decode cX8_number 67 = .ok (.aload_n 0, 1) := by decide +kernel
theorem dX8_number_68 : decode cX8_number 68 = .ok (.invokevirtual 151, 3) := by decide +kernel
theorem dX8_number_71 : decode cX8_number 71 = .ok (.aload_n 0, 1) := by decide +kernel
theorem dX8_number_72 : decode cX8_number 72 = .ok (.invokevirtual 104, 3) := by decide +kernel
theorem dX8_number_75 : decode cX8_number 75 = .ok (.ifCond .eq 7, 3) := by decide +kernel
theorem dX8_number_78 : decode cX8_number 78 = .ok (.iload_n 3, 1) := by decide +kernel
theorem dX8_number_79 : decode cX8_number 79 = .ok (.goto 4, 3) := by decide +kernel
theorem dX8_number_82 : decode cX8_number 82 = .ok (.iconst 0, 1) := by decide +kernel
theorem dX8_number_83 : decode cX8_number 83 = .ok (.ireturn, 1) := by decide +kernel
theorem dX8_dayOf_0 : decode cX8_dayOf 0 = .ok (.iload_n 0, 1) := by decide +kernel
theorem dX8_dayOf_1 : decode cX8_dayOf 1 = .ok (.tableswitch 57 0 5 #[39, 42, 45, 48, 51, 54], 39) := by decide +kernel
theorem dX8_dayOf_40 : decode cX8_dayOf 40 = .ok (.ldc 164, 2) := by decide +kernel
theorem dX8_dayOf_42 : decode cX8_dayOf 42 = .ok (.areturn, 1) := by decide +kernel
theorem dX8_dayOf_43 : decode cX8_dayOf 43 = .ok (.ldc 166, 2) := by decide +kernel
theorem dX8_dayOf_45 : decode cX8_dayOf 45 = .ok (.areturn, 1) := by decide +kernel
theorem dX8_dayOf_46 : decode cX8_dayOf 46 = .ok (.ldc 168, 2) := by decide +kernel
theorem dX8_dayOf_48 : decode cX8_dayOf 48 = .ok (.areturn, 1) := by decide +kernel
theorem dX8_dayOf_49 : decode cX8_dayOf 49 = .ok (.ldc 170, 2) := by decide +kernel
theorem dX8_dayOf_51 : decode cX8_dayOf 51 = .ok (.areturn, 1) := by decide +kernel
theorem dX8_dayOf_52 : decode cX8_dayOf 52 = .ok (.ldc 172, 2) := by decide +kernel
theorem dX8_dayOf_54 : decode cX8_dayOf 54 = .ok (.areturn, 1) := by decide +kernel
theorem dX8_dayOf_55 : decode cX8_dayOf 55 = .ok (.ldc 174, 2) := by decide +kernel
theorem dX8_dayOf_57 : decode cX8_dayOf 57 = .ok (.areturn, 1) := by decide +kernel
theorem dX8_dayOf_58 : decode cX8_dayOf 58 = .ok (.ldc 176, 2) := by decide +kernel
theorem dX8_dayOf_60 : decode cX8_dayOf 60 = .ok (.areturn, 1) := by decide +kernel
theorem dX8_dayHere_0 : decode cX8_dayHere 0 = .ok (.iconst 0, 1) := by decide +kernel
theorem dX8_dayHere_1 : decode cX8_dayHere 1 = .ok (.istore_n 1, 1) := by decide +kernel
theorem dX8_dayHere_2 : decode cX8_dayHere 2 = .ok (.iload_n 1, 1) := by decide +kernel
theorem dX8_dayHere_3 : decode cX8_dayHere 3 = .ok (.bipush 7, 2) := by decide +kernel
theorem dX8_dayHere_5 : decode cX8_dayHere 5 = .ok (.if_icmp .ge 22, 3) := by decide +kernel
theorem dX8_dayHere_8 : decode cX8_dayHere 8 = .ok (.aload_n 0, 1) := by decide +kernel
theorem dX8_dayHere_9 : decode cX8_dayHere 9 = .ok (.iload_n 1, 1) := by decide +kernel
theorem dX8_dayHere_10 : decode cX8_dayHere 10 = .ok (.invokestatic 178, 3) := by decide +kernel
theorem dX8_dayHere_13 : decode cX8_dayHere 13 = .ok (.invokevirtual 147, 3) := by decide +kernel
theorem dX8_dayHere_16 : decode cX8_dayHere 16 = .ok (.ifCond .eq 5, 3) := by decide +kernel
theorem dX8_dayHere_19 : decode cX8_dayHere 19 = .ok (.iload_n 1, 1) := by decide +kernel
theorem dX8_dayHere_20 : decode cX8_dayHere 20 = .ok (.ireturn, 1) := by decide +kernel
theorem dX8_dayHere_21 : decode cX8_dayHere 21 = .ok (.iinc 1 1, 3) := by decide +kernel
theorem dX8_dayHere_24 : decode cX8_dayHere 24 = .ok (.goto (-22), 3) := by decide +kernel
theorem dX8_dayHere_27 : decode cX8_dayHere 27 = .ok (.iconst (-1), 1) := by decide +kernel
theorem dX8_dayHere_28 : decode cX8_dayHere 28 = .ok (.ireturn, 1) := by decide +kernel
theorem dX8_isOwn_0 : decode cX8_isOwn 0 = .ok (.aload_n 0, 1) := by decide +kernel
theorem dX8_isOwn_1 : decode cX8_isOwn 1 = .ok (.invokevirtual 182, 3) := by decide +kernel
theorem dX8_isOwn_4 : decode cX8_isOwn 4 = .ok (.iconst (-1), 1) := by decide +kernel
theorem dX8_isOwn_5 : decode cX8_isOwn 5 = .ok (.if_icmp .ne 84, 3) := by decide +kernel
theorem dX8_isOwn_8 : decode cX8_isOwn 8 = .ok (.aload_n 0, 1) := by decide +kernel
theorem dX8_isOwn_9 : decode cX8_isOwn 9 = .ok (.ldc 185, 2) := by decide +kernel
theorem dX8_isOwn_11 : decode cX8_isOwn 11 = .ok (.invokevirtual 147, 3) := by decide +kernel
theorem dX8_isOwn_14 : decode cX8_isOwn 14 = .ok (.ifCond .ne 75, 3) := by decide +kernel
theorem dX8_isOwn_17 : decode cX8_isOwn 17 = .ok (.aload_n 0, 1) := by decide +kernel
theorem dX8_isOwn_18 : decode cX8_isOwn 18 = .ok (.ldc 187, 2) := by decide +kernel
theorem dX8_isOwn_20 : decode cX8_isOwn 20 = .ok (.invokevirtual 147, 3) := by decide +kernel
theorem dX8_isOwn_23 : decode cX8_isOwn 23 = .ok (.ifCond .ne 66, 3) := by decide +kernel
theorem dX8_isOwn_26 : decode cX8_isOwn 26 = .ok (.aload_n 0, 1) := by decide +kernel
theorem dX8_isOwn_27 : decode cX8_isOwn 27 = .ok (.ldc 189, 2) := by decide +kernel
theorem dX8_isOwn_29 : decode cX8_isOwn 29 = .ok (.invokevirtual 147, 3) := by decide +kernel
theorem dX8_isOwn_32 : decode cX8_isOwn 32 = .ok (.ifCond .ne 57, 3) := by decide +kernel
theorem dX8_isOwn_35 : decode cX8_isOwn 35 = .ok (.aload_n 0, 1) := by decide +kernel
theorem dX8_isOwn_36 : decode cX8_isOwn 36 = .ok (.ldc 191, 2) := by decide +kernel
theorem dX8_isOwn_38 : decode cX8_isOwn 38 = .ok (.invokevirtual 147, 3) := by decide +kernel
theorem dX8_isOwn_41 : decode cX8_isOwn 41 = .ok (.ifCond .ne 48, 3) := by decide +kernel
theorem dX8_isOwn_44 : decode cX8_isOwn 44 = .ok (.aload_n 0, 1) := by decide +kernel
theorem dX8_isOwn_45 : decode cX8_isOwn 45 = .ok (.ldc 193, 2) := by decide +kernel
theorem dX8_isOwn_47 : decode cX8_isOwn 47 = .ok (.invokevirtual 147, 3) := by decide +kernel
theorem dX8_isOwn_50 : decode cX8_isOwn 50 = .ok (.ifCond .ne 39, 3) := by decide +kernel
theorem dX8_isOwn_53 : decode cX8_isOwn 53 = .ok (.aload_n 0, 1) := by decide +kernel
theorem dX8_isOwn_54 : decode cX8_isOwn 54 = .ok (.ldc 195, 2) := by decide +kernel
theorem dX8_isOwn_56 : decode cX8_isOwn 56 = .ok (.invokevirtual 147, 3) := by decide +kernel
theorem dX8_isOwn_59 : decode cX8_isOwn 59 = .ok (.ifCond .ne 30, 3) := by decide +kernel
theorem dX8_isOwn_62 : decode cX8_isOwn 62 = .ok (.aload_n 0, 1) := by decide +kernel
theorem dX8_isOwn_63 : decode cX8_isOwn 63 = .ok (.ldc 196, 2) := by decide +kernel
theorem dX8_isOwn_65 : decode cX8_isOwn 65 = .ok (.invokevirtual 147, 3) := by decide +kernel
theorem dX8_isOwn_68 : decode cX8_isOwn 68 = .ok (.ifCond .ne 21, 3) := by decide +kernel
theorem dX8_isOwn_71 : decode cX8_isOwn 71 = .ok (.aload_n 0, 1) := by decide +kernel
theorem dX8_isOwn_72 : decode cX8_isOwn 72 = .ok (.ldc 197, 2) := by decide +kernel
theorem dX8_isOwn_74 : decode cX8_isOwn 74 = .ok (.invokevirtual 147, 3) := by decide +kernel
theorem dX8_isOwn_77 : decode cX8_isOwn 77 = .ok (.ifCond .ne 12, 3) := by decide +kernel
theorem dX8_isOwn_80 : decode cX8_isOwn 80 = .ok (.aload_n 0, 1) := by decide +kernel
theorem dX8_isOwn_81 : decode cX8_isOwn 81 = .ok (.ldc 199, 2) := by decide +kernel
theorem dX8_isOwn_83 : decode cX8_isOwn 83 = .ok (.invokevirtual 147, 3) := by decide +kernel
theorem dX8_isOwn_86 : decode cX8_isOwn 86 = .ok (.ifCond .eq 7, 3) := by decide +kernel
theorem dX8_isOwn_89 : decode cX8_isOwn 89 = .ok (.iconst 1, 1) := by decide +kernel
theorem dX8_isOwn_90 : decode cX8_isOwn 90 = .ok (.goto 4, 3) := by decide +kernel
theorem dX8_isOwn_93 : decode cX8_isOwn 93 = .ok (.iconst 0, 1) := by decide +kernel
theorem dX8_isOwn_94 : decode cX8_isOwn 94 = .ok (.ireturn, 1) := by decide +kernel
theorem dX8_packed_0 : decode cX8_packed 0 = .ok (.iconst 0, 1) := by decide +kernel
theorem dX8_packed_1 : decode cX8_packed 1 = .ok (.istore_n 3, 1) := by decide +kernel
theorem dX8_packed_2 : decode cX8_packed 2 = .ok (.iconst 0, 1) := by decide +kernel
theorem dX8_packed_3 : decode cX8_packed 3 = .ok (.istore 4, 2) := by decide +kernel
theorem dX8_packed_5 : decode cX8_packed 5 = .ok (.iload 4, 2) := by decide +kernel
theorem dX8_packed_7 : decode cX8_packed 7 = .ok (.bipush 6, 2) := by decide +kernel
theorem dX8_packed_9 : decode cX8_packed 9 = .ok (.if_icmp .ge 41, 3) := by decide +kernel
theorem dX8_packed_12 : decode cX8_packed 12 = .ok (.bipush 27, 2) := by decide +kernel
theorem dX8_packed_14 : decode cX8_packed 14 = .ok (.iload_n 3, 1) := by decide +kernel
theorem dX8_packed_15 : decode cX8_packed 15 = .ok (.imul, 1) := by decide +kernel
theorem dX8_packed_16 : decode cX8_packed 16 = .ok (.iload_n 1, 1) := by decide +kernel
theorem dX8_packed_17 : decode cX8_packed 17 = .ok (.iload 4, 2) := by decide +kernel
theorem dX8_packed_19 : decode cX8_packed 19 = .ok (.iadd, 1) := by decide +kernel
theorem dX8_packed_20 : decode cX8_packed 20 = .ok (.iload_n 2, 1) := by decide +kernel
theorem dX8_packed_21 : decode cX8_packed 21 = .ok (.if_icmp .ge 20, 3) := by decide +kernel
theorem dX8_packed_24 : decode cX8_packed 24 = .ok (.aload_n 0, 1) := by decide +kernel
theorem dX8_packed_25 : decode cX8_packed 25 = .ok (.getfield 19, 3) := by decide +kernel
theorem dX8_packed_28 : decode cX8_packed 28 = .ok (.iload_n 1, 1) := by decide +kernel
theorem dX8_packed_29 : decode cX8_packed 29 = .ok (.iload 4, 2) := by decide +kernel
theorem dX8_packed_31 : decode cX8_packed 31 = .ok (.iadd, 1) := by decide +kernel
theorem dX8_packed_32 : decode cX8_packed 32 = .ok (.baload, 1) := by decide +kernel
theorem dX8_packed_33 : decode cX8_packed 33 = .ok (.bipush 97, 2) := by decide +kernel
theorem dX8_packed_35 : decode cX8_packed 35 = .ok (.isub, 1) := by decide +kernel
theorem dX8_packed_36 : decode cX8_packed 36 = .ok (.iconst 1, 1) := by decide +kernel
theorem dX8_packed_37 : decode cX8_packed 37 = .ok (.iadd, 1) := by decide +kernel
theorem dX8_packed_38 : decode cX8_packed 38 = .ok (.goto 4, 3) := by decide +kernel
theorem dX8_packed_41 : decode cX8_packed 41 = .ok (.iconst 0, 1) := by decide +kernel
theorem dX8_packed_42 : decode cX8_packed 42 = .ok (.iadd, 1) := by decide +kernel
theorem dX8_packed_43 : decode cX8_packed 43 = .ok (.istore_n 3, 1) := by decide +kernel
theorem dX8_packed_44 : decode cX8_packed 44 = .ok (.iinc 4 1, 3) := by decide +kernel
theorem dX8_packed_47 : decode cX8_packed 47 = .ok (.goto (-42), 3) := by decide +kernel
theorem dX8_packed_50 : decode cX8_packed 50 = .ok (.iload_n 3, 1) := by decide +kernel
theorem dX8_packed_51 : decode cX8_packed 51 = .ok (.ireturn, 1) := by decide +kernel
theorem dX8_nameHere_0 : decode cX8_nameHere 0 = .ok (.aload_n 0, 1) := by decide +kernel
theorem dX8_nameHere_1 : decode cX8_nameHere 1 = .ok (.invokevirtual 104, 3) := by decide +kernel
theorem dX8_nameHere_4 : decode cX8_nameHere 4 = .ok (.ifCond .eq 41, 3) := by decide +kernel
theorem dX8_nameHere_7 : decode cX8_nameHere 7 = .ok (.aload_n 0, 1) := by decide +kernel
theorem dX8_nameHere_8 : decode cX8_nameHere 8 = .ok (.getfield 119, 3) := by decide +kernel
theorem dX8_nameHere_11 : decode cX8_nameHere 11 = .ok (.iconst 1, 1) := by decide +kernel
theorem dX8_nameHere_12 : decode cX8_nameHere 12 = .ok (.if_icmp .ne 24, 3) := by decide +kernel
theorem dX8_nameHere_15 : decode cX8_nameHere 15 = .ok (.aload_n 0, 1) := by decide +kernel
theorem dX8_nameHere_16 : decode cX8_nameHere 16 = .ok (.getfield 110, 3) := by decide +kernel
theorem dX8_nameHere_19 : decode cX8_nameHere 19 = .ok (.aload_n 0, 1) := by decide +kernel
theorem dX8_nameHere_20 : decode cX8_nameHere 20 = .ok (.getfield 116, 3) := by decide +kernel
theorem dX8_nameHere_23 : decode cX8_nameHere 23 = .ok (.isub, 1) := by decide +kernel
theorem dX8_nameHere_24 : decode cX8_nameHere 24 = .ok (.bipush 6, 2) := by decide +kernel
theorem dX8_nameHere_26 : decode cX8_nameHere 26 = .ok (.if_icmp .gt 10, 3) := by decide +kernel
theorem dX8_nameHere_29 : decode cX8_nameHere 29 = .ok (.aload_n 0, 1) := by decide +kernel
theorem dX8_nameHere_30 : decode cX8_nameHere 30 = .ok (.invokevirtual 201, 3) := by decide +kernel
theorem dX8_nameHere_33 : decode cX8_nameHere 33 = .ok (.ifCond .eq 12, 3) := by decide +kernel
theorem dX8_nameHere_36 : decode cX8_nameHere 36 = .ok (.aload_n 0, 1) := by decide +kernel
theorem dX8_nameHere_37 : decode cX8_nameHere 37 = .ok (.iconst 1, 1) := by decide +kernel
theorem dX8_nameHere_38 : decode cX8_nameHere 38 = .ok (.aload_n 0, 1) := by decide +kernel
theorem dX8_nameHere_39 : decode cX8_nameHere 39 = .ok (.getfield 116, 3) := by decide +kernel
theorem dX8_nameHere_42 : decode cX8_nameHere 42 = .ok (.invokevirtual 157, 3) := by decide +kernel
theorem dX8_nameHere_45 : decode cX8_nameHere 45 = .ok (.aload_n 0, 1) := by decide +kernel
theorem dX8_nameHere_46 : decode cX8_nameHere 46 = .ok (.invokevirtual 104, 3) := by decide +kernel
theorem dX8_nameHere_49 : decode cX8_nameHere 49 = .ok (.ifCond .eq 18, 3) := by decide +kernel
theorem dX8_nameHere_52 : decode cX8_nameHere 52 = .ok (.aload_n 0, 1) := by decide +kernel
theorem dX8_nameHere_53 : decode cX8_nameHere 53 = .ok (.aload_n 0, 1) := by decide +kernel
theorem dX8_nameHere_54 : decode cX8_nameHere 54 = .ok (.getfield 116, 3) := by decide +kernel
theorem dX8_nameHere_57 : decode cX8_nameHere 57 = .ok (.aload_n 0, 1) := by decide +kernel
theorem dX8_nameHere_58 : decode cX8_nameHere 58 = .ok (.getfield 110, 3) := by decide +kernel
theorem dX8_nameHere_61 : decode cX8_nameHere 61 = .ok (.invokevirtual 204, 3) := by decide +kernel
theorem dX8_nameHere_64 : decode cX8_nameHere 64 = .ok (.goto 4, 3) := by decide +kernel
theorem dX8_nameHere_67 : decode cX8_nameHere 67 = .ok (.iconst 0, 1) := by decide +kernel
theorem dX8_nameHere_68 : decode cX8_nameHere 68 = .ok (.ireturn, 1) := by decide +kernel
theorem dX8_findName_0 : decode cX8_findName 0 = .ok (.iconst 0, 1) := by decide +kernel
theorem dX8_findName_1 : decode cX8_findName 1 = .ok (.istore_n 2, 1) := by decide +kernel
theorem dX8_findName_2 : decode cX8_findName 2 = .ok (.iload_n 2, 1) := by decide +kernel
theorem dX8_findName_3 : decode cX8_findName 3 = .ok (.aload_n 0, 1) := by decide +kernel
theorem dX8_findName_4 : decode cX8_findName 4 = .ok (.getfield 16, 3) := by decide +kernel
theorem dX8_findName_7 : decode cX8_findName 7 = .ok (.iconst 1, 1) := by decide +kernel
theorem dX8_findName_8 : decode cX8_findName 8 = .ok (.iaload, 1) := by decide +kernel
theorem dX8_findName_9 : decode cX8_findName 9 = .ok (.if_icmp .ge 24, 3) := by decide +kernel
theorem dX8_findName_12 : decode cX8_findName 12 = .ok (.aload_n 0, 1) := by decide +kernel
theorem dX8_findName_13 : decode cX8_findName 13 = .ok (.getfield 16, 3) := by decide +kernel
theorem dX8_findName_16 : decode cX8_findName 16 = .ok (.bipush 54, 2) := by decide +kernel
theorem dX8_findName_18 : decode cX8_findName 18 = .ok (.iload_n 2, 1) := by decide +kernel
theorem dX8_findName_19 : decode cX8_findName 19 = .ok (.iadd, 1) := by decide +kernel
theorem dX8_findName_20 : decode cX8_findName 20 = .ok (.iaload, 1) := by decide +kernel
theorem dX8_findName_21 : decode cX8_findName 21 = .ok (.iload_n 1, 1) := by decide +kernel
theorem dX8_findName_22 : decode cX8_findName 22 = .ok (.if_icmp .ne 5, 3) := by decide +kernel
theorem dX8_findName_25 : decode cX8_findName 25 = .ok (.iload_n 2, 1) := by decide +kernel
theorem dX8_findName_26 : decode cX8_findName 26 = .ok (.ireturn, 1) := by decide +kernel
theorem dX8_findName_27 : decode cX8_findName 27 = .ok (.iinc 2 1, 3) := by decide +kernel
theorem dX8_findName_30 : decode cX8_findName 30 = .ok (.goto (-28), 3) := by decide +kernel
theorem dX8_findName_33 : decode cX8_findName 33 = .ok (.iconst (-1), 1) := by decide +kernel
theorem dX8_findName_34 : decode cX8_findName 34 = .ok (.ireturn, 1) := by decide +kernel
theorem dX8_readLimit_0 : decode cX8_readLimit 0 = .ok (.aload_n 0, 1) := by decide +kernel
theorem dX8_readLimit_1 : decode cX8_readLimit 1 = .ok (.getfield 207, 3) := by decide +kernel
theorem dX8_readLimit_4 : decode cX8_readLimit 4 = .ok (.ifCond .eq 12, 3) := by decide +kernel
theorem dX8_readLimit_7 : decode cX8_readLimit 7 = .ok (.aload_n 0, 1) := by decide +kernel
theorem dX8_readLimit_8 : decode cX8_readLimit 8 = .ok (.iconst 5, 1) := by decide +kernel
theorem dX8_readLimit_9 : decode cX8_readLimit 9 = .ok (.aload_n 0, 1) := by decide +kernel
theorem dX8_readLimit_10 : decode cX8_readLimit 10 = .ok (.getfield 116, 3) := by decide +kernel
theorem dX8_readLimit_13 : decode cX8_readLimit 13 = .ok (.invokevirtual 157, 3) := by decide +kernel
theorem dX8_readLimit_16 : decode cX8_readLimit 16 = .ok (.aload_n 0, 1) := by decide +kernel
theorem dX8_readLimit_17 : decode cX8_readLimit 17 = .ok (.ldc 187, 2) := by decide +kernel
theorem dX8_readLimit_19 : decode cX8_readLimit 19 = .ok (.invokevirtual 211, 3) := by decide +kernel
theorem dX8_readLimit_22 : decode cX8_readLimit 22 = .ok (.aload_n 0, 1) := by decide +kernel
theorem dX8_readLimit_23 : decode cX8_readLimit 23 = .ok (.invokevirtual 104, 3) := by decide +kernel
theorem dX8_readLimit_26 : decode cX8_readLimit 26 = .ok (.ifCond .eq 49, 3) := by decide +kernel
theorem dX8_readLimit_29 : decode cX8_readLimit 29 = .ok (.aload_n 0, 1) := by decide +kernel
theorem dX8_readLimit_30 : decode cX8_readLimit 30 = .ok (.getfield 119, 3) := by decide +kernel
theorem dX8_readLimit_33 : decode cX8_readLimit 33 = .ok (.iconst 2, 1) := by decide +kernel
theorem dX8_readLimit_34 : decode cX8_readLimit 34 = .ok (.if_icmp .ne 41, 3) := by decide +kernel
theorem dX8_readLimit_37 : decode cX8_readLimit 37 = .ok (.aload_n 0, 1) := by decide +kernel
theorem dX8_readLimit_38 : decode cX8_readLimit 38 = .ok (.getfield 130, 3) := by decide +kernel
theorem dX8_readLimit_41 : decode cX8_readLimit 41 = .ok (.i2l, 1) := by decide +kernel
theorem dX8_readLimit_42 : decode cX8_readLimit 42 = .ok (.lconst 0, 1) := by decide +kernel
theorem dX8_readLimit_43 : decode cX8_readLimit 43 = .ok (.ldc2_w 55, 3) := by decide +kernel
theorem dX8_readLimit_46 : decode cX8_readLimit 46 = .ok (.invokestatic 45, 3) := by decide +kernel
theorem dX8_readLimit_49 : decode cX8_readLimit 49 = .ok (.ifCond .eq 26, 3) := by decide +kernel
theorem dX8_readLimit_52 : decode cX8_readLimit 52 = .ok (.aload_n 0, 1) := by decide +kernel
theorem dX8_readLimit_53 : decode cX8_readLimit 53 = .ok (.getfield 215, 3) := by decide +kernel
theorem dX8_readLimit_56 : decode cX8_readLimit 56 = .ok (.aload_n 0, 1) := by decide +kernel
theorem dX8_readLimit_57 : decode cX8_readLimit 57 = .ok (.getfield 130, 3) := by decide +kernel
theorem dX8_readLimit_60 : decode cX8_readLimit 60 = .ok (.invokestatic 75, 3) := by decide +kernel
theorem dX8_readLimit_63 : decode cX8_readLimit 63 = .ok (.ifCond .eq 12, 3) := by decide +kernel
theorem dX8_readLimit_66 : decode cX8_readLimit 66 = .ok (.aload_n 0, 1) := by decide +kernel
theorem dX8_readLimit_67 : decode cX8_readLimit 67 = .ok (.iconst 3, 1) := by decide +kernel
theorem dX8_readLimit_68 : decode cX8_readLimit 68 = .ok (.aload_n 0, 1) := by decide +kernel
theorem dX8_readLimit_69 : decode cX8_readLimit 69 = .ok (.getfield 116, 3) := by decide +kernel
theorem dX8_readLimit_72 : decode cX8_readLimit 72 = .ok (.invokevirtual 157, 3) := by decide +kernel
theorem dX8_readLimit_75 : decode cX8_readLimit 75 = .ok (.aload_n 0, 1) := by decide +kernel
theorem dX8_readLimit_76 : decode cX8_readLimit 76 = .ok (.iconst 0, 1) := by decide +kernel
theorem dX8_readLimit_77 : decode cX8_readLimit 77 = .ok (.bipush 23, 2) := by decide +kernel
theorem dX8_readLimit_79 : decode cX8_readLimit 79 = .ok (.invokevirtual 218, 3) := by decide +kernel
theorem dX8_readLimit_82 : decode cX8_readLimit 82 = .ok (.istore_n 1, 1) := by decide +kernel
theorem dX8_readLimit_83 : decode cX8_readLimit 83 = .ok (.aload_n 0, 1) := by decide +kernel
theorem dX8_readLimit_84 : decode cX8_readLimit 84 = .ok (.iconst 0, 1) := by decide +kernel
theorem dX8_readLimit_85 : decode cX8_readLimit 85 = .ok (.bipush 9, 2) := by decide +kernel
theorem dX8_readLimit_87 : decode cX8_readLimit 87 = .ok (.invokevirtual 218, 3) := by decide +kernel
theorem dX8_readLimit_90 : decode cX8_readLimit 90 = .ok (.istore_n 2, 1) := by decide +kernel
theorem dX8_readLimit_91 : decode cX8_readLimit 91 = .ok (.aload_n 0, 1) := by decide +kernel
theorem dX8_readLimit_92 : decode cX8_readLimit 92 = .ok (.ldc 195, 2) := by decide +kernel
theorem dX8_readLimit_94 : decode cX8_readLimit 94 = .ok (.invokevirtual 211, 3) := by decide +kernel
theorem dX8_readLimit_97 : decode cX8_readLimit 97 = .ok (.aload_n 0, 1) := by decide +kernel
theorem dX8_readLimit_98 : decode cX8_readLimit 98 = .ok (.iconst 0, 1) := by decide +kernel
theorem dX8_readLimit_99 : decode cX8_readLimit 99 = .ok (.iload_n 2, 1) := by decide +kernel
theorem dX8_readLimit_100 : decode cX8_readLimit 100 = .ok (.invokevirtual 218, 3) := by decide +kernel
theorem dX8_readLimit_103 : decode cX8_readLimit 103 = .ok (.istore_n 3, 1) := by decide +kernel
theorem dX8_readLimit_104 : decode cX8_readLimit 104 = .ok (.aload_n 0, 1) := by decide +kernel
theorem dX8_readLimit_105 : decode cX8_readLimit 105 = .ok (.invokevirtual 104, 3) := by decide +kernel
theorem dX8_readLimit_108 : decode cX8_readLimit 108 = .ok (.ifCond .ne 4, 3) := by decide +kernel
theorem dX8_readLimit_111 : decode cX8_readLimit 111 = .ok (.return_, 1) := by decide +kernel
theorem dX8_readLimit_112 : decode cX8_readLimit 112 = .ok (.aload_n 0, 1) := by decide +kernel
theorem dX8_readLimit_113 : decode cX8_readLimit 113 = .ok (.dup, 1) := by decide +kernel
theorem dX8_readLimit_114 : decode cX8_readLimit 114 = .ok (.getfield 215, 3) := by decide +kernel
theorem dX8_readLimit_117 : decode cX8_readLimit 117 = .ok (.iconst 1, 1) := by decide +kernel
theorem dX8_readLimit_118 : decode cX8_readLimit 118 = .ok (.iload_n 1, 1) := by decide +kernel
theorem dX8_readLimit_119 : decode cX8_readLimit 119 = .ok (.ishl, 1) := by decide +kernel
theorem dX8_readLimit_120 : decode cX8_readLimit 120 = .ok (.ior, 1) := by decide +kernel
theorem dX8_readLimit_121 : decode cX8_readLimit 121 = .ok (.putfield 215, 3) := by decide +kernel
theorem dX8_readLimit_124 : decode cX8_readLimit 124 = .ok (.aload_n 0, 1) := by decide +kernel
theorem dX8_readLimit_125 : decode cX8_readLimit 125 = .ok (.getfield 16, 3) := by decide +kernel
theorem dX8_readLimit_128 : decode cX8_readLimit 128 = .ok (.bipush 6, 2) := by decide +kernel
theorem dX8_readLimit_130 : decode cX8_readLimit 130 = .ok (.iconst 2, 1) := by decide +kernel
theorem dX8_readLimit_131 : decode cX8_readLimit 131 = .ok (.iload_n 1, 1) := by decide +kernel
theorem dX8_readLimit_132 : decode cX8_readLimit 132 = .ok (.imul, 1) := by decide +kernel
theorem dX8_readLimit_133 : decode cX8_readLimit 133 = .ok (.iadd, 1) := by decide +kernel
theorem dX8_readLimit_134 : decode cX8_readLimit 134 = .ok (.iload_n 2, 1) := by decide +kernel
theorem dX8_readLimit_135 : decode cX8_readLimit 135 = .ok (.iastore, 1) := by decide +kernel
theorem dX8_readLimit_136 : decode cX8_readLimit 136 = .ok (.aload_n 0, 1) := by decide +kernel
theorem dX8_readLimit_137 : decode cX8_readLimit 137 = .ok (.getfield 16, 3) := by decide +kernel
theorem dX8_readLimit_140 : decode cX8_readLimit 140 = .ok (.bipush 6, 2) := by decide +kernel
theorem dX8_readLimit_142 : decode cX8_readLimit 142 = .ok (.iconst 2, 1) := by decide +kernel
theorem dX8_readLimit_143 : decode cX8_readLimit 143 = .ok (.iload_n 1, 1) := by decide +kernel
theorem dX8_readLimit_144 : decode cX8_readLimit 144 = .ok (.imul, 1) := by decide +kernel
theorem dX8_readLimit_145 : decode cX8_readLimit 145 = .ok (.iadd, 1) := by decide +kernel
theorem dX8_readLimit_146 : decode cX8_readLimit 146 = .ok (.iconst 1, 1) := by decide +kernel
theorem dX8_readLimit_147 : decode cX8_readLimit 147 = .ok (.iadd, 1) := by decide +kernel
theorem dX8_readLimit_148 : decode cX8_readLimit 148 = .ok (.iload_n 3, 1) := by decide +kernel
theorem dX8_readLimit_149 : decode cX8_readLimit 149 = .ok (.iastore, 1) := by decide +kernel
theorem dX8_readLimit_150 : decode cX8_readLimit 150 = .ok (.return_, 1) := by decide +kernel
theorem dX8_readCarrier_0 : decode cX8_readCarrier 0 = .ok (.aload_n 0, 1) := by decide +kernel
theorem dX8_readCarrier_1 : decode cX8_readCarrier 1 = .ok (.getfield 16, 3) := by decide +kernel
theorem dX8_readCarrier_4 : decode cX8_readCarrier 4 = .ok (.iconst 1, 1) := by decide +kernel
theorem dX8_readCarrier_5 : decode cX8_readCarrier 5 = .ok (.iaload, 1) := by decide +kernel
theorem dX8_readCarrier_6 : decode cX8_readCarrier 6 = .ok (.bipush 8, 2) := by decide +kernel
theorem dX8_readCarrier_8 : decode cX8_readCarrier 8 = .ok (.if_icmp .ne 12, 3) := by decide +kernel
theorem dX8_readCarrier_11 : decode cX8_readCarrier 11 = .ok (.aload_n 0, 1) := by decide +kernel
theorem dX8_readCarrier_12 : decode cX8_readCarrier 12 = .ok (.iconst 5, 1) := by decide +kernel
theorem dX8_readCarrier_13 : decode cX8_readCarrier 13 = .ok (.aload_n 0, 1) := by decide +kernel
theorem dX8_readCarrier_14 : decode cX8_readCarrier 14 = .ok (.getfield 116, 3) := by decide +kernel
theorem dX8_readCarrier_17 : decode cX8_readCarrier 17 = .ok (.invokevirtual 157, 3) := by decide +kernel
theorem dX8_readCarrier_20 : decode cX8_readCarrier 20 = .ok (.aload_n 0, 1) := by decide +kernel
theorem dX8_readCarrier_21 : decode cX8_readCarrier 21 = .ok (.ldc 189, 2) := by decide +kernel
theorem dX8_readCarrier_23 : decode cX8_readCarrier 23 = .ok (.invokevirtual 211, 3) := by decide +kernel
theorem dX8_readCarrier_26 : decode cX8_readCarrier 26 = .ok (.aload_n 0, 1) := by decide +kernel
theorem dX8_readCarrier_27 : decode cX8_readCarrier 27 = .ok (.invokevirtual 221, 3) := by decide +kernel
theorem dX8_readCarrier_30 : decode cX8_readCarrier 30 = .ok (.istore_n 1, 1) := by decide +kernel
theorem dX8_readCarrier_31 : decode cX8_readCarrier 31 = .ok (.aload_n 0, 1) := by decide +kernel
theorem dX8_readCarrier_32 : decode cX8_readCarrier 32 = .ok (.invokevirtual 104, 3) := by decide +kernel
theorem dX8_readCarrier_35 : decode cX8_readCarrier 35 = .ok (.ifCond .eq 21, 3) := by decide +kernel
theorem dX8_readCarrier_38 : decode cX8_readCarrier 38 = .ok (.aload_n 0, 1) := by decide +kernel
theorem dX8_readCarrier_39 : decode cX8_readCarrier 39 = .ok (.iload_n 1, 1) := by decide +kernel
theorem dX8_readCarrier_40 : decode cX8_readCarrier 40 = .ok (.invokevirtual 224, 3) := by decide +kernel
theorem dX8_readCarrier_43 : decode cX8_readCarrier 43 = .ok (.iconst (-1), 1) := by decide +kernel
theorem dX8_readCarrier_44 : decode cX8_readCarrier 44 = .ok (.if_icmp .eq 12, 3) := by decide +kernel
theorem dX8_readCarrier_47 : decode cX8_readCarrier 47 = .ok (.aload_n 0, 1) := by decide +kernel
theorem dX8_readCarrier_48 : decode cX8_readCarrier 48 = .ok (.iconst 3, 1) := by decide +kernel
theorem dX8_readCarrier_49 : decode cX8_readCarrier 49 = .ok (.aload_n 0, 1) := by decide +kernel
theorem dX8_readCarrier_50 : decode cX8_readCarrier 50 = .ok (.getfield 116, 3) := by decide +kernel
theorem dX8_readCarrier_53 : decode cX8_readCarrier 53 = .ok (.invokevirtual 157, 3) := by decide +kernel
theorem dX8_readCarrier_56 : decode cX8_readCarrier 56 = .ok (.aload_n 0, 1) := by decide +kernel
theorem dX8_readCarrier_57 : decode cX8_readCarrier 57 = .ok (.invokevirtual 104, 3) := by decide +kernel
theorem dX8_readCarrier_60 : decode cX8_readCarrier 60 = .ok (.ifCond .ne 4, 3) := by decide +kernel
theorem dX8_readCarrier_63 : decode cX8_readCarrier 63 = .ok (.return_, 1) := by decide +kernel
theorem dX8_readCarrier_64 : decode cX8_readCarrier 64 = .ok (.aload_n 0, 1) := by decide +kernel
theorem dX8_readCarrier_65 : decode cX8_readCarrier 65 = .ok (.getfield 16, 3) := by decide +kernel
theorem dX8_readCarrier_68 : decode cX8_readCarrier 68 = .ok (.bipush 54, 2) := by decide +kernel
theorem dX8_readCarrier_70 : decode cX8_readCarrier 70 = .ok (.aload_n 0, 1) := by decide +kernel
theorem dX8_readCarrier_71 : decode cX8_readCarrier 71 = .ok (.getfield 16, 3) := by decide +kernel
theorem dX8_readCarrier_74 : decode cX8_readCarrier 74 = .ok (.iconst 1, 1) := by decide +kernel
theorem dX8_readCarrier_75 : decode cX8_readCarrier 75 = .ok (.iaload, 1) := by decide +kernel
theorem dX8_readCarrier_76 : decode cX8_readCarrier 76 = .ok (.iadd, 1) := by decide +kernel
theorem dX8_readCarrier_77 : decode cX8_readCarrier 77 = .ok (.iload_n 1, 1) := by decide +kernel
theorem dX8_readCarrier_78 : decode cX8_readCarrier 78 = .ok (.iastore, 1) := by decide +kernel
theorem dX8_readCarrier_79 : decode cX8_readCarrier 79 = .ok (.aload_n 0, 1) := by decide +kernel
theorem dX8_readCarrier_80 : decode cX8_readCarrier 80 = .ok (.getfield 16, 3) := by decide +kernel
theorem dX8_readCarrier_83 : decode cX8_readCarrier 83 = .ok (.iconst 1, 1) := by decide +kernel
theorem dX8_readCarrier_84 : decode cX8_readCarrier 84 = .ok (.dup2, 1) := by decide +kernel
theorem dX8_readCarrier_85 : decode cX8_readCarrier 85 = .ok (.iaload, 1) := by decide +kernel
theorem dX8_readCarrier_86 : decode cX8_readCarrier 86 = .ok (.iconst 1, 1) := by decide +kernel
theorem dX8_readCarrier_87 : decode cX8_readCarrier 87 = .ok (.iadd, 1) := by decide +kernel
theorem dX8_readCarrier_88 : decode cX8_readCarrier 88 = .ok (.iastore, 1) := by decide +kernel
theorem dX8_readCarrier_89 : decode cX8_readCarrier 89 = .ok (.aload_n 0, 1) := by decide +kernel
theorem dX8_readCarrier_90 : decode cX8_readCarrier 90 = .ok (.invokevirtual 151, 3) := by decide +kernel
theorem dX8_readCarrier_93 : decode cX8_readCarrier 93 = .ok (.return_, 1) := by decide +kernel
theorem dX8_readCommon_0 : decode cX8_readCommon 0 = .ok (.aload_n 0, 1) := by decide +kernel
theorem dX8_readCommon_1 : decode cX8_readCommon 1 = .ok (.aload_n 0, 1) := by decide +kernel
theorem dX8_readCommon_2 : decode cX8_readCommon 2 = .ok (.invokevirtual 221, 3) := by decide +kernel
theorem dX8_readCommon_5 : decode cX8_readCommon 5 = .ok (.invokevirtual 224, 3) := by decide +kernel
theorem dX8_readCommon_8 : decode cX8_readCommon 8 = .ok (.istore_n 1, 1) := by decide +kernel
theorem dX8_readCommon_9 : decode cX8_readCommon 9 = .ok (.aload_n 0, 1) := by decide +kernel
theorem dX8_readCommon_10 : decode cX8_readCommon 10 = .ok (.invokevirtual 104, 3) := by decide +kernel
theorem dX8_readCommon_13 : decode cX8_readCommon 13 = .ok (.ifCond .eq 17, 3) := by decide +kernel
theorem dX8_readCommon_16 : decode cX8_readCommon 16 = .ok (.iload_n 1, 1) := by decide +kernel
theorem dX8_readCommon_17 : decode cX8_readCommon 17 = .ok (.iconst (-1), 1) := by decide +kernel
theorem dX8_readCommon_18 : decode cX8_readCommon 18 = .ok (.if_icmp .ne 12, 3) := by decide +kernel
theorem dX8_readCommon_21 : decode cX8_readCommon 21 = .ok (.aload_n 0, 1) := by decide +kernel
theorem dX8_readCommon_22 : decode cX8_readCommon 22 = .ok (.iconst 4, 1) := by decide +kernel
theorem dX8_readCommon_23 : decode cX8_readCommon 23 = .ok (.aload_n 0, 1) := by decide +kernel
theorem dX8_readCommon_24 : decode cX8_readCommon 24 = .ok (.getfield 116, 3) := by decide +kernel
theorem dX8_readCommon_27 : decode cX8_readCommon 27 = .ok (.invokevirtual 157, 3) := by decide +kernel
theorem dX8_readCommon_30 : decode cX8_readCommon 30 = .ok (.aload_n 0, 1) := by decide +kernel
theorem dX8_readCommon_31 : decode cX8_readCommon 31 = .ok (.invokevirtual 104, 3) := by decide +kernel
theorem dX8_readCommon_34 : decode cX8_readCommon 34 = .ok (.ifCond .eq 7, 3) := by decide +kernel
theorem dX8_readCommon_37 : decode cX8_readCommon 37 = .ok (.aload_n 0, 1) := by decide +kernel
theorem dX8_readCommon_38 : decode cX8_readCommon 38 = .ok (.invokevirtual 151, 3) := by decide +kernel
theorem dX8_readCommon_41 : decode cX8_readCommon 41 = .ok (.aload_n 0, 1) := by decide +kernel
theorem dX8_readCommon_42 : decode cX8_readCommon 42 = .ok (.invokevirtual 182, 3) := by decide +kernel
theorem dX8_readCommon_45 : decode cX8_readCommon 45 = .ok (.istore_n 2, 1) := by decide +kernel
theorem dX8_readCommon_46 : decode cX8_readCommon 46 = .ok (.iload_n 2, 1) := by decide +kernel
theorem dX8_readCommon_47 : decode cX8_readCommon 47 = .ok (.iconst (-1), 1) := by decide +kernel
theorem dX8_readCommon_48 : decode cX8_readCommon 48 = .ok (.if_icmp .ne 12, 3) := by decide +kernel
theorem dX8_readCommon_51 : decode cX8_readCommon 51 = .ok (.aload_n 0, 1) := by decide +kernel
theorem dX8_readCommon_52 : decode cX8_readCommon 52 = .ok (.iconst 1, 1) := by decide +kernel
theorem dX8_readCommon_53 : decode cX8_readCommon 53 = .ok (.aload_n 0, 1) := by decide +kernel
theorem dX8_readCommon_54 : decode cX8_readCommon 54 = .ok (.getfield 116, 3) := by decide +kernel
theorem dX8_readCommon_57 : decode cX8_readCommon 57 = .ok (.invokevirtual 157, 3) := by decide +kernel
theorem dX8_readCommon_60 : decode cX8_readCommon 60 = .ok (.aload_n 0, 1) := by decide +kernel
theorem dX8_readCommon_61 : decode cX8_readCommon 61 = .ok (.invokevirtual 104, 3) := by decide +kernel
theorem dX8_readCommon_64 : decode cX8_readCommon 64 = .ok (.ifCond .eq 7, 3) := by decide +kernel
theorem dX8_readCommon_67 : decode cX8_readCommon 67 = .ok (.aload_n 0, 1) := by decide +kernel
theorem dX8_readCommon_68 : decode cX8_readCommon 68 = .ok (.invokevirtual 151, 3) := by decide +kernel
theorem dX8_readCommon_71 : decode cX8_readCommon 71 = .ok (.aload_n 0, 1) := by decide +kernel
theorem dX8_readCommon_72 : decode cX8_readCommon 72 = .ok (.getfield 27, 3) := by decide +kernel
theorem dX8_readCommon_75 : decode cX8_readCommon 75 = .ok (.iconst 0, 1) := by decide +kernel
theorem dX8_readCommon_76 : decode cX8_readCommon 76 = .ok (.iload_n 1, 1) := by decide +kernel
theorem dX8_readCommon_77 : decode cX8_readCommon 77 = .ok (.iastore, 1) := by decide +kernel
theorem dX8_readCommon_78 : decode cX8_readCommon 78 = .ok (.aload_n 0, 1) := by decide +kernel
theorem dX8_readCommon_79 : decode cX8_readCommon 79 = .ok (.getfield 27, 3) := by decide +kernel
theorem dX8_readCommon_82 : decode cX8_readCommon 82 = .ok (.iconst 1, 1) := by decide +kernel
theorem dX8_readCommon_83 : decode cX8_readCommon 83 = .ok (.iload_n 2, 1) := by decide +kernel
theorem dX8_readCommon_84 : decode cX8_readCommon 84 = .ok (.iastore, 1) := by decide +kernel
theorem dX8_readCommon_85 : decode cX8_readCommon 85 = .ok (.aload_n 0, 1) := by decide +kernel
theorem dX8_readCommon_86 : decode cX8_readCommon 86 = .ok (.getfield 27, 3) := by decide +kernel
theorem dX8_readCommon_89 : decode cX8_readCommon 89 = .ok (.iconst 2, 1) := by decide +kernel
theorem dX8_readCommon_90 : decode cX8_readCommon 90 = .ok (.aload_n 0, 1) := by decide +kernel
theorem dX8_readCommon_91 : decode cX8_readCommon 91 = .ok (.iconst 0, 1) := by decide +kernel
theorem dX8_readCommon_92 : decode cX8_readCommon 92 = .ok (.bipush 23, 2) := by decide +kernel
theorem dX8_readCommon_94 : decode cX8_readCommon 94 = .ok (.invokevirtual 218, 3) := by decide +kernel
theorem dX8_readCommon_97 : decode cX8_readCommon 97 = .ok (.iastore, 1) := by decide +kernel
theorem dX8_readCommon_98 : decode cX8_readCommon 98 = .ok (.aload_n 0, 1) := by decide +kernel
theorem dX8_readCommon_99 : decode cX8_readCommon 99 = .ok (.invokevirtual 104, 3) := by decide +kernel
theorem dX8_readCommon_102 : decode cX8_readCommon 102 = .ok (.ifCond .eq 30, 3) := by decide +kernel
theorem dX8_readCommon_105 : decode cX8_readCommon 105 = .ok (.aload_n 0, 1) := by decide +kernel
theorem dX8_readCommon_106 : decode cX8_readCommon 106 = .ok (.ldc 195, 2) := by decide +kernel
theorem dX8_readCommon_108 : decode cX8_readCommon 108 = .ok (.invokevirtual 147, 3) := by decide +kernel
theorem dX8_readCommon_111 : decode cX8_readCommon 111 = .ok (.ifCond .ne 21, 3) := by decide +kernel
theorem dX8_readCommon_114 : decode cX8_readCommon 114 = .ok (.aload_n 0, 1) := by decide +kernel
theorem dX8_readCommon_115 : decode cX8_readCommon 115 = .ok (.ldc 196, 2) := by decide +kernel
theorem dX8_readCommon_117 : decode cX8_readCommon 117 = .ok (.invokevirtual 147, 3) := by decide +kernel
theorem dX8_readCommon_120 : decode cX8_readCommon 120 = .ok (.ifCond .ne 12, 3) := by decide +kernel
theorem dX8_readCommon_123 : decode cX8_readCommon 123 = .ok (.aload_n 0, 1) := by decide +kernel
theorem dX8_readCommon_124 : decode cX8_readCommon 124 = .ok (.iconst 1, 1) := by decide +kernel
theorem dX8_readCommon_125 : decode cX8_readCommon 125 = .ok (.aload_n 0, 1) := by decide +kernel
theorem dX8_readCommon_126 : decode cX8_readCommon 126 = .ok (.getfield 116, 3) := by decide +kernel
theorem dX8_readCommon_129 : decode cX8_readCommon 129 = .ok (.invokevirtual 157, 3) := by decide +kernel
theorem dX8_readCommon_132 : decode cX8_readCommon 132 = .ok (.aload_n 0, 1) := by decide +kernel
theorem dX8_readCommon_133 : decode cX8_readCommon 133 = .ok (.getfield 27, 3) := by decide +kernel
theorem dX8_readCommon_136 : decode cX8_readCommon 136 = .ok (.iconst 3, 1) := by decide +kernel
theorem dX8_readCommon_137 : decode cX8_readCommon 137 = .ok (.aload_n 0, 1) := by decide +kernel
theorem dX8_readCommon_138 : decode cX8_readCommon 138 = .ok (.ldc 196, 2) := by decide +kernel
theorem dX8_readCommon_140 : decode cX8_readCommon 140 = .ok (.invokevirtual 147, 3) := by decide +kernel
theorem dX8_readCommon_143 : decode cX8_readCommon 143 = .ok (.ifCond .eq 7, 3) := by decide +kernel
theorem dX8_readCommon_146 : decode cX8_readCommon 146 = .ok (.iconst 1, 1) := by decide +kernel
theorem dX8_readCommon_147 : decode cX8_readCommon 147 = .ok (.goto 4, 3) := by decide +kernel
theorem dX8_readCommon_150 : decode cX8_readCommon 150 = .ok (.iconst 0, 1) := by decide +kernel
theorem dX8_readCommon_151 : decode cX8_readCommon 151 = .ok (.iastore, 1) := by decide +kernel
theorem dX8_readCommon_152 : decode cX8_readCommon 152 = .ok (.aload_n 0, 1) := by decide +kernel
theorem dX8_readCommon_153 : decode cX8_readCommon 153 = .ok (.invokevirtual 104, 3) := by decide +kernel
theorem dX8_readCommon_156 : decode cX8_readCommon 156 = .ok (.ifCond .eq 7, 3) := by decide +kernel
theorem dX8_readCommon_159 : decode cX8_readCommon 159 = .ok (.aload_n 0, 1) := by decide +kernel
theorem dX8_readCommon_160 : decode cX8_readCommon 160 = .ok (.invokevirtual 151, 3) := by decide +kernel
theorem dX8_readCommon_163 : decode cX8_readCommon 163 = .ok (.aload_n 0, 1) := by decide +kernel
theorem dX8_readCommon_164 : decode cX8_readCommon 164 = .ok (.getfield 27, 3) := by decide +kernel
theorem dX8_readCommon_167 : decode cX8_readCommon 167 = .ok (.iconst 4, 1) := by decide +kernel
theorem dX8_readCommon_168 : decode cX8_readCommon 168 = .ok (.aload_n 0, 1) := by decide +kernel
theorem dX8_readCommon_169 : decode cX8_readCommon 169 = .ok (.iconst 0, 1) := by decide +kernel
theorem dX8_readCommon_170 : decode cX8_readCommon 170 = .ok (.aload_n 0, 1) := by decide +kernel
theorem dX8_readCommon_171 : decode cX8_readCommon 171 = .ok (.getfield 16, 3) := by decide +kernel
theorem dX8_readCommon_174 : decode cX8_readCommon 174 = .ok (.iconst 0, 1) := by decide +kernel
theorem dX8_readCommon_175 : decode cX8_readCommon 175 = .ok (.iaload, 1) := by decide +kernel
theorem dX8_readCommon_176 : decode cX8_readCommon 176 = .ok (.iconst 1, 1) := by decide +kernel
theorem dX8_readCommon_177 : decode cX8_readCommon 177 = .ok (.isub, 1) := by decide +kernel
theorem dX8_readCommon_178 : decode cX8_readCommon 178 = .ok (.invokevirtual 218, 3) := by decide +kernel
theorem dX8_readCommon_181 : decode cX8_readCommon 181 = .ok (.iastore, 1) := by decide +kernel
theorem dX8_readCommon_182 : decode cX8_readCommon 182 = .ok (.aload_n 0, 1) := by decide +kernel
theorem dX8_readCommon_183 : decode cX8_readCommon 183 = .ok (.bipush 45, 2) := by decide +kernel
theorem dX8_readCommon_185 : decode cX8_readCommon 185 = .ok (.invokevirtual 227, 3) := by decide +kernel
theorem dX8_readCommon_188 : decode cX8_readCommon 188 = .ok (.aload_n 0, 1) := by decide +kernel
theorem dX8_readCommon_189 : decode cX8_readCommon 189 = .ok (.getfield 27, 3) := by decide +kernel
theorem dX8_readCommon_192 : decode cX8_readCommon 192 = .ok (.iconst 5, 1) := by decide +kernel
theorem dX8_readCommon_193 : decode cX8_readCommon 193 = .ok (.aload_n 0, 1) := by decide +kernel
theorem dX8_readCommon_194 : decode cX8_readCommon 194 = .ok (.aload_n 0, 1) := by decide +kernel
theorem dX8_readCommon_195 : decode cX8_readCommon 195 = .ok (.getfield 27, 3) := by decide +kernel
theorem dX8_readCommon_198 : decode cX8_readCommon 198 = .ok (.iconst 4, 1) := by decide +kernel
theorem dX8_readCommon_199 : decode cX8_readCommon 199 = .ok (.iaload, 1) := by decide +kernel
theorem dX8_readCommon_200 : decode cX8_readCommon 200 = .ok (.iconst 4, 1) := by decide +kernel
theorem dX8_readCommon_201 : decode cX8_readCommon 201 = .ok (.iadd, 1) := by decide +kernel
theorem dX8_readCommon_202 : decode cX8_readCommon 202 = .ok (.aload_n 0, 1) := by decide +kernel
theorem dX8_readCommon_203 : decode cX8_readCommon 203 = .ok (.getfield 16, 3) := by decide +kernel
theorem dX8_readCommon_206 : decode cX8_readCommon 206 = .ok (.iconst 0, 1) := by decide +kernel
theorem dX8_readCommon_207 : decode cX8_readCommon 207 = .ok (.iaload, 1) := by decide +kernel
theorem dX8_readCommon_208 : decode cX8_readCommon 208 = .ok (.iconst 1, 1) := by decide +kernel
theorem dX8_readCommon_209 : decode cX8_readCommon 209 = .ok (.isub, 1) := by decide +kernel
theorem dX8_readCommon_210 : decode cX8_readCommon 210 = .ok (.invokevirtual 218, 3) := by decide +kernel
theorem dX8_readCommon_213 : decode cX8_readCommon 213 = .ok (.iastore, 1) := by decide +kernel
theorem dX8_readCommon_214 : decode cX8_readCommon 214 = .ok (.return_, 1) := by decide +kernel
theorem dX8_addsSeries_0 : decode cX8_addsSeries 0 = .ok (.aload_n 0, 1) := by decide +kernel
theorem dX8_addsSeries_1 : decode cX8_addsSeries 1 = .ok (.getfield 16, 3) := by decide +kernel
theorem dX8_addsSeries_4 : decode cX8_addsSeries 4 = .ok (.iconst 2, 1) := by decide +kernel
theorem dX8_addsSeries_5 : decode cX8_addsSeries 5 = .ok (.iaload, 1) := by decide +kernel
theorem dX8_addsSeries_6 : decode cX8_addsSeries 6 = .ok (.istore 5, 2) := by decide +kernel
theorem dX8_addsSeries_8 : decode cX8_addsSeries 8 = .ok (.iconst 0, 1) := by decide +kernel
theorem dX8_addsSeries_9 : decode cX8_addsSeries 9 = .ok (.istore 6, 2) := by decide +kernel
theorem dX8_addsSeries_11 : decode cX8_addsSeries 11 = .ok (.iload 6, 2) := by decide +kernel
theorem dX8_addsSeries_13 : decode cX8_addsSeries 13 = .ok (.bipush 12, 2) := by decide +kernel
theorem dX8_addsSeries_15 : decode cX8_addsSeries 15 = .ok (.if_icmp .ge 18, 3) := by decide +kernel
theorem dX8_addsSeries_18 : decode cX8_addsSeries 18 = .ok (.aload_n 0, 1) := by decide +kernel
theorem dX8_addsSeries_19 : decode cX8_addsSeries 19 = .ok (.iload 5, 2) := by decide +kernel
theorem dX8_addsSeries_21 : decode cX8_addsSeries 21 = .ok (.iload 6, 2) := by decide +kernel
theorem dX8_addsSeries_23 : decode cX8_addsSeries 23 = .ok (.iconst 0, 1) := by decide +kernel
theorem dX8_addsSeries_24 : decode cX8_addsSeries 24 = .ok (.invokevirtual 230, 3) := by decide +kernel
theorem dX8_addsSeries_27 : decode cX8_addsSeries 27 = .ok (.iinc 6 1, 3) := by decide +kernel
theorem dX8_addsSeries_30 : decode cX8_addsSeries 30 = .ok (.goto (-19), 3) := by decide +kernel
theorem dX8_addsSeries_33 : decode cX8_addsSeries 33 = .ok (.aload_n 0, 1) := by decide +kernel
theorem dX8_addsSeries_34 : decode cX8_addsSeries 34 = .ok (.iload 5, 2) := by decide +kernel
theorem dX8_addsSeries_36 : decode cX8_addsSeries 36 = .ok (.iconst 0, 1) := by decide +kernel
theorem dX8_addsSeries_37 : decode cX8_addsSeries 37 = .ok (.aload_n 0, 1) := by decide +kernel
theorem dX8_addsSeries_38 : decode cX8_addsSeries 38 = .ok (.getfield 27, 3) := by decide +kernel
theorem dX8_addsSeries_41 : decode cX8_addsSeries 41 = .ok (.iconst 0, 1) := by decide +kernel
theorem dX8_addsSeries_42 : decode cX8_addsSeries 42 = .ok (.iaload, 1) := by decide +kernel
theorem dX8_addsSeries_43 : decode cX8_addsSeries 43 = .ok (.invokevirtual 230, 3) := by decide +kernel
theorem dX8_addsSeries_46 : decode cX8_addsSeries 46 = .ok (.aload_n 0, 1) := by decide +kernel
theorem dX8_addsSeries_47 : decode cX8_addsSeries 47 = .ok (.iload 5, 2) := by decide +kernel
theorem dX8_addsSeries_49 : decode cX8_addsSeries 49 = .ok (.iconst 1, 1) := by decide +kernel
theorem dX8_addsSeries_50 : decode cX8_addsSeries 50 = .ok (.aload_n 0, 1) := by decide +kernel
theorem dX8_addsSeries_51 : decode cX8_addsSeries 51 = .ok (.getfield 27, 3) := by decide +kernel
theorem dX8_addsSeries_54 : decode cX8_addsSeries 54 = .ok (.iconst 1, 1) := by decide +kernel
theorem dX8_addsSeries_55 : decode cX8_addsSeries 55 = .ok (.iaload, 1) := by decide +kernel
theorem dX8_addsSeries_56 : decode cX8_addsSeries 56 = .ok (.invokevirtual 230, 3) := by decide +kernel
theorem dX8_addsSeries_59 : decode cX8_addsSeries 59 = .ok (.aload_n 0, 1) := by decide +kernel
theorem dX8_addsSeries_60 : decode cX8_addsSeries 60 = .ok (.iload 5, 2) := by decide +kernel
theorem dX8_addsSeries_62 : decode cX8_addsSeries 62 = .ok (.iconst 2, 1) := by decide +kernel
theorem dX8_addsSeries_63 : decode cX8_addsSeries 63 = .ok (.iload_n 1, 1) := by decide +kernel
theorem dX8_addsSeries_64 : decode cX8_addsSeries 64 = .ok (.invokevirtual 230, 3) := by decide +kernel
theorem dX8_addsSeries_67 : decode cX8_addsSeries 67 = .ok (.aload_n 0, 1) := by decide +kernel
theorem dX8_addsSeries_68 : decode cX8_addsSeries 68 = .ok (.iload 5, 2) := by decide +kernel
theorem dX8_addsSeries_70 : decode cX8_addsSeries 70 = .ok (.iconst 3, 1) := by decide +kernel
theorem dX8_addsSeries_71 : decode cX8_addsSeries 71 = .ok (.aload_n 0, 1) := by decide +kernel
theorem dX8_addsSeries_72 : decode cX8_addsSeries 72 = .ok (.getfield 27, 3) := by decide +kernel
theorem dX8_addsSeries_75 : decode cX8_addsSeries 75 = .ok (.iconst 3, 1) := by decide +kernel
theorem dX8_addsSeries_76 : decode cX8_addsSeries 76 = .ok (.iaload, 1) := by decide +kernel
theorem dX8_addsSeries_77 : decode cX8_addsSeries 77 = .ok (.invokevirtual 230, 3) := by decide +kernel
theorem dX8_addsSeries_80 : decode cX8_addsSeries 80 = .ok (.aload_n 0, 1) := by decide +kernel
theorem dX8_addsSeries_81 : decode cX8_addsSeries 81 = .ok (.iload 5, 2) := by decide +kernel
theorem dX8_addsSeries_83 : decode cX8_addsSeries 83 = .ok (.iconst 4, 1) := by decide +kernel
theorem dX8_addsSeries_84 : decode cX8_addsSeries 84 = .ok (.iload 4, 2) := by decide +kernel
theorem dX8_addsSeries_86 : decode cX8_addsSeries 86 = .ok (.ifCond .eq 7, 3) := by decide +kernel
theorem dX8_addsSeries_89 : decode cX8_addsSeries 89 = .ok (.iconst 1, 1) := by decide +kernel
theorem dX8_addsSeries_90 : decode cX8_addsSeries 90 = .ok (.goto 4, 3) := by decide +kernel
theorem dX8_addsSeries_93 : decode cX8_addsSeries 93 = .ok (.iconst 0, 1) := by decide +kernel
theorem dX8_addsSeries_94 : decode cX8_addsSeries 94 = .ok (.invokevirtual 230, 3) := by decide +kernel
theorem dX8_addsSeries_97 : decode cX8_addsSeries 97 = .ok (.aload_n 0, 1) := by decide +kernel
theorem dX8_addsSeries_98 : decode cX8_addsSeries 98 = .ok (.iload 5, 2) := by decide +kernel
theorem dX8_addsSeries_100 : decode cX8_addsSeries 100 = .ok (.iconst 5, 1) := by decide +kernel
theorem dX8_addsSeries_101 : decode cX8_addsSeries 101 = .ok (.iload_n 3, 1) := by decide +kernel
theorem dX8_addsSeries_102 : decode cX8_addsSeries 102 = .ok (.invokevirtual 230, 3) := by decide +kernel
theorem dX8_addsSeries_105 : decode cX8_addsSeries 105 = .ok (.aload_n 0, 1) := by decide +kernel
theorem dX8_addsSeries_106 : decode cX8_addsSeries 106 = .ok (.iload 5, 2) := by decide +kernel
theorem dX8_addsSeries_108 : decode cX8_addsSeries 108 = .ok (.bipush 6, 2) := by decide +kernel
theorem dX8_addsSeries_110 : decode cX8_addsSeries 110 = .ok (.aload_n 0, 1) := by decide +kernel
theorem dX8_addsSeries_111 : decode cX8_addsSeries 111 = .ok (.getfield 27, 3) := by decide +kernel
theorem dX8_addsSeries_114 : decode cX8_addsSeries 114 = .ok (.iconst 5, 1) := by decide +kernel
theorem dX8_addsSeries_115 : decode cX8_addsSeries 115 = .ok (.iaload, 1) := by decide +kernel
theorem dX8_addsSeries_116 : decode cX8_addsSeries 116 = .ok (.invokevirtual 230, 3) := by decide +kernel
theorem dX8_addsSeries_119 : decode cX8_addsSeries 119 = .ok (.aload_n 0, 1) := by decide +kernel
theorem dX8_addsSeries_120 : decode cX8_addsSeries 120 = .ok (.iload 5, 2) := by decide +kernel
theorem dX8_addsSeries_122 : decode cX8_addsSeries 122 = .ok (.bipush 7, 2) := by decide +kernel
theorem dX8_addsSeries_124 : decode cX8_addsSeries 124 = .ok (.iload_n 2, 1) := by decide +kernel
theorem dX8_addsSeries_125 : decode cX8_addsSeries 125 = .ok (.invokevirtual 230, 3) := by decide +kernel
theorem dX8_addsSeries_128 : decode cX8_addsSeries 128 = .ok (.aload_n 0, 1) := by decide +kernel
theorem dX8_addsSeries_129 : decode cX8_addsSeries 129 = .ok (.getfield 16, 3) := by decide +kernel
theorem dX8_addsSeries_132 : decode cX8_addsSeries 132 = .ok (.iconst 2, 1) := by decide +kernel
theorem dX8_addsSeries_133 : decode cX8_addsSeries 133 = .ok (.dup2, 1) := by decide +kernel
theorem dX8_addsSeries_134 : decode cX8_addsSeries 134 = .ok (.iaload, 1) := by decide +kernel
theorem dX8_addsSeries_135 : decode cX8_addsSeries 135 = .ok (.iconst 1, 1) := by decide +kernel
theorem dX8_addsSeries_136 : decode cX8_addsSeries 136 = .ok (.iadd, 1) := by decide +kernel
theorem dX8_addsSeries_137 : decode cX8_addsSeries 137 = .ok (.iastore, 1) := by decide +kernel
theorem dX8_addsSeries_138 : decode cX8_addsSeries 138 = .ok (.return_, 1) := by decide +kernel
theorem dX8_readSeries_0 : decode cX8_readSeries 0 = .ok (.aload_n 0, 1) := by decide +kernel
theorem dX8_readSeries_1 : decode cX8_readSeries 1 = .ok (.getfield 16, 3) := by decide +kernel
theorem dX8_readSeries_4 : decode cX8_readSeries 4 = .ok (.iconst 2, 1) := by decide +kernel
theorem dX8_readSeries_5 : decode cX8_readSeries 5 = .ok (.iaload, 1) := by decide +kernel
theorem dX8_readSeries_6 : decode cX8_readSeries 6 = .ok (.bipush 24, 2) := by decide +kernel
theorem dX8_readSeries_8 : decode cX8_readSeries 8 = .ok (.if_icmp .ne 12, 3) := by decide +kernel
theorem dX8_readSeries_11 : decode cX8_readSeries 11 = .ok (.aload_n 0, 1) := by decide +kernel
theorem dX8_readSeries_12 : decode cX8_readSeries 12 = .ok (.iconst 5, 1) := by decide +kernel
theorem dX8_readSeries_13 : decode cX8_readSeries 13 = .ok (.aload_n 0, 1) := by decide +kernel
theorem dX8_readSeries_14 : decode cX8_readSeries 14 = .ok (.getfield 116, 3) := by decide +kernel
theorem dX8_readSeries_17 : decode cX8_readSeries 17 = .ok (.invokevirtual 157, 3) := by decide +kernel
theorem dX8_readSeries_20 : decode cX8_readSeries 20 = .ok (.aload_n 0, 1) := by decide +kernel
theorem dX8_readSeries_21 : decode cX8_readSeries 21 = .ok (.ldc 191, 2) := by decide +kernel
theorem dX8_readSeries_23 : decode cX8_readSeries 23 = .ok (.invokevirtual 211, 3) := by decide +kernel
theorem dX8_readSeries_26 : decode cX8_readSeries 26 = .ok (.aload_n 0, 1) := by decide +kernel
theorem dX8_readSeries_27 : decode cX8_readSeries 27 = .ok (.invokevirtual 234, 3) := by decide +kernel
theorem dX8_readSeries_30 : decode cX8_readSeries 30 = .ok (.aload_n 0, 1) := by decide +kernel
theorem dX8_readSeries_31 : decode cX8_readSeries 31 = .ok (.ldc 197, 2) := by decide +kernel
theorem dX8_readSeries_33 : decode cX8_readSeries 33 = .ok (.invokevirtual 154, 3) := by decide +kernel
theorem dX8_readSeries_36 : decode cX8_readSeries 36 = .ok (.istore_n 1, 1) := by decide +kernel
theorem dX8_readSeries_37 : decode cX8_readSeries 37 = .ok (.aload_n 0, 1) := by decide +kernel
theorem dX8_readSeries_38 : decode cX8_readSeries 38 = .ok (.invokevirtual 104, 3) := by decide +kernel
theorem dX8_readSeries_41 : decode cX8_readSeries 41 = .ok (.ifCond .eq 21, 3) := by decide +kernel
theorem dX8_readSeries_44 : decode cX8_readSeries 44 = .ok (.aload_n 0, 1) := by decide +kernel
theorem dX8_readSeries_45 : decode cX8_readSeries 45 = .ok (.bipush 59, 2) := by decide +kernel
theorem dX8_readSeries_47 : decode cX8_readSeries 47 = .ok (.invokevirtual 161, 3) := by decide +kernel
theorem dX8_readSeries_50 : decode cX8_readSeries 50 = .ok (.ifCond .ne 12, 3) := by decide +kernel
theorem dX8_readSeries_53 : decode cX8_readSeries 53 = .ok (.aload_n 0, 1) := by decide +kernel
theorem dX8_readSeries_54 : decode cX8_readSeries 54 = .ok (.iconst 1, 1) := by decide +kernel
theorem dX8_readSeries_55 : decode cX8_readSeries 55 = .ok (.aload_n 0, 1) := by decide +kernel
theorem dX8_readSeries_56 : decode cX8_readSeries 56 = .ok (.getfield 116, 3) := by decide +kernel
theorem dX8_readSeries_59 : decode cX8_readSeries 59 = .ok (.invokevirtual 157, 3) := by decide +kernel
theorem dX8_readSeries_62 : decode cX8_readSeries 62 = .ok (.aload_n 0, 1) := by decide +kernel
theorem dX8_readSeries_63 : decode cX8_readSeries 63 = .ok (.getfield 27, 3) := by decide +kernel
theorem dX8_readSeries_66 : decode cX8_readSeries 66 = .ok (.iconst 4, 1) := by decide +kernel
theorem dX8_readSeries_67 : decode cX8_readSeries 67 = .ok (.iaload, 1) := by decide +kernel
theorem dX8_readSeries_68 : decode cX8_readSeries 68 = .ok (.aload_n 0, 1) := by decide +kernel
theorem dX8_readSeries_69 : decode cX8_readSeries 69 = .ok (.getfield 27, 3) := by decide +kernel
theorem dX8_readSeries_72 : decode cX8_readSeries 72 = .ok (.iconst 5, 1) := by decide +kernel
theorem dX8_readSeries_73 : decode cX8_readSeries 73 = .ok (.iaload, 1) := by decide +kernel
theorem dX8_readSeries_74 : decode cX8_readSeries 74 = .ok (.invokestatic 79, 3) := by decide +kernel
theorem dX8_readSeries_77 : decode cX8_readSeries 77 = .ok (.istore_n 2, 1) := by decide +kernel
theorem dX8_readSeries_78 : decode cX8_readSeries 78 = .ok (.aload_n 0, 1) := by decide +kernel
theorem dX8_readSeries_79 : decode cX8_readSeries 79 = .ok (.invokevirtual 104, 3) := by decide +kernel
theorem dX8_readSeries_82 : decode cX8_readSeries 82 = .ok (.ifCond .eq 40, 3) := by decide +kernel
theorem dX8_readSeries_85 : decode cX8_readSeries 85 = .ok (.aload_n 0, 1) := by decide +kernel
theorem dX8_readSeries_86 : decode cX8_readSeries 86 = .ok (.iload_n 2, 1) := by decide +kernel
theorem dX8_readSeries_87 : decode cX8_readSeries 87 = .ok (.aload_n 0, 1) := by decide +kernel
theorem dX8_readSeries_88 : decode cX8_readSeries 88 = .ok (.getfield 27, 3) := by decide +kernel
theorem dX8_readSeries_91 : decode cX8_readSeries 91 = .ok (.iconst 1, 1) := by decide +kernel
theorem dX8_readSeries_92 : decode cX8_readSeries 92 = .ok (.iaload, 1) := by decide +kernel
theorem dX8_readSeries_93 : decode cX8_readSeries 93 = .ok (.aload_n 0, 1) := by decide +kernel
theorem dX8_readSeries_94 : decode cX8_readSeries 94 = .ok (.getfield 27, 3) := by decide +kernel
theorem dX8_readSeries_97 : decode cX8_readSeries 97 = .ok (.iconst 2, 1) := by decide +kernel
theorem dX8_readSeries_98 : decode cX8_readSeries 98 = .ok (.iaload, 1) := by decide +kernel
theorem dX8_readSeries_99 : decode cX8_readSeries 99 = .ok (.aload_n 0, 1) := by decide +kernel
theorem dX8_readSeries_100 : decode cX8_readSeries 100 = .ok (.getfield 27, 3) := by decide +kernel
theorem dX8_readSeries_103 : decode cX8_readSeries 103 = .ok (.iconst 3, 1) := by decide +kernel
theorem dX8_readSeries_104 : decode cX8_readSeries 104 = .ok (.iaload, 1) := by decide +kernel
theorem dX8_readSeries_105 : decode cX8_readSeries 105 = .ok (.iconst (-1), 1) := by decide +kernel
theorem dX8_readSeries_106 : decode cX8_readSeries 106 = .ok (.invokevirtual 90, 3) := by decide +kernel
theorem dX8_readSeries_109 : decode cX8_readSeries 109 = .ok (.ifCond .ne 13, 3) := by decide +kernel
theorem dX8_readSeries_112 : decode cX8_readSeries 112 = .ok (.aload_n 0, 1) := by decide +kernel
theorem dX8_readSeries_113 : decode cX8_readSeries 113 = .ok (.bipush 6, 2) := by decide +kernel
theorem dX8_readSeries_115 : decode cX8_readSeries 115 = .ok (.aload_n 0, 1) := by decide +kernel
theorem dX8_readSeries_116 : decode cX8_readSeries 116 = .ok (.getfield 116, 3) := by decide +kernel
theorem dX8_readSeries_119 : decode cX8_readSeries 119 = .ok (.invokevirtual 157, 3) := by decide +kernel
theorem dX8_readSeries_122 : decode cX8_readSeries 122 = .ok (.aload_n 0, 1) := by decide +kernel
theorem dX8_readSeries_123 : decode cX8_readSeries 123 = .ok (.invokevirtual 104, 3) := by decide +kernel
theorem dX8_readSeries_126 : decode cX8_readSeries 126 = .ok (.ifCond .ne 4, 3) := by decide +kernel
theorem dX8_readSeries_129 : decode cX8_readSeries 129 = .ok (.return_, 1) := by decide +kernel
theorem dX8_readSeries_130 : decode cX8_readSeries 130 = .ok (.aload_n 0, 1) := by decide +kernel
theorem dX8_readSeries_131 : decode cX8_readSeries 131 = .ok (.aload_n 0, 1) := by decide +kernel
theorem dX8_readSeries_132 : decode cX8_readSeries 132 = .ok (.getfield 27, 3) := by decide +kernel
theorem dX8_readSeries_135 : decode cX8_readSeries 135 = .ok (.iconst 2, 1) := by decide +kernel
theorem dX8_readSeries_136 : decode cX8_readSeries 136 = .ok (.iaload, 1) := by decide +kernel
theorem dX8_readSeries_137 : decode cX8_readSeries 137 = .ok (.iload_n 2, 1) := by decide +kernel
theorem dX8_readSeries_138 : decode cX8_readSeries 138 = .ok (.aload_n 0, 1) := by decide +kernel
theorem dX8_readSeries_139 : decode cX8_readSeries 139 = .ok (.getfield 27, 3) := by decide +kernel
theorem dX8_readSeries_142 : decode cX8_readSeries 142 = .ok (.iconst 4, 1) := by decide +kernel
theorem dX8_readSeries_143 : decode cX8_readSeries 143 = .ok (.iaload, 1) := by decide +kernel
theorem dX8_readSeries_144 : decode cX8_readSeries 144 = .ok (.iload_n 1, 1) := by decide +kernel
theorem dX8_readSeries_145 : decode cX8_readSeries 145 = .ok (.invokevirtual 237, 3) := by decide +kernel
theorem dX8_readSeries_148 : decode cX8_readSeries 148 = .ok (.aload_n 0, 1) := by decide +kernel
theorem dX8_readSeries_149 : decode cX8_readSeries 149 = .ok (.iconst 1, 1) := by decide +kernel
theorem dX8_readSeries_150 : decode cX8_readSeries 150 = .ok (.putfield 207, 3) := by decide +kernel
theorem dX8_readSeries_153 : decode cX8_readSeries 153 = .ok (.return_, 1) := by decide +kernel
theorem dX8_addsAsk_0 : decode cX8_addsAsk 0 = .ok (.iconst 0, 1) := by decide +kernel
theorem dX8_addsAsk_1 : decode cX8_addsAsk 1 = .ok (.istore_n 1, 1) := by decide +kernel
theorem dX8_addsAsk_2 : decode cX8_addsAsk 2 = .ok (.iload_n 1, 1) := by decide +kernel
theorem dX8_addsAsk_3 : decode cX8_addsAsk 3 = .ok (.bipush 7, 2) := by decide +kernel
theorem dX8_addsAsk_5 : decode cX8_addsAsk 5 = .ok (.if_icmp .ge 35, 3) := by decide +kernel
theorem dX8_addsAsk_8 : decode cX8_addsAsk 8 = .ok (.aload_n 0, 1) := by decide +kernel
theorem dX8_addsAsk_9 : decode cX8_addsAsk 9 = .ok (.getfield 16, 3) := by decide +kernel
theorem dX8_addsAsk_12 : decode cX8_addsAsk 12 = .ok (.sipush 350, 3) := by decide +kernel
theorem dX8_addsAsk_15 : decode cX8_addsAsk 15 = .ok (.bipush 7, 2) := by decide +kernel
theorem dX8_addsAsk_17 : decode cX8_addsAsk 17 = .ok (.aload_n 0, 1) := by decide +kernel
theorem dX8_addsAsk_18 : decode cX8_addsAsk 18 = .ok (.getfield 16, 3) := by decide +kernel
theorem dX8_addsAsk_21 : decode cX8_addsAsk 21 = .ok (.iconst 3, 1) := by decide +kernel
theorem dX8_addsAsk_22 : decode cX8_addsAsk 22 = .ok (.iaload, 1) := by decide +kernel
theorem dX8_addsAsk_23 : decode cX8_addsAsk 23 = .ok (.imul, 1) := by decide +kernel
theorem dX8_addsAsk_24 : decode cX8_addsAsk 24 = .ok (.iadd, 1) := by decide +kernel
theorem dX8_addsAsk_25 : decode cX8_addsAsk 25 = .ok (.iload_n 1, 1) := by decide +kernel
theorem dX8_addsAsk_26 : decode cX8_addsAsk 26 = .ok (.iadd, 1) := by decide +kernel
theorem dX8_addsAsk_27 : decode cX8_addsAsk 27 = .ok (.aload_n 0, 1) := by decide +kernel
theorem dX8_addsAsk_28 : decode cX8_addsAsk 28 = .ok (.getfield 27, 3) := by decide +kernel
theorem dX8_addsAsk_31 : decode cX8_addsAsk 31 = .ok (.iload_n 1, 1) := by decide +kernel
theorem dX8_addsAsk_32 : decode cX8_addsAsk 32 = .ok (.iaload, 1) := by decide +kernel
theorem dX8_addsAsk_33 : decode cX8_addsAsk 33 = .ok (.iastore, 1) := by decide +kernel
theorem dX8_addsAsk_34 : decode cX8_addsAsk 34 = .ok (.iinc 1 1, 3) := by decide +kernel
theorem dX8_addsAsk_37 : decode cX8_addsAsk 37 = .ok (.goto (-35), 3) := by decide +kernel
theorem dX8_addsAsk_40 : decode cX8_addsAsk 40 = .ok (.aload_n 0, 1) := by decide +kernel
theorem dX8_addsAsk_41 : decode cX8_addsAsk 41 = .ok (.getfield 16, 3) := by decide +kernel
theorem dX8_addsAsk_44 : decode cX8_addsAsk 44 = .ok (.iconst 3, 1) := by decide +kernel
theorem dX8_addsAsk_45 : decode cX8_addsAsk 45 = .ok (.dup2, 1) := by decide +kernel
theorem dX8_addsAsk_46 : decode cX8_addsAsk 46 = .ok (.iaload, 1) := by decide +kernel
theorem dX8_addsAsk_47 : decode cX8_addsAsk 47 = .ok (.iconst 1, 1) := by decide +kernel
theorem dX8_addsAsk_48 : decode cX8_addsAsk 48 = .ok (.iadd, 1) := by decide +kernel
theorem dX8_addsAsk_49 : decode cX8_addsAsk 49 = .ok (.iastore, 1) := by decide +kernel
theorem dX8_addsAsk_50 : decode cX8_addsAsk 50 = .ok (.return_, 1) := by decide +kernel
theorem dX8_readAsk_0 : decode cX8_readAsk 0 = .ok (.aload_n 0, 1) := by decide +kernel
theorem dX8_readAsk_1 : decode cX8_readAsk 1 = .ok (.getfield 16, 3) := by decide +kernel
theorem dX8_readAsk_4 : decode cX8_readAsk 4 = .ok (.iconst 3, 1) := by decide +kernel
theorem dX8_readAsk_5 : decode cX8_readAsk 5 = .ok (.iaload, 1) := by decide +kernel
theorem dX8_readAsk_6 : decode cX8_readAsk 6 = .ok (.bipush 24, 2) := by decide +kernel
theorem dX8_readAsk_8 : decode cX8_readAsk 8 = .ok (.if_icmp .ne 12, 3) := by decide +kernel
theorem dX8_readAsk_11 : decode cX8_readAsk 11 = .ok (.aload_n 0, 1) := by decide +kernel
theorem dX8_readAsk_12 : decode cX8_readAsk 12 = .ok (.iconst 5, 1) := by decide +kernel
theorem dX8_readAsk_13 : decode cX8_readAsk 13 = .ok (.aload_n 0, 1) := by decide +kernel
theorem dX8_readAsk_14 : decode cX8_readAsk 14 = .ok (.getfield 116, 3) := by decide +kernel
theorem dX8_readAsk_17 : decode cX8_readAsk 17 = .ok (.invokevirtual 157, 3) := by decide +kernel
theorem dX8_readAsk_20 : decode cX8_readAsk 20 = .ok (.aload_n 0, 1) := by decide +kernel
theorem dX8_readAsk_21 : decode cX8_readAsk 21 = .ok (.ldc 193, 2) := by decide +kernel
theorem dX8_readAsk_23 : decode cX8_readAsk 23 = .ok (.invokevirtual 211, 3) := by decide +kernel
theorem dX8_readAsk_26 : decode cX8_readAsk 26 = .ok (.aload_n 0, 1) := by decide +kernel
theorem dX8_readAsk_27 : decode cX8_readAsk 27 = .ok (.invokevirtual 234, 3) := by decide +kernel
theorem dX8_readAsk_30 : decode cX8_readAsk 30 = .ok (.aload_n 0, 1) := by decide +kernel
theorem dX8_readAsk_31 : decode cX8_readAsk 31 = .ok (.getfield 27, 3) := by decide +kernel
theorem dX8_readAsk_34 : decode cX8_readAsk 34 = .ok (.bipush 6, 2) := by decide +kernel
theorem dX8_readAsk_36 : decode cX8_readAsk 36 = .ok (.aload_n 0, 1) := by decide +kernel
theorem dX8_readAsk_37 : decode cX8_readAsk 37 = .ok (.ldc 199, 2) := by decide +kernel
theorem dX8_readAsk_39 : decode cX8_readAsk 39 = .ok (.invokevirtual 154, 3) := by decide +kernel
theorem dX8_readAsk_42 : decode cX8_readAsk 42 = .ok (.ifCond .eq 13, 3) := by decide +kernel
theorem dX8_readAsk_45 : decode cX8_readAsk 45 = .ok (.aload_n 0, 1) := by decide +kernel
theorem dX8_readAsk_46 : decode cX8_readAsk 46 = .ok (.iconst 0, 1) := by decide +kernel
theorem dX8_readAsk_47 : decode cX8_readAsk 47 = .ok (.bipush 9, 2) := by decide +kernel
theorem dX8_readAsk_49 : decode cX8_readAsk 49 = .ok (.invokevirtual 218, 3) := by decide +kernel
theorem dX8_readAsk_52 : decode cX8_readAsk 52 = .ok (.goto 4, 3) := by decide +kernel
theorem dX8_readAsk_55 : decode cX8_readAsk 55 = .ok (.iconst 0, 1) := by decide +kernel
theorem dX8_readAsk_56 : decode cX8_readAsk 56 = .ok (.iastore, 1) := by decide +kernel
theorem dX8_readAsk_57 : decode cX8_readAsk 57 = .ok (.aload_n 0, 1) := by decide +kernel
theorem dX8_readAsk_58 : decode cX8_readAsk 58 = .ok (.invokevirtual 104, 3) := by decide +kernel
theorem dX8_readAsk_61 : decode cX8_readAsk 61 = .ok (.ifCond .eq 7, 3) := by decide +kernel
theorem dX8_readAsk_64 : decode cX8_readAsk 64 = .ok (.aload_n 0, 1) := by decide +kernel
theorem dX8_readAsk_65 : decode cX8_readAsk 65 = .ok (.invokevirtual 241, 3) := by decide +kernel
theorem dX8_readAsk_68 : decode cX8_readAsk 68 = .ok (.return_, 1) := by decide +kernel
theorem dX8_readLine_0 : decode cX8_readLine 0 = .ok (.aload_n 0, 1) := by decide +kernel
theorem dX8_readLine_1 : decode cX8_readLine 1 = .ok (.ldc 187, 2) := by decide +kernel
theorem dX8_readLine_3 : decode cX8_readLine 3 = .ok (.invokevirtual 147, 3) := by decide +kernel
theorem dX8_readLine_6 : decode cX8_readLine 6 = .ok (.ifCond .eq 10, 3) := by decide +kernel
theorem dX8_readLine_9 : decode cX8_readLine 9 = .ok (.aload_n 0, 1) := by decide +kernel
theorem dX8_readLine_10 : decode cX8_readLine 10 = .ok (.invokevirtual 244, 3) := by decide +kernel
theorem dX8_readLine_13 : decode cX8_readLine 13 = .ok (.goto 60, 3) := by decide +kernel
theorem dX8_readLine_16 : decode cX8_readLine 16 = .ok (.aload_n 0, 1) := by decide +kernel
theorem dX8_readLine_17 : decode cX8_readLine 17 = .ok (.ldc 189, 2) := by decide +kernel
theorem dX8_readLine_19 : decode cX8_readLine 19 = .ok (.invokevirtual 147, 3) := by decide +kernel
theorem dX8_readLine_22 : decode cX8_readLine 22 = .ok (.ifCond .eq 10, 3) := by decide +kernel
theorem dX8_readLine_25 : decode cX8_readLine 25 = .ok (.aload_n 0, 1) := by decide +kernel
theorem dX8_readLine_26 : decode cX8_readLine 26 = .ok (.invokevirtual 247, 3) := by decide +kernel
theorem dX8_readLine_29 : decode cX8_readLine 29 = .ok (.goto 44, 3) := by decide +kernel
theorem dX8_readLine_32 : decode cX8_readLine 32 = .ok (.aload_n 0, 1) := by decide +kernel
theorem dX8_readLine_33 : decode cX8_readLine 33 = .ok (.ldc 191, 2) := by decide +kernel
theorem dX8_readLine_35 : decode cX8_readLine 35 = .ok (.invokevirtual 147, 3) := by decide +kernel
theorem dX8_readLine_38 : decode cX8_readLine 38 = .ok (.ifCond .eq 10, 3) := by decide +kernel
theorem dX8_readLine_41 : decode cX8_readLine 41 = .ok (.aload_n 0, 1) := by decide +kernel
theorem dX8_readLine_42 : decode cX8_readLine 42 = .ok (.invokevirtual 250, 3) := by decide +kernel
theorem dX8_readLine_45 : decode cX8_readLine 45 = .ok (.goto 28, 3) := by decide +kernel
theorem dX8_readLine_48 : decode cX8_readLine 48 = .ok (.aload_n 0, 1) := by decide +kernel
theorem dX8_readLine_49 : decode cX8_readLine 49 = .ok (.ldc 193, 2) := by decide +kernel
theorem dX8_readLine_51 : decode cX8_readLine 51 = .ok (.invokevirtual 147, 3) := by decide +kernel
theorem dX8_readLine_54 : decode cX8_readLine 54 = .ok (.ifCond .eq 10, 3) := by decide +kernel
theorem dX8_readLine_57 : decode cX8_readLine 57 = .ok (.aload_n 0, 1) := by decide +kernel
theorem dX8_readLine_58 : decode cX8_readLine 58 = .ok (.invokevirtual 253, 3) := by decide +kernel
theorem dX8_readLine_61 : decode cX8_readLine 61 = .ok (.goto 12, 3) := by decide +kernel
theorem dX8_readLine_64 : decode cX8_readLine 64 = .ok (.aload_n 0, 1) := by decide +kernel
theorem dX8_readLine_65 : decode cX8_readLine 65 = .ok (.iconst 1, 1) := by decide +kernel
theorem dX8_readLine_66 : decode cX8_readLine 66 = .ok (.aload_n 0, 1) := by decide +kernel
theorem dX8_readLine_67 : decode cX8_readLine 67 = .ok (.getfield 116, 3) := by decide +kernel
theorem dX8_readLine_70 : decode cX8_readLine 70 = .ok (.invokevirtual 157, 3) := by decide +kernel
theorem dX8_readLine_73 : decode cX8_readLine 73 = .ok (.aload_n 0, 1) := by decide +kernel
theorem dX8_readLine_74 : decode cX8_readLine 74 = .ok (.bipush 59, 2) := by decide +kernel
theorem dX8_readLine_76 : decode cX8_readLine 76 = .ok (.invokevirtual 227, 3) := by decide +kernel
theorem dX8_readLine_79 : decode cX8_readLine 79 = .ok (.return_, 1) := by decide +kernel
theorem dX8_readAll_0 : decode cX8_readAll 0 = .ok (.iconst 0, 1) := by decide +kernel
theorem dX8_readAll_1 : decode cX8_readAll 1 = .ok (.istore_n 1, 1) := by decide +kernel
theorem dX8_readAll_2 : decode cX8_readAll 2 = .ok (.iload_n 1, 1) := by decide +kernel
theorem dX8_readAll_3 : decode cX8_readAll 3 = .ok (.sipush 518, 3) := by decide +kernel
theorem dX8_readAll_6 : decode cX8_readAll 6 = .ok (.if_icmp .ge 16, 3) := by decide +kernel
theorem dX8_readAll_9 : decode cX8_readAll 9 = .ok (.aload_n 0, 1) := by decide +kernel
theorem dX8_readAll_10 : decode cX8_readAll 10 = .ok (.getfield 16, 3) := by decide +kernel
theorem dX8_readAll_13 : decode cX8_readAll 13 = .ok (.iload_n 1, 1) := by decide +kernel
theorem dX8_readAll_14 : decode cX8_readAll 14 = .ok (.iconst 0, 1) := by decide +kernel
theorem dX8_readAll_15 : decode cX8_readAll 15 = .ok (.iastore, 1) := by decide +kernel
theorem dX8_readAll_16 : decode cX8_readAll 16 = .ok (.iinc 1 1, 3) := by decide +kernel
theorem dX8_readAll_19 : decode cX8_readAll 19 = .ok (.goto (-17), 3) := by decide +kernel
theorem dX8_readAll_22 : decode cX8_readAll 22 = .ok (.iconst 0, 1) := by decide +kernel
theorem dX8_readAll_23 : decode cX8_readAll 23 = .ok (.istore_n 1, 1) := by decide +kernel
theorem dX8_readAll_24 : decode cX8_readAll 24 = .ok (.iload_n 1, 1) := by decide +kernel
theorem dX8_readAll_25 : decode cX8_readAll 25 = .ok (.bipush 48, 2) := by decide +kernel
theorem dX8_readAll_27 : decode cX8_readAll 27 = .ok (.if_icmp .ge 19, 3) := by decide +kernel
theorem dX8_readAll_30 : decode cX8_readAll 30 = .ok (.aload_n 0, 1) := by decide +kernel
theorem dX8_readAll_31 : decode cX8_readAll 31 = .ok (.getfield 16, 3) := by decide +kernel
theorem dX8_readAll_34 : decode cX8_readAll 34 = .ok (.bipush 6, 2) := by decide +kernel
theorem dX8_readAll_36 : decode cX8_readAll 36 = .ok (.iload_n 1, 1) := by decide +kernel
theorem dX8_readAll_37 : decode cX8_readAll 37 = .ok (.iadd, 1) := by decide +kernel
theorem dX8_readAll_38 : decode cX8_readAll 38 = .ok (.iconst 4, 1) := by decide +kernel
theorem dX8_readAll_39 : decode cX8_readAll 39 = .ok (.iastore, 1) := by decide +kernel
theorem dX8_readAll_40 : decode cX8_readAll 40 = .ok (.iinc 1 1, 3) := by decide +kernel
theorem dX8_readAll_43 : decode cX8_readAll 43 = .ok (.goto (-19), 3) := by decide +kernel
theorem dX8_readAll_46 : decode cX8_readAll 46 = .ok (.aload_n 0, 1) := by decide +kernel
theorem dX8_readAll_47 : decode cX8_readAll 47 = .ok (.iconst 0, 1) := by decide +kernel
theorem dX8_readAll_48 : decode cX8_readAll 48 = .ok (.putfield 215, 3) := by decide +kernel
theorem dX8_readAll_51 : decode cX8_readAll 51 = .ok (.aload_n 0, 1) := by decide +kernel
theorem dX8_readAll_52 : decode cX8_readAll 52 = .ok (.iconst 0, 1) := by decide +kernel
theorem dX8_readAll_53 : decode cX8_readAll 53 = .ok (.putfield 207, 3) := by decide +kernel
theorem dX8_readAll_56 : decode cX8_readAll 56 = .ok (.aload_n 0, 1) := by decide +kernel
theorem dX8_readAll_57 : decode cX8_readAll 57 = .ok (.invokevirtual 151, 3) := by decide +kernel
theorem dX8_readAll_60 : decode cX8_readAll 60 = .ok (.aload_n 0, 1) := by decide +kernel
theorem dX8_readAll_61 : decode cX8_readAll 61 = .ok (.ldc 185, 2) := by decide +kernel
theorem dX8_readAll_63 : decode cX8_readAll 63 = .ok (.invokevirtual 211, 3) := by decide +kernel
theorem dX8_readAll_66 : decode cX8_readAll 66 = .ok (.aload_n 0, 1) := by decide +kernel
theorem dX8_readAll_67 : decode cX8_readAll 67 = .ok (.getfield 16, 3) := by decide +kernel
theorem dX8_readAll_70 : decode cX8_readAll 70 = .ok (.iconst 0, 1) := by decide +kernel
theorem dX8_readAll_71 : decode cX8_readAll 71 = .ok (.aload_n 0, 1) := by decide +kernel
theorem dX8_readAll_72 : decode cX8_readAll 72 = .ok (.iconst 5, 1) := by decide +kernel
theorem dX8_readAll_73 : decode cX8_readAll 73 = .ok (.bipush 30, 2) := by decide +kernel
theorem dX8_readAll_75 : decode cX8_readAll 75 = .ok (.invokevirtual 218, 3) := by decide +kernel
theorem dX8_readAll_78 : decode cX8_readAll 78 = .ok (.iastore, 1) := by decide +kernel
theorem dX8_readAll_79 : decode cX8_readAll 79 = .ok (.aload_n 0, 1) := by decide +kernel
theorem dX8_readAll_80 : decode cX8_readAll 80 = .ok (.bipush 59, 2) := by decide +kernel
theorem dX8_readAll_82 : decode cX8_readAll 82 = .ok (.invokevirtual 227, 3) := by decide +kernel
theorem dX8_readAll_85 : decode cX8_readAll 85 = .ok (.iconst 1, 1) := by decide +kernel
theorem dX8_readAll_86 : decode cX8_readAll 86 = .ok (.istore_n 1, 1) := by decide +kernel
theorem dX8_readAll_87 : decode cX8_readAll 87 = .ok (.aload_n 0, 1) := by decide +kernel
theorem dX8_readAll_88 : decode cX8_readAll 88 = .ok (.invokevirtual 104, 3) := by decide +kernel
theorem dX8_readAll_91 : decode cX8_readAll 91 = .ok (.ifCond .eq 20, 3) := by decide +kernel
theorem dX8_readAll_94 : decode cX8_readAll 94 = .ok (.aload_n 0, 1) := by decide +kernel
theorem dX8_readAll_95 : decode cX8_readAll 95 = .ok (.getfield 119, 3) := by decide +kernel
theorem dX8_readAll_98 : decode cX8_readAll 98 = .ok (.ifCond .eq 13, 3) := by decide +kernel
theorem dX8_readAll_101 : decode cX8_readAll 101 = .ok (.aload_n 0, 1) := by decide +kernel
theorem dX8_readAll_102 : decode cX8_readAll 102 = .ok (.invokevirtual 256, 3) := by decide +kernel
theorem dX8_readAll_105 : decode cX8_readAll 105 = .ok (.iinc 1 1, 3) := by decide +kernel
theorem dX8_readAll_108 : decode cX8_readAll 108 = .ok (.goto (-21), 3) := by decide +kernel
theorem dX8_readAll_111 : decode cX8_readAll 111 = .ok (.iload_n 1, 1) := by decide +kernel
theorem dX8_readAll_112 : decode cX8_readAll 112 = .ok (.ireturn, 1) := by decide +kernel
theorem dX8_text_0 : decode cX8_text 0 = .ok (.aload_n 0, 1) := by decide +kernel
theorem dX8_text_1 : decode cX8_text 1 = .ok (.aload_n 0, 1) := by decide +kernel
theorem dX8_text_2 : decode cX8_text 2 = .ok (.getfield 94, 3) := by decide +kernel
theorem dX8_text_5 : decode cX8_text 5 = .ok (.putfield 107, 3) := by decide +kernel
theorem dX8_text_8 : decode cX8_text 8 = .ok (.aload_n 0, 1) := by decide +kernel
theorem dX8_text_9 : decode cX8_text 9 = .ok (.iconst 0, 1) := by decide +kernel
theorem dX8_text_10 : decode cX8_text 10 = .ok (.putfield 94, 3) := by decide +kernel
theorem dX8_text_13 : decode cX8_text 13 = .ok (.aload_n 0, 1) := by decide +kernel
theorem dX8_text_14 : decode cX8_text 14 = .ok (.iconst 0, 1) := by decide +kernel
theorem dX8_text_15 : decode cX8_text 15 = .ok (.putfield 110, 3) := by decide +kernel
theorem dX8_text_18 : decode cX8_text 18 = .ok (.aload_n 0, 1) := by decide +kernel
theorem dX8_text_19 : decode cX8_text 19 = .ok (.iconst 0, 1) := by decide +kernel
theorem dX8_text_20 : decode cX8_text 20 = .ok (.putfield 101, 3) := by decide +kernel
theorem dX8_text_23 : decode cX8_text 23 = .ok (.aload_n 0, 1) := by decide +kernel
theorem dX8_text_24 : decode cX8_text 24 = .ok (.iconst (-1), 1) := by decide +kernel
theorem dX8_text_25 : decode cX8_text 25 = .ok (.putfield 23, 3) := by decide +kernel
theorem dX8_text_28 : decode cX8_text 28 = .ok (.aload_n 0, 1) := by decide +kernel
theorem dX8_text_29 : decode cX8_text 29 = .ok (.aload_n 0, 1) := by decide +kernel
theorem dX8_text_30 : decode cX8_text 30 = .ok (.getfield 13, 3) := by decide +kernel
theorem dX8_text_33 : decode cX8_text 33 = .ok (.putfield 16, 3) := by decide +kernel
theorem dX8_text_36 : decode cX8_text 36 = .ok (.aload_n 0, 1) := by decide +kernel
theorem dX8_text_37 : decode cX8_text 37 = .ok (.invokevirtual 259, 3) := by decide +kernel
theorem dX8_text_40 : decode cX8_text 40 = .ok (.istore_n 1, 1) := by decide +kernel
theorem dX8_text_41 : decode cX8_text 41 = .ok (.aload_n 0, 1) := by decide +kernel
theorem dX8_text_42 : decode cX8_text 42 = .ok (.aload_n 0, 1) := by decide +kernel
theorem dX8_text_43 : decode cX8_text 43 = .ok (.getfield 9, 3) := by decide +kernel
theorem dX8_text_46 : decode cX8_text 46 = .ok (.putfield 16, 3) := by decide +kernel
theorem dX8_text_49 : decode cX8_text 49 = .ok (.aload_n 0, 1) := by decide +kernel
theorem dX8_text_50 : decode cX8_text 50 = .ok (.invokevirtual 104, 3) := by decide +kernel
theorem dX8_text_53 : decode cX8_text 53 = .ok (.ifCond .ne 6, 3) := by decide +kernel
theorem dX8_text_56 : decode cX8_text 56 = .ok (.bipush (-4), 2) := by decide +kernel
theorem dX8_text_58 : decode cX8_text 58 = .ok (.ireturn, 1) := by decide +kernel
theorem dX8_text_59 : decode cX8_text 59 = .ok (.iconst 0, 1) := by decide +kernel
theorem dX8_text_60 : decode cX8_text 60 = .ok (.istore_n 2, 1) := by decide +kernel
theorem dX8_text_61 : decode cX8_text 61 = .ok (.iload_n 2, 1) := by decide +kernel
theorem dX8_text_62 : decode cX8_text 62 = .ok (.sipush 518, 3) := by decide +kernel
theorem dX8_text_65 : decode cX8_text 65 = .ok (.if_icmp .ge 21, 3) := by decide +kernel
theorem dX8_text_68 : decode cX8_text 68 = .ok (.aload_n 0, 1) := by decide +kernel
theorem dX8_text_69 : decode cX8_text 69 = .ok (.getfield 9, 3) := by decide +kernel
theorem dX8_text_72 : decode cX8_text 72 = .ok (.iload_n 2, 1) := by decide +kernel
theorem dX8_text_73 : decode cX8_text 73 = .ok (.aload_n 0, 1) := by decide +kernel
theorem dX8_text_74 : decode cX8_text 74 = .ok (.getfield 13, 3) := by decide +kernel
theorem dX8_text_77 : decode cX8_text 77 = .ok (.iload_n 2, 1) := by decide +kernel
theorem dX8_text_78 : decode cX8_text 78 = .ok (.iaload, 1) := by decide +kernel
theorem dX8_text_79 : decode cX8_text 79 = .ok (.iastore, 1) := by decide +kernel
theorem dX8_text_80 : decode cX8_text 80 = .ok (.iinc 2 1, 3) := by decide +kernel
theorem dX8_text_83 : decode cX8_text 83 = .ok (.goto (-22), 3) := by decide +kernel
theorem dX8_text_86 : decode cX8_text 86 = .ok (.aload_n 0, 1) := by decide +kernel
theorem dX8_text_87 : decode cX8_text 87 = .ok (.iconst 0, 1) := by decide +kernel
theorem dX8_text_88 : decode cX8_text 88 = .ok (.putfield 262, 3) := by decide +kernel
theorem dX8_text_91 : decode cX8_text 91 = .ok (.iload_n 1, 1) := by decide +kernel
theorem dX8_text_92 : decode cX8_text 92 = .ok (.ireturn, 1) := by decide +kernel
theorem dX8_fault_0 : decode cX8_fault 0 = .ok (.iload_n 1, 1) := by decide +kernel
theorem dX8_fault_1 : decode cX8_fault 1 = .ok (.ifCond .ne 10, 3) := by decide +kernel
theorem dX8_fault_4 : decode cX8_fault 4 = .ok (.aload_n 0, 1) := by decide +kernel
theorem dX8_fault_5 : decode cX8_fault 5 = .ok (.getfield 101, 3) := by decide +kernel
theorem dX8_fault_8 : decode cX8_fault 8 = .ok (.goto 16, 3) := by decide +kernel
theorem dX8_fault_11 : decode cX8_fault 11 = .ok (.iload_n 1, 1) := by decide +kernel
theorem dX8_fault_12 : decode cX8_fault 12 = .ok (.iconst 1, 1) := by decide +kernel
theorem dX8_fault_13 : decode cX8_fault 13 = .ok (.if_icmp .ne 10, 3) := by decide +kernel
theorem dX8_fault_16 : decode cX8_fault 16 = .ok (.aload_n 0, 1) := by decide +kernel
theorem dX8_fault_17 : decode cX8_fault 17 = .ok (.getfield 23, 3) := by decide +kernel
theorem dX8_fault_20 : decode cX8_fault 20 = .ok (.goto 4, 3) := by decide +kernel
theorem dX8_fault_23 : decode cX8_fault 23 = .ok (.iconst (-1), 1) := by decide +kernel
theorem dX8_fault_24 : decode cX8_fault 24 = .ok (.ireturn, 1) := by decide +kernel
theorem dX8_count_0 : decode cX8_count 0 = .ok (.iload_n 1, 1) := by decide +kernel
theorem dX8_count_1 : decode cX8_count 1 = .ok (.tableswitch 99 0 7 #[47, 54, 61, 68, 75, 82, 89, 94], 47) := by decide +kernel
theorem dX8_count_48 : decode cX8_count 48 = .ok (.aload_n 0, 1) := by decide +kernel
theorem dX8_count_49 : decode cX8_count 49 = .ok (.getfield 9, 3) := by decide +kernel
theorem dX8_count_52 : decode cX8_count 52 = .ok (.iconst 0, 1) := by decide +kernel
theorem dX8_count_53 : decode cX8_count 53 = .ok (.iaload, 1) := by decide +kernel
theorem dX8_count_54 : decode cX8_count 54 = .ok (.ireturn, 1) := by decide +kernel
theorem dX8_count_55 : decode cX8_count 55 = .ok (.aload_n 0, 1) := by decide +kernel
theorem dX8_count_56 : decode cX8_count 56 = .ok (.getfield 9, 3) := by decide +kernel
theorem dX8_count_59 : decode cX8_count 59 = .ok (.iconst 1, 1) := by decide +kernel
theorem dX8_count_60 : decode cX8_count 60 = .ok (.iaload, 1) := by decide +kernel
theorem dX8_count_61 : decode cX8_count 61 = .ok (.ireturn, 1) := by decide +kernel
theorem dX8_count_62 : decode cX8_count 62 = .ok (.aload_n 0, 1) := by decide +kernel
theorem dX8_count_63 : decode cX8_count 63 = .ok (.getfield 9, 3) := by decide +kernel
theorem dX8_count_66 : decode cX8_count 66 = .ok (.iconst 2, 1) := by decide +kernel
theorem dX8_count_67 : decode cX8_count 67 = .ok (.iaload, 1) := by decide +kernel
theorem dX8_count_68 : decode cX8_count 68 = .ok (.ireturn, 1) := by decide +kernel
theorem dX8_count_69 : decode cX8_count 69 = .ok (.aload_n 0, 1) := by decide +kernel
theorem dX8_count_70 : decode cX8_count 70 = .ok (.getfield 9, 3) := by decide +kernel
theorem dX8_count_73 : decode cX8_count 73 = .ok (.iconst 3, 1) := by decide +kernel
theorem dX8_count_74 : decode cX8_count 74 = .ok (.iaload, 1) := by decide +kernel
theorem dX8_count_75 : decode cX8_count 75 = .ok (.ireturn, 1) := by decide +kernel
theorem dX8_count_76 : decode cX8_count 76 = .ok (.aload_n 0, 1) := by decide +kernel
theorem dX8_count_77 : decode cX8_count 77 = .ok (.getfield 9, 3) := by decide +kernel
theorem dX8_count_80 : decode cX8_count 80 = .ok (.iconst 4, 1) := by decide +kernel
theorem dX8_count_81 : decode cX8_count 81 = .ok (.iaload, 1) := by decide +kernel
theorem dX8_count_82 : decode cX8_count 82 = .ok (.ireturn, 1) := by decide +kernel
theorem dX8_count_83 : decode cX8_count 83 = .ok (.aload_n 0, 1) := by decide +kernel
theorem dX8_count_84 : decode cX8_count 84 = .ok (.getfield 9, 3) := by decide +kernel
theorem dX8_count_87 : decode cX8_count 87 = .ok (.iconst 5, 1) := by decide +kernel
theorem dX8_count_88 : decode cX8_count 88 = .ok (.iaload, 1) := by decide +kernel
theorem dX8_count_89 : decode cX8_count 89 = .ok (.ireturn, 1) := by decide +kernel
theorem dX8_count_90 : decode cX8_count 90 = .ok (.aload_n 0, 1) := by decide +kernel
theorem dX8_count_91 : decode cX8_count 91 = .ok (.getfield 262, 3) := by decide +kernel
theorem dX8_count_94 : decode cX8_count 94 = .ok (.ireturn, 1) := by decide +kernel
theorem dX8_count_95 : decode cX8_count 95 = .ok (.aload_n 0, 1) := by decide +kernel
theorem dX8_count_96 : decode cX8_count 96 = .ok (.getfield 94, 3) := by decide +kernel
theorem dX8_count_99 : decode cX8_count 99 = .ok (.ireturn, 1) := by decide +kernel
theorem dX8_count_100 : decode cX8_count 100 = .ok (.iconst (-1), 1) := by decide +kernel
theorem dX8_count_101 : decode cX8_count 101 = .ok (.ireturn, 1) := by decide +kernel
theorem dX8_letterOf_0 : decode cX8_letterOf 0 = .ok (.iload_n 0, 1) := by decide +kernel
theorem dX8_letterOf_1 : decode cX8_letterOf 1 = .ok (.istore_n 2, 1) := by decide +kernel
theorem dX8_letterOf_2 : decode cX8_letterOf 2 = .ok (.iload_n 1, 1) := by decide +kernel
theorem dX8_letterOf_3 : decode cX8_letterOf 3 = .ok (.istore_n 3, 1) := by decide +kernel
theorem dX8_letterOf_4 : decode cX8_letterOf 4 = .ok (.iload_n 3, 1) := by decide +kernel
theorem dX8_letterOf_5 : decode cX8_letterOf 5 = .ok (.iconst 5, 1) := by decide +kernel
theorem dX8_letterOf_6 : decode cX8_letterOf 6 = .ok (.if_icmp .ge 14, 3) := by decide +kernel
theorem dX8_letterOf_9 : decode cX8_letterOf 9 = .ok (.iload_n 2, 1) := by decide +kernel
theorem dX8_letterOf_10 : decode cX8_letterOf 10 = .ok (.bipush 27, 2) := by decide +kernel
theorem dX8_letterOf_12 : decode cX8_letterOf 12 = .ok (.idiv, 1) := by decide +kernel
theorem dX8_letterOf_13 : decode cX8_letterOf 13 = .ok (.istore_n 2, 1) := by decide +kernel
theorem dX8_letterOf_14 : decode cX8_letterOf 14 = .ok (.iinc 3 1, 3) := by decide +kernel
theorem dX8_letterOf_17 : decode cX8_letterOf 17 = .ok (.goto (-13), 3) := by decide +kernel
theorem dX8_letterOf_20 : decode cX8_letterOf 20 = .ok (.iload_n 2, 1) := by decide +kernel
theorem dX8_letterOf_21 : decode cX8_letterOf 21 = .ok (.bipush 27, 2) := by decide +kernel
theorem dX8_letterOf_23 : decode cX8_letterOf 23 = .ok (.irem, 1) := by decide +kernel
theorem dX8_letterOf_24 : decode cX8_letterOf 24 = .ok (.ireturn, 1) := by decide +kernel
theorem dX8_letter_0 : decode cX8_letter 0 = .ok (.aload_n 0, 1) := by decide +kernel
theorem dX8_letter_1 : decode cX8_letter 1 = .ok (.iload_n 1, 1) := by decide +kernel
theorem dX8_letter_2 : decode cX8_letter 2 = .ok (.invokevirtual 265, 3) := by decide +kernel
theorem dX8_letter_5 : decode cX8_letter 5 = .ok (.ifCond .eq 31, 3) := by decide +kernel
theorem dX8_letter_8 : decode cX8_letter 8 = .ok (.iload_n 2, 1) := by decide +kernel
theorem dX8_letter_9 : decode cX8_letter 9 = .ok (.i2l, 1) := by decide +kernel
theorem dX8_letter_10 : decode cX8_letter 10 = .ok (.lconst 0, 1) := by decide +kernel
theorem dX8_letter_11 : decode cX8_letter 11 = .ok (.ldc2_w 268, 3) := by decide +kernel
theorem dX8_letter_14 : decode cX8_letter 14 = .ok (.invokestatic 45, 3) := by decide +kernel
theorem dX8_letter_17 : decode cX8_letter 17 = .ok (.ifCond .eq 19, 3) := by decide +kernel
theorem dX8_letter_20 : decode cX8_letter 20 = .ok (.aload_n 0, 1) := by decide +kernel
theorem dX8_letter_21 : decode cX8_letter 21 = .ok (.getfield 9, 3) := by decide +kernel
theorem dX8_letter_24 : decode cX8_letter 24 = .ok (.bipush 54, 2) := by decide +kernel
theorem dX8_letter_26 : decode cX8_letter 26 = .ok (.iload_n 1, 1) := by decide +kernel
theorem dX8_letter_27 : decode cX8_letter 27 = .ok (.iadd, 1) := by decide +kernel
theorem dX8_letter_28 : decode cX8_letter 28 = .ok (.iaload, 1) := by decide +kernel
theorem dX8_letter_29 : decode cX8_letter 29 = .ok (.iload_n 2, 1) := by decide +kernel
theorem dX8_letter_30 : decode cX8_letter 30 = .ok (.invokestatic 270, 3) := by decide +kernel
theorem dX8_letter_33 : decode cX8_letter 33 = .ok (.goto 5, 3) := by decide +kernel
theorem dX8_letter_36 : decode cX8_letter 36 = .ok (.bipush (-2), 2) := by decide +kernel
theorem dX8_letter_38 : decode cX8_letter 38 = .ok (.ireturn, 1) := by decide +kernel
theorem dX8_find_0 : decode cX8_find 0 = .ok (.aload_n 0, 1) := by decide +kernel
theorem dX8_find_1 : decode cX8_find 1 = .ok (.getfield 94, 3) := by decide +kernel
theorem dX8_find_4 : decode cX8_find 4 = .ok (.istore_n 1, 1) := by decide +kernel
theorem dX8_find_5 : decode cX8_find 5 = .ok (.aload_n 0, 1) := by decide +kernel
theorem dX8_find_6 : decode cX8_find 6 = .ok (.iconst 0, 1) := by decide +kernel
theorem dX8_find_7 : decode cX8_find 7 = .ok (.putfield 94, 3) := by decide +kernel
theorem dX8_find_10 : decode cX8_find 10 = .ok (.aload_n 0, 1) := by decide +kernel
theorem dX8_find_11 : decode cX8_find 11 = .ok (.invokevirtual 49, 3) := by decide +kernel
theorem dX8_find_14 : decode cX8_find 14 = .ok (.ifCond .eq 19, 3) := by decide +kernel
theorem dX8_find_17 : decode cX8_find 17 = .ok (.iload_n 1, 1) := by decide +kernel
theorem dX8_find_18 : decode cX8_find 18 = .ok (.i2l, 1) := by decide +kernel
theorem dX8_find_19 : decode cX8_find 19 = .ok (.lconst 1, 1) := by decide +kernel
theorem dX8_find_20 : decode cX8_find 20 = .ok (.ldc2_w 53, 3) := by decide +kernel
theorem dX8_find_23 : decode cX8_find 23 = .ok (.invokestatic 45, 3) := by decide +kernel
theorem dX8_find_26 : decode cX8_find 26 = .ok (.ifCond .eq 7, 3) := by decide +kernel
theorem dX8_find_29 : decode cX8_find 29 = .ok (.iconst 1, 1) := by decide +kernel
theorem dX8_find_30 : decode cX8_find 30 = .ok (.goto 4, 3) := by decide +kernel
theorem dX8_find_33 : decode cX8_find 33 = .ok (.iconst 0, 1) := by decide +kernel
theorem dX8_find_34 : decode cX8_find 34 = .ok (.istore_n 2, 1) := by decide +kernel
theorem dX8_find_35 : decode cX8_find 35 = .ok (.iconst 0, 1) := by decide +kernel
theorem dX8_find_36 : decode cX8_find 36 = .ok (.istore_n 3, 1) := by decide +kernel
theorem dX8_find_37 : decode cX8_find 37 = .ok (.iload_n 3, 1) := by decide +kernel
theorem dX8_find_38 : decode cX8_find 38 = .ok (.iload_n 1, 1) := by decide +kernel
theorem dX8_find_39 : decode cX8_find 39 = .ok (.if_icmp .ge 30, 3) := by decide +kernel
theorem dX8_find_42 : decode cX8_find 42 = .ok (.iload_n 2, 1) := by decide +kernel
theorem dX8_find_43 : decode cX8_find 43 = .ok (.ifCond .eq 26, 3) := by decide +kernel
theorem dX8_find_46 : decode cX8_find 46 = .ok (.aload_n 0, 1) := by decide +kernel
theorem dX8_find_47 : decode cX8_find 47 = .ok (.getfield 19, 3) := by decide +kernel
theorem dX8_find_50 : decode cX8_find 50 = .ok (.iload_n 3, 1) := by decide +kernel
theorem dX8_find_51 : decode cX8_find 51 = .ok (.baload, 1) := by decide +kernel
theorem dX8_find_52 : decode cX8_find 52 = .ok (.i2l, 1) := by decide +kernel
theorem dX8_find_53 : decode cX8_find 53 = .ok (.ldc2_w 122, 3) := by decide +kernel
theorem dX8_find_56 : decode cX8_find 56 = .ok (.ldc2_w 124, 3) := by decide +kernel
theorem dX8_find_59 : decode cX8_find 59 = .ok (.invokestatic 45, 3) := by decide +kernel
theorem dX8_find_62 : decode cX8_find 62 = .ok (.istore_n 2, 1) := by decide +kernel
theorem dX8_find_63 : decode cX8_find 63 = .ok (.iinc 3 1, 3) := by decide +kernel
theorem dX8_find_66 : decode cX8_find 66 = .ok (.goto (-29), 3) := by decide +kernel
theorem dX8_find_69 : decode cX8_find 69 = .ok (.iload_n 2, 1) := by decide +kernel
theorem dX8_find_70 : decode cX8_find 70 = .ok (.ifCond .eq 16, 3) := by decide +kernel
theorem dX8_find_73 : decode cX8_find 73 = .ok (.aload_n 0, 1) := by decide +kernel
theorem dX8_find_74 : decode cX8_find 74 = .ok (.aload_n 0, 1) := by decide +kernel
theorem dX8_find_75 : decode cX8_find 75 = .ok (.iconst 0, 1) := by decide +kernel
theorem dX8_find_76 : decode cX8_find 76 = .ok (.iload_n 1, 1) := by decide +kernel
theorem dX8_find_77 : decode cX8_find 77 = .ok (.invokevirtual 204, 3) := by decide +kernel
theorem dX8_find_80 : decode cX8_find 80 = .ok (.invokevirtual 224, 3) := by decide +kernel
theorem dX8_find_83 : decode cX8_find 83 = .ok (.goto 5, 3) := by decide +kernel
theorem dX8_find_86 : decode cX8_find 86 = .ok (.bipush (-2), 2) := by decide +kernel
theorem dX8_find_88 : decode cX8_find 88 = .ok (.ireturn, 1) := by decide +kernel
theorem dX8_series_0 : decode cX8_series 0 = .ok (.aload_n 0, 1) := by decide +kernel
theorem dX8_series_1 : decode cX8_series 1 = .ok (.iload_n 1, 1) := by decide +kernel
theorem dX8_series_2 : decode cX8_series 2 = .ok (.invokevirtual 273, 3) := by decide +kernel
theorem dX8_series_5 : decode cX8_series 5 = .ok (.ifCond .eq 15, 3) := by decide +kernel
theorem dX8_series_8 : decode cX8_series 8 = .ok (.iload_n 2, 1) := by decide +kernel
theorem dX8_series_9 : decode cX8_series 9 = .ok (.i2l, 1) := by decide +kernel
theorem dX8_series_10 : decode cX8_series 10 = .ok (.lconst 0, 1) := by decide +kernel
theorem dX8_series_11 : decode cX8_series 11 = .ok (.ldc2_w 268, 3) := by decide +kernel
theorem dX8_series_14 : decode cX8_series 14 = .ok (.invokestatic 45, 3) := by decide +kernel
theorem dX8_series_17 : decode cX8_series 17 = .ok (.ifCond .ne 6, 3) := by decide +kernel
theorem dX8_series_20 : decode cX8_series 20 = .ok (.bipush (-2), 2) := by decide +kernel
theorem dX8_series_22 : decode cX8_series 22 = .ok (.ireturn, 1) := by decide +kernel
theorem dX8_series_23 : decode cX8_series 23 = .ok (.iload_n 2, 1) := by decide +kernel
theorem dX8_series_24 : decode cX8_series 24 = .ok (.iconst 5, 1) := by decide +kernel
theorem dX8_series_25 : decode cX8_series 25 = .ok (.if_icmp .ge 12, 3) := by decide +kernel
theorem dX8_series_28 : decode cX8_series 28 = .ok (.aload_n 0, 1) := by decide +kernel
theorem dX8_series_29 : decode cX8_series 29 = .ok (.iload_n 1, 1) := by decide +kernel
theorem dX8_series_30 : decode cX8_series 30 = .ok (.iload_n 2, 1) := by decide +kernel
theorem dX8_series_31 : decode cX8_series 31 = .ok (.invokevirtual 67, 3) := by decide +kernel
theorem dX8_series_34 : decode cX8_series 34 = .ok (.goto 16, 3) := by decide +kernel
theorem dX8_series_37 : decode cX8_series 37 = .ok (.aload_n 0, 1) := by decide +kernel
theorem dX8_series_38 : decode cX8_series 38 = .ok (.iload_n 1, 1) := by decide +kernel
theorem dX8_series_39 : decode cX8_series 39 = .ok (.invokevirtual 71, 3) := by decide +kernel
theorem dX8_series_42 : decode cX8_series 42 = .ok (.aload_n 0, 1) := by decide +kernel
theorem dX8_series_43 : decode cX8_series 43 = .ok (.iload_n 1, 1) := by decide +kernel
theorem dX8_series_44 : decode cX8_series 44 = .ok (.bipush 11, 2) := by decide +kernel
theorem dX8_series_46 : decode cX8_series 46 = .ok (.invokevirtual 67, 3) := by decide +kernel
theorem dX8_series_49 : decode cX8_series 49 = .ok (.ior, 1) := by decide +kernel
theorem dX8_series_50 : decode cX8_series 50 = .ok (.ireturn, 1) := by decide +kernel
theorem dX8_weeks_0 : decode cX8_weeks 0 = .ok (.aload_n 0, 1) := by decide +kernel
theorem dX8_weeks_1 : decode cX8_weeks 1 = .ok (.iload_n 1, 1) := by decide +kernel
theorem dX8_weeks_2 : decode cX8_weeks 2 = .ok (.invokevirtual 273, 3) := by decide +kernel
theorem dX8_weeks_5 : decode cX8_weeks 5 = .ok (.ifCond .eq 27, 3) := by decide +kernel
theorem dX8_weeks_8 : decode cX8_weeks 8 = .ok (.iload_n 2, 1) := by decide +kernel
theorem dX8_weeks_9 : decode cX8_weeks 9 = .ok (.i2l, 1) := by decide +kernel
theorem dX8_weeks_10 : decode cX8_weeks 10 = .ok (.lconst 0, 1) := by decide +kernel
theorem dX8_weeks_11 : decode cX8_weeks 11 = .ok (.ldc2_w 276, 3) := by decide +kernel
theorem dX8_weeks_14 : decode cX8_weeks 14 = .ok (.invokestatic 45, 3) := by decide +kernel
theorem dX8_weeks_17 : decode cX8_weeks 17 = .ok (.ifCond .eq 15, 3) := by decide +kernel
theorem dX8_weeks_20 : decode cX8_weeks 20 = .ok (.aload_n 0, 1) := by decide +kernel
theorem dX8_weeks_21 : decode cX8_weeks 21 = .ok (.iload_n 1, 1) := by decide +kernel
theorem dX8_weeks_22 : decode cX8_weeks 22 = .ok (.bipush 7, 2) := by decide +kernel
theorem dX8_weeks_24 : decode cX8_weeks 24 = .ok (.iload_n 2, 1) := by decide +kernel
theorem dX8_weeks_25 : decode cX8_weeks 25 = .ok (.iadd, 1) := by decide +kernel
theorem dX8_weeks_26 : decode cX8_weeks 26 = .ok (.invokevirtual 67, 3) := by decide +kernel
theorem dX8_weeks_29 : decode cX8_weeks 29 = .ok (.goto 5, 3) := by decide +kernel
theorem dX8_weeks_32 : decode cX8_weeks 32 = .ok (.bipush (-2), 2) := by decide +kernel
theorem dX8_weeks_34 : decode cX8_weeks 34 = .ok (.ireturn, 1) := by decide +kernel
theorem dX8_stateOf_0 : decode cX8_stateOf 0 = .ok (.iconst 0, 1) := by decide +kernel
theorem dX8_stateOf_1 : decode cX8_stateOf 1 = .ok (.istore_n 3, 1) := by decide +kernel
theorem dX8_stateOf_2 : decode cX8_stateOf 2 = .ok (.iload_n 3, 1) := by decide +kernel
theorem dX8_stateOf_3 : decode cX8_stateOf 3 = .ok (.iconst 5, 1) := by decide +kernel
theorem dX8_stateOf_4 : decode cX8_stateOf 4 = .ok (.if_icmp .ge 27, 3) := by decide +kernel
theorem dX8_stateOf_7 : decode cX8_stateOf 7 = .ok (.aload_n 0, 1) := by decide +kernel
theorem dX8_stateOf_8 : decode cX8_stateOf 8 = .ok (.iload_n 1, 1) := by decide +kernel
theorem dX8_stateOf_9 : decode cX8_stateOf 9 = .ok (.bipush 7, 2) := by decide +kernel
theorem dX8_stateOf_11 : decode cX8_stateOf 11 = .ok (.iload_n 3, 1) := by decide +kernel
theorem dX8_stateOf_12 : decode cX8_stateOf 12 = .ok (.iadd, 1) := by decide +kernel
theorem dX8_stateOf_13 : decode cX8_stateOf 13 = .ok (.invokevirtual 67, 3) := by decide +kernel
theorem dX8_stateOf_16 : decode cX8_stateOf 16 = .ok (.iload_n 2, 1) := by decide +kernel
theorem dX8_stateOf_17 : decode cX8_stateOf 17 = .ok (.invokestatic 75, 3) := by decide +kernel
theorem dX8_stateOf_20 : decode cX8_stateOf 20 = .ok (.ifCond .eq 5, 3) := by decide +kernel
theorem dX8_stateOf_23 : decode cX8_stateOf 23 = .ok (.iload_n 3, 1) := by decide +kernel
theorem dX8_stateOf_24 : decode cX8_stateOf 24 = .ok (.ireturn, 1) := by decide +kernel
theorem dX8_stateOf_25 : decode cX8_stateOf 25 = .ok (.iinc 3 1, 3) := by decide +kernel
theorem dX8_stateOf_28 : decode cX8_stateOf 28 = .ok (.goto (-26), 3) := by decide +kernel
theorem dX8_stateOf_31 : decode cX8_stateOf 31 = .ok (.iconst (-1), 1) := by decide +kernel
theorem dX8_stateOf_32 : decode cX8_stateOf 32 = .ok (.ireturn, 1) := by decide +kernel
theorem dX8_week_0 : decode cX8_week 0 = .ok (.aload_n 0, 1) := by decide +kernel
theorem dX8_week_1 : decode cX8_week 1 = .ok (.iload_n 1, 1) := by decide +kernel
theorem dX8_week_2 : decode cX8_week 2 = .ok (.invokevirtual 273, 3) := by decide +kernel
theorem dX8_week_5 : decode cX8_week 5 = .ok (.ifCond .eq 20, 3) := by decide +kernel
theorem dX8_week_8 : decode cX8_week 8 = .ok (.aload_n 0, 1) := by decide +kernel
theorem dX8_week_9 : decode cX8_week 9 = .ok (.iload_n 2, 1) := by decide +kernel
theorem dX8_week_10 : decode cX8_week 10 = .ok (.invokevirtual 57, 3) := by decide +kernel
theorem dX8_week_13 : decode cX8_week 13 = .ok (.ifCond .eq 12, 3) := by decide +kernel
theorem dX8_week_16 : decode cX8_week 16 = .ok (.aload_n 0, 1) := by decide +kernel
theorem dX8_week_17 : decode cX8_week 17 = .ok (.iload_n 1, 1) := by decide +kernel
theorem dX8_week_18 : decode cX8_week 18 = .ok (.iload_n 2, 1) := by decide +kernel
theorem dX8_week_19 : decode cX8_week 19 = .ok (.invokevirtual 278, 3) := by decide +kernel
theorem dX8_week_22 : decode cX8_week 22 = .ok (.goto 5, 3) := by decide +kernel
theorem dX8_week_25 : decode cX8_week 25 = .ok (.bipush (-2), 2) := by decide +kernel
theorem dX8_week_27 : decode cX8_week 27 = .ok (.ireturn, 1) := by decide +kernel
theorem dX8_asked_0 : decode cX8_asked 0 = .ok (.aload_n 0, 1) := by decide +kernel
theorem dX8_asked_1 : decode cX8_asked 1 = .ok (.iload_n 1, 1) := by decide +kernel
theorem dX8_asked_2 : decode cX8_asked 2 = .ok (.invokevirtual 281, 3) := by decide +kernel
theorem dX8_asked_5 : decode cX8_asked 5 = .ok (.ifCond .eq 24, 3) := by decide +kernel
theorem dX8_asked_8 : decode cX8_asked 8 = .ok (.iload_n 2, 1) := by decide +kernel
theorem dX8_asked_9 : decode cX8_asked 9 = .ok (.i2l, 1) := by decide +kernel
theorem dX8_asked_10 : decode cX8_asked 10 = .ok (.lconst 0, 1) := by decide +kernel
theorem dX8_asked_11 : decode cX8_asked 11 = .ok (.ldc2_w 53, 3) := by decide +kernel
theorem dX8_asked_14 : decode cX8_asked 14 = .ok (.invokestatic 45, 3) := by decide +kernel
theorem dX8_asked_17 : decode cX8_asked 17 = .ok (.ifCond .eq 12, 3) := by decide +kernel
theorem dX8_asked_20 : decode cX8_asked 20 = .ok (.aload_n 0, 1) := by decide +kernel
theorem dX8_asked_21 : decode cX8_asked 21 = .ok (.iload_n 1, 1) := by decide +kernel
theorem dX8_asked_22 : decode cX8_asked 22 = .ok (.iload_n 2, 1) := by decide +kernel
theorem dX8_asked_23 : decode cX8_asked 23 = .ok (.invokevirtual 284, 3) := by decide +kernel
theorem dX8_asked_26 : decode cX8_asked 26 = .ok (.goto 5, 3) := by decide +kernel
theorem dX8_asked_29 : decode cX8_asked 29 = .ok (.bipush (-2), 2) := by decide +kernel
theorem dX8_asked_31 : decode cX8_asked 31 = .ok (.ireturn, 1) := by decide +kernel
theorem dX8_limitOf_0 : decode cX8_limitOf 0 = .ok (.aload_n 0, 1) := by decide +kernel
theorem dX8_limitOf_1 : decode cX8_limitOf 1 = .ok (.iload_n 1, 1) := by decide +kernel
theorem dX8_limitOf_2 : decode cX8_limitOf 2 = .ok (.invokevirtual 64, 3) := by decide +kernel
theorem dX8_limitOf_5 : decode cX8_limitOf 5 = .ok (.ifCond .eq 29, 3) := by decide +kernel
theorem dX8_limitOf_8 : decode cX8_limitOf 8 = .ok (.iload_n 2, 1) := by decide +kernel
theorem dX8_limitOf_9 : decode cX8_limitOf 9 = .ok (.i2l, 1) := by decide +kernel
theorem dX8_limitOf_10 : decode cX8_limitOf 10 = .ok (.lconst 0, 1) := by decide +kernel
theorem dX8_limitOf_11 : decode cX8_limitOf 11 = .ok (.lconst 1, 1) := by decide +kernel
theorem dX8_limitOf_12 : decode cX8_limitOf 12 = .ok (.invokestatic 45, 3) := by decide +kernel
theorem dX8_limitOf_15 : decode cX8_limitOf 15 = .ok (.ifCond .eq 19, 3) := by decide +kernel
theorem dX8_limitOf_18 : decode cX8_limitOf 18 = .ok (.aload_n 0, 1) := by decide +kernel
theorem dX8_limitOf_19 : decode cX8_limitOf 19 = .ok (.getfield 9, 3) := by decide +kernel
theorem dX8_limitOf_22 : decode cX8_limitOf 22 = .ok (.bipush 6, 2) := by decide +kernel
theorem dX8_limitOf_24 : decode cX8_limitOf 24 = .ok (.iconst 2, 1) := by decide +kernel
theorem dX8_limitOf_25 : decode cX8_limitOf 25 = .ok (.iload_n 1, 1) := by decide +kernel
theorem dX8_limitOf_26 : decode cX8_limitOf 26 = .ok (.imul, 1) := by decide +kernel
theorem dX8_limitOf_27 : decode cX8_limitOf 27 = .ok (.iadd, 1) := by decide +kernel
theorem dX8_limitOf_28 : decode cX8_limitOf 28 = .ok (.iload_n 2, 1) := by decide +kernel
theorem dX8_limitOf_29 : decode cX8_limitOf 29 = .ok (.iadd, 1) := by decide +kernel
theorem dX8_limitOf_30 : decode cX8_limitOf 30 = .ok (.iaload, 1) := by decide +kernel
theorem dX8_limitOf_31 : decode cX8_limitOf 31 = .ok (.goto 5, 3) := by decide +kernel
theorem dX8_limitOf_34 : decode cX8_limitOf 34 = .ok (.bipush (-2), 2) := by decide +kernel
theorem dX8_limitOf_36 : decode cX8_limitOf 36 = .ok (.ireturn, 1) := by decide +kernel
theorem dX8_load_0 : decode cX8_load 0 = .ok (.aload_n 0, 1) := by decide +kernel
theorem dX8_load_1 : decode cX8_load 1 = .ok (.iload_n 1, 1) := by decide +kernel
theorem dX8_load_2 : decode cX8_load 2 = .ok (.iload_n 2, 1) := by decide +kernel
theorem dX8_load_3 : decode cX8_load 3 = .ok (.iload_n 3, 1) := by decide +kernel
theorem dX8_load_4 : decode cX8_load 4 = .ok (.invokevirtual 287, 3) := by decide +kernel
theorem dX8_load_7 : decode cX8_load 7 = .ok (.ifCond .eq 29, 3) := by decide +kernel
theorem dX8_load_10 : decode cX8_load 10 = .ok (.iload 4, 2) := by decide +kernel
theorem dX8_load_12 : decode cX8_load 12 = .ok (.i2l, 1) := by decide +kernel
theorem dX8_load_13 : decode cX8_load 13 = .ok (.lconst 0, 1) := by decide +kernel
theorem dX8_load_14 : decode cX8_load 14 = .ok (.ldc2_w 291, 3) := by decide +kernel
theorem dX8_load_17 : decode cX8_load 17 = .ok (.invokestatic 45, 3) := by decide +kernel
theorem dX8_load_20 : decode cX8_load 20 = .ok (.ifCond .eq 16, 3) := by decide +kernel
theorem dX8_load_23 : decode cX8_load 23 = .ok (.aload_n 0, 1) := by decide +kernel
theorem dX8_load_24 : decode cX8_load 24 = .ok (.iload_n 1, 1) := by decide +kernel
theorem dX8_load_25 : decode cX8_load 25 = .ok (.iload_n 2, 1) := by decide +kernel
theorem dX8_load_26 : decode cX8_load 26 = .ok (.iload_n 3, 1) := by decide +kernel
theorem dX8_load_27 : decode cX8_load 27 = .ok (.iload 4, 2) := by decide +kernel
theorem dX8_load_29 : decode cX8_load 29 = .ok (.iconst (-1), 1) := by decide +kernel
theorem dX8_load_30 : decode cX8_load 30 = .ok (.invokevirtual 86, 3) := by decide +kernel
theorem dX8_load_33 : decode cX8_load 33 = .ok (.goto 5, 3) := by decide +kernel
theorem dX8_load_36 : decode cX8_load 36 = .ok (.bipush (-2), 2) := by decide +kernel
theorem dX8_load_38 : decode cX8_load 38 = .ok (.ireturn, 1) := by decide +kernel
theorem dX8_at_0 : decode cX8_at 0 = .ok (.aload_n 0, 1) := by decide +kernel
theorem dX8_at_1 : decode cX8_at 1 = .ok (.iload_n 1, 1) := by decide +kernel
theorem dX8_at_2 : decode cX8_at 2 = .ok (.iload_n 2, 1) := by decide +kernel
theorem dX8_at_3 : decode cX8_at 3 = .ok (.iload_n 3, 1) := by decide +kernel
theorem dX8_at_4 : decode cX8_at 4 = .ok (.invokevirtual 287, 3) := by decide +kernel
theorem dX8_at_7 : decode cX8_at 7 = .ok (.ifCond .eq 8, 3) := by decide +kernel
theorem dX8_at_10 : decode cX8_at 10 = .ok (.iload 4, 2) := by decide +kernel
theorem dX8_at_12 : decode cX8_at 12 = .ok (.ifCond .ge 6, 3) := by decide +kernel
theorem dX8_at_15 : decode cX8_at 15 = .ok (.bipush (-2), 2) := by decide +kernel
theorem dX8_at_17 : decode cX8_at 17 = .ok (.ireturn, 1) := by decide +kernel
theorem dX8_at_18 : decode cX8_at 18 = .ok (.iload 4, 2) := by decide +kernel
theorem dX8_at_20 : decode cX8_at 20 = .ok (.istore 5, 2) := by decide +kernel
theorem dX8_at_22 : decode cX8_at 22 = .ok (.iconst 0, 1) := by decide +kernel
theorem dX8_at_23 : decode cX8_at 23 = .ok (.istore 6, 2) := by decide +kernel
theorem dX8_at_25 : decode cX8_at 25 = .ok (.iload 6, 2) := by decide +kernel
theorem dX8_at_27 : decode cX8_at 27 = .ok (.aload_n 0, 1) := by decide +kernel
theorem dX8_at_28 : decode cX8_at 28 = .ok (.getfield 9, 3) := by decide +kernel
theorem dX8_at_31 : decode cX8_at 31 = .ok (.iconst 2, 1) := by decide +kernel
theorem dX8_at_32 : decode cX8_at 32 = .ok (.iaload, 1) := by decide +kernel
theorem dX8_at_33 : decode cX8_at 33 = .ok (.if_icmp .ge 58, 3) := by decide +kernel
theorem dX8_at_36 : decode cX8_at 36 = .ok (.aload_n 0, 1) := by decide +kernel
theorem dX8_at_37 : decode cX8_at 37 = .ok (.iload 6, 2) := by decide +kernel
theorem dX8_at_39 : decode cX8_at 39 = .ok (.iconst 1, 1) := by decide +kernel
theorem dX8_at_40 : decode cX8_at 40 = .ok (.invokevirtual 67, 3) := by decide +kernel
theorem dX8_at_43 : decode cX8_at 43 = .ok (.iload_n 2, 1) := by decide +kernel
theorem dX8_at_44 : decode cX8_at 44 = .ok (.if_icmp .ne 41, 3) := by decide +kernel
theorem dX8_at_47 : decode cX8_at 47 = .ok (.aload_n 0, 1) := by decide +kernel
theorem dX8_at_48 : decode cX8_at 48 = .ok (.iload 6, 2) := by decide +kernel
theorem dX8_at_50 : decode cX8_at 50 = .ok (.iconst 2, 1) := by decide +kernel
theorem dX8_at_51 : decode cX8_at 51 = .ok (.invokevirtual 67, 3) := by decide +kernel
theorem dX8_at_54 : decode cX8_at 54 = .ok (.iload_n 3, 1) := by decide +kernel
theorem dX8_at_55 : decode cX8_at 55 = .ok (.if_icmp .ne 30, 3) := by decide +kernel
theorem dX8_at_58 : decode cX8_at 58 = .ok (.aload_n 0, 1) := by decide +kernel
theorem dX8_at_59 : decode cX8_at 59 = .ok (.iload 6, 2) := by decide +kernel
theorem dX8_at_61 : decode cX8_at 61 = .ok (.invokevirtual 71, 3) := by decide +kernel
theorem dX8_at_64 : decode cX8_at 64 = .ok (.iload_n 1, 1) := by decide +kernel
theorem dX8_at_65 : decode cX8_at 65 = .ok (.invokestatic 75, 3) := by decide +kernel
theorem dX8_at_68 : decode cX8_at 68 = .ok (.ifCond .ne 6, 3) := by decide +kernel
theorem dX8_at_71 : decode cX8_at 71 = .ok (.goto 14, 3) := by decide +kernel
theorem dX8_at_74 : decode cX8_at 74 = .ok (.iload 5, 2) := by decide +kernel
theorem dX8_at_76 : decode cX8_at 76 = .ok (.ifCond .ne 6, 3) := by decide +kernel
theorem dX8_at_79 : decode cX8_at 79 = .ok (.iload 6, 2) := by decide +kernel
theorem dX8_at_81 : decode cX8_at 81 = .ok (.ireturn, 1) := by decide +kernel
theorem dX8_at_82 : decode cX8_at 82 = .ok (.iinc 5 (-1), 3) := by decide +kernel
theorem dX8_at_85 : decode cX8_at 85 = .ok (.iinc 6 1, 3) := by decide +kernel
theorem dX8_at_88 : decode cX8_at 88 = .ok (.goto (-63), 3) := by decide +kernel
theorem dX8_at_91 : decode cX8_at 91 = .ok (.iconst (-1), 1) := by decide +kernel
theorem dX8_at_92 : decode cX8_at 92 = .ok (.ireturn, 1) := by decide +kernel
theorem dX8_room_0 : decode cX8_room 0 = .ok (.aload_n 0, 1) := by decide +kernel
theorem dX8_room_1 : decode cX8_room 1 = .ok (.iload_n 1, 1) := by decide +kernel
theorem dX8_room_2 : decode cX8_room 2 = .ok (.iload_n 2, 1) := by decide +kernel
theorem dX8_room_3 : decode cX8_room 3 = .ok (.iload_n 3, 1) := by decide +kernel
theorem dX8_room_4 : decode cX8_room 4 = .ok (.invokevirtual 287, 3) := by decide +kernel
theorem dX8_room_7 : decode cX8_room 7 = .ok (.ifCond .eq 14, 3) := by decide +kernel
theorem dX8_room_10 : decode cX8_room 10 = .ok (.iload 4, 2) := by decide +kernel
theorem dX8_room_12 : decode cX8_room 12 = .ok (.i2l, 1) := by decide +kernel
theorem dX8_room_13 : decode cX8_room 13 = .ok (.lconst 0, 1) := by decide +kernel
theorem dX8_room_14 : decode cX8_room 14 = .ok (.lconst 1, 1) := by decide +kernel
theorem dX8_room_15 : decode cX8_room 15 = .ok (.invokestatic 45, 3) := by decide +kernel
theorem dX8_room_18 : decode cX8_room 18 = .ok (.ifCond .ne 6, 3) := by decide +kernel
theorem dX8_room_21 : decode cX8_room 21 = .ok (.bipush (-2), 2) := by decide +kernel
theorem dX8_room_23 : decode cX8_room 23 = .ok (.ireturn, 1) := by decide +kernel
theorem dX8_room_24 : decode cX8_room 24 = .ok (.aload_n 0, 1) := by decide +kernel
theorem dX8_room_25 : decode cX8_room 25 = .ok (.getfield 9, 3) := by decide +kernel
theorem dX8_room_28 : decode cX8_room 28 = .ok (.bipush 6, 2) := by decide +kernel
theorem dX8_room_30 : decode cX8_room 30 = .ok (.iconst 2, 1) := by decide +kernel
theorem dX8_room_31 : decode cX8_room 31 = .ok (.iload_n 3, 1) := by decide +kernel
theorem dX8_room_32 : decode cX8_room 32 = .ok (.imul, 1) := by decide +kernel
theorem dX8_room_33 : decode cX8_room 33 = .ok (.iadd, 1) := by decide +kernel
theorem dX8_room_34 : decode cX8_room 34 = .ok (.iaload, 1) := by decide +kernel
theorem dX8_room_35 : decode cX8_room 35 = .ok (.aload_n 0, 1) := by decide +kernel
theorem dX8_room_36 : decode cX8_room 36 = .ok (.iload_n 1, 1) := by decide +kernel
theorem dX8_room_37 : decode cX8_room 37 = .ok (.iload_n 2, 1) := by decide +kernel
theorem dX8_room_38 : decode cX8_room 38 = .ok (.iload_n 3, 1) := by decide +kernel
theorem dX8_room_39 : decode cX8_room 39 = .ok (.iconst 0, 1) := by decide +kernel
theorem dX8_room_40 : decode cX8_room 40 = .ok (.iconst (-1), 1) := by decide +kernel
theorem dX8_room_41 : decode cX8_room 41 = .ok (.invokevirtual 86, 3) := by decide +kernel
theorem dX8_room_44 : decode cX8_room 44 = .ok (.isub, 1) := by decide +kernel
theorem dX8_room_45 : decode cX8_room 45 = .ok (.istore 5, 2) := by decide +kernel
theorem dX8_room_47 : decode cX8_room 47 = .ok (.aload_n 0, 1) := by decide +kernel
theorem dX8_room_48 : decode cX8_room 48 = .ok (.getfield 9, 3) := by decide +kernel
theorem dX8_room_51 : decode cX8_room 51 = .ok (.bipush 6, 2) := by decide +kernel
theorem dX8_room_53 : decode cX8_room 53 = .ok (.iconst 2, 1) := by decide +kernel
theorem dX8_room_54 : decode cX8_room 54 = .ok (.iload_n 3, 1) := by decide +kernel
theorem dX8_room_55 : decode cX8_room 55 = .ok (.imul, 1) := by decide +kernel
theorem dX8_room_56 : decode cX8_room 56 = .ok (.iadd, 1) := by decide +kernel
theorem dX8_room_57 : decode cX8_room 57 = .ok (.iconst 1, 1) := by decide +kernel
theorem dX8_room_58 : decode cX8_room 58 = .ok (.iadd, 1) := by decide +kernel
theorem dX8_room_59 : decode cX8_room 59 = .ok (.iaload, 1) := by decide +kernel
theorem dX8_room_60 : decode cX8_room 60 = .ok (.aload_n 0, 1) := by decide +kernel
theorem dX8_room_61 : decode cX8_room 61 = .ok (.iload_n 1, 1) := by decide +kernel
theorem dX8_room_62 : decode cX8_room 62 = .ok (.iload_n 2, 1) := by decide +kernel
theorem dX8_room_63 : decode cX8_room 63 = .ok (.iload_n 3, 1) := by decide +kernel
theorem dX8_room_64 : decode cX8_room 64 = .ok (.iconst 1, 1) := by decide +kernel
theorem dX8_room_65 : decode cX8_room 65 = .ok (.iconst (-1), 1) := by decide +kernel
theorem dX8_room_66 : decode cX8_room 66 = .ok (.invokevirtual 86, 3) := by decide +kernel
theorem dX8_room_69 : decode cX8_room 69 = .ok (.isub, 1) := by decide +kernel
theorem dX8_room_70 : decode cX8_room 70 = .ok (.istore 6, 2) := by decide +kernel
theorem dX8_room_72 : decode cX8_room 72 = .ok (.iconst 0, 1) := by decide +kernel
theorem dX8_room_73 : decode cX8_room 73 = .ok (.iload 4, 2) := by decide +kernel
theorem dX8_room_75 : decode cX8_room 75 = .ok (.ifCond .ne 13, 3) := by decide +kernel
theorem dX8_room_78 : decode cX8_room 78 = .ok (.iload 5, 2) := by decide +kernel
theorem dX8_room_80 : decode cX8_room 80 = .ok (.iload 6, 2) := by decide +kernel
theorem dX8_room_82 : decode cX8_room 82 = .ok (.invokestatic 133, 3) := by decide +kernel
theorem dX8_room_85 : decode cX8_room 85 = .ok (.goto 5, 3) := by decide +kernel
theorem dX8_room_88 : decode cX8_room 88 = .ok (.iload 5, 2) := by decide +kernel
theorem dX8_room_90 : decode cX8_room 90 = .ok (.invokestatic 293, 3) := by decide +kernel
theorem dX8_room_93 : decode cX8_room 93 = .ok (.ireturn, 1) := by decide +kernel
theorem dX8_goodOf_0 : decode cX8_goodOf 0 = .ok (.aload_n 0, 1) := by decide +kernel
theorem dX8_goodOf_1 : decode cX8_goodOf 1 = .ok (.iload_n 1, 1) := by decide +kernel
theorem dX8_goodOf_2 : decode cX8_goodOf 2 = .ok (.bipush 8, 2) := by decide +kernel
theorem dX8_goodOf_4 : decode cX8_goodOf 4 = .ok (.invokevirtual 67, 3) := by decide +kernel
theorem dX8_goodOf_7 : decode cX8_goodOf 7 = .ok (.aload_n 0, 1) := by decide +kernel
theorem dX8_goodOf_8 : decode cX8_goodOf 8 = .ok (.iload_n 1, 1) := by decide +kernel
theorem dX8_goodOf_9 : decode cX8_goodOf 9 = .ok (.bipush 10, 2) := by decide +kernel
theorem dX8_goodOf_11 : decode cX8_goodOf 11 = .ok (.invokevirtual 67, 3) := by decide +kernel
theorem dX8_goodOf_14 : decode cX8_goodOf 14 = .ok (.ior, 1) := by decide +kernel
theorem dX8_goodOf_15 : decode cX8_goodOf 15 = .ok (.invokestatic 296, 3) := by decide +kernel
theorem dX8_goodOf_18 : decode cX8_goodOf 18 = .ok (.ireturn, 1) := by decide +kernel
theorem dX8_use_0 : decode cX8_use 0 = .ok (.aload_n 0, 1) := by decide +kernel
theorem dX8_use_1 : decode cX8_use 1 = .ok (.iload_n 1, 1) := by decide +kernel
theorem dX8_use_2 : decode cX8_use 2 = .ok (.invokevirtual 273, 3) := by decide +kernel
theorem dX8_use_5 : decode cX8_use 5 = .ok (.ifCond .eq 13, 3) := by decide +kernel
theorem dX8_use_8 : decode cX8_use 8 = .ok (.iload_n 2, 1) := by decide +kernel
theorem dX8_use_9 : decode cX8_use 9 = .ok (.i2l, 1) := by decide +kernel
theorem dX8_use_10 : decode cX8_use 10 = .ok (.lconst 0, 1) := by decide +kernel
theorem dX8_use_11 : decode cX8_use 11 = .ok (.lconst 1, 1) := by decide +kernel
theorem dX8_use_12 : decode cX8_use 12 = .ok (.invokestatic 45, 3) := by decide +kernel
theorem dX8_use_15 : decode cX8_use 15 = .ok (.ifCond .ne 6, 3) := by decide +kernel
theorem dX8_use_18 : decode cX8_use 18 = .ok (.bipush (-2), 2) := by decide +kernel
theorem dX8_use_20 : decode cX8_use 20 = .ok (.ireturn, 1) := by decide +kernel
theorem dX8_use_21 : decode cX8_use 21 = .ok (.iload_n 2, 1) := by decide +kernel
theorem dX8_use_22 : decode cX8_use 22 = .ok (.ifCond .ne 14, 3) := by decide +kernel
theorem dX8_use_25 : decode cX8_use 25 = .ok (.aload_n 0, 1) := by decide +kernel
theorem dX8_use_26 : decode cX8_use 26 = .ok (.iload_n 1, 1) := by decide +kernel
theorem dX8_use_27 : decode cX8_use 27 = .ok (.invokevirtual 71, 3) := by decide +kernel
theorem dX8_use_30 : decode cX8_use 30 = .ok (.invokestatic 296, 3) := by decide +kernel
theorem dX8_use_33 : decode cX8_use 33 = .ok (.goto 8, 3) := by decide +kernel
theorem dX8_use_36 : decode cX8_use 36 = .ok (.aload_n 0, 1) := by decide +kernel
theorem dX8_use_37 : decode cX8_use 37 = .ok (.iload_n 1, 1) := by decide +kernel
theorem dX8_use_38 : decode cX8_use 38 = .ok (.invokevirtual 299, 3) := by decide +kernel
theorem dX8_use_41 : decode cX8_use 41 = .ok (.ireturn, 1) := by decide +kernel
theorem dX8_isKept_0 : decode cX8_isKept 0 = .ok (.aload_n 0, 1) := by decide +kernel
theorem dX8_isKept_1 : decode cX8_isKept 1 = .ok (.iload_n 1, 1) := by decide +kernel
theorem dX8_isKept_2 : decode cX8_isKept 2 = .ok (.invokevirtual 71, 3) := by decide +kernel
theorem dX8_isKept_5 : decode cX8_isKept 5 = .ok (.invokestatic 296, 3) := by decide +kernel
theorem dX8_isKept_8 : decode cX8_isKept 8 = .ok (.istore_n 3, 1) := by decide +kernel
theorem dX8_isKept_9 : decode cX8_isKept 9 = .ok (.iload_n 3, 1) := by decide +kernel
theorem dX8_isKept_10 : decode cX8_isKept 10 = .ok (.ifCond .le 22, 3) := by decide +kernel
theorem dX8_isKept_13 : decode cX8_isKept 13 = .ok (.iconst 5, 1) := by decide +kernel
theorem dX8_isKept_14 : decode cX8_isKept 14 = .ok (.aload_n 0, 1) := by decide +kernel
theorem dX8_isKept_15 : decode cX8_isKept 15 = .ok (.iload_n 1, 1) := by decide +kernel
theorem dX8_isKept_16 : decode cX8_isKept 16 = .ok (.invokevirtual 299, 3) := by decide +kernel
theorem dX8_isKept_19 : decode cX8_isKept 19 = .ok (.iload_n 2, 1) := by decide +kernel
theorem dX8_isKept_20 : decode cX8_isKept 20 = .ok (.iadd, 1) := by decide +kernel
theorem dX8_isKept_21 : decode cX8_isKept 21 = .ok (.imul, 1) := by decide +kernel
theorem dX8_isKept_22 : decode cX8_isKept 22 = .ok (.iconst 4, 1) := by decide +kernel
theorem dX8_isKept_23 : decode cX8_isKept 23 = .ok (.iload_n 3, 1) := by decide +kernel
theorem dX8_isKept_24 : decode cX8_isKept 24 = .ok (.imul, 1) := by decide +kernel
theorem dX8_isKept_25 : decode cX8_isKept 25 = .ok (.if_icmp .lt 7, 3) := by decide +kernel
theorem dX8_isKept_28 : decode cX8_isKept 28 = .ok (.iconst 1, 1) := by decide +kernel
theorem dX8_isKept_29 : decode cX8_isKept 29 = .ok (.goto 4, 3) := by decide +kernel
theorem dX8_isKept_32 : decode cX8_isKept 32 = .ok (.iconst 0, 1) := by decide +kernel
theorem dX8_isKept_33 : decode cX8_isKept 33 = .ok (.ireturn, 1) := by decide +kernel
theorem dX8_standsOf_0 : decode cX8_standsOf 0 = .ok (.aload_n 0, 1) := by decide +kernel
theorem dX8_standsOf_1 : decode cX8_standsOf 1 = .ok (.iload_n 1, 1) := by decide +kernel
theorem dX8_standsOf_2 : decode cX8_standsOf 2 = .ok (.iconst 0, 1) := by decide +kernel
theorem dX8_standsOf_3 : decode cX8_standsOf 3 = .ok (.invokevirtual 302, 3) := by decide +kernel
theorem dX8_standsOf_6 : decode cX8_standsOf 6 = .ok (.ifCond .eq 7, 3) := by decide +kernel
theorem dX8_standsOf_9 : decode cX8_standsOf 9 = .ok (.iconst 1, 1) := by decide +kernel
theorem dX8_standsOf_10 : decode cX8_standsOf 10 = .ok (.goto 26, 3) := by decide +kernel
theorem dX8_standsOf_13 : decode cX8_standsOf 13 = .ok (.aload_n 0, 1) := by decide +kernel
theorem dX8_standsOf_14 : decode cX8_standsOf 14 = .ok (.iload_n 1, 1) := by decide +kernel
theorem dX8_standsOf_15 : decode cX8_standsOf 15 = .ok (.aload_n 0, 1) := by decide +kernel
theorem dX8_standsOf_16 : decode cX8_standsOf 16 = .ok (.iload_n 1, 1) := by decide +kernel
theorem dX8_standsOf_17 : decode cX8_standsOf 17 = .ok (.bipush 7, 2) := by decide +kernel
theorem dX8_standsOf_19 : decode cX8_standsOf 19 = .ok (.invokevirtual 67, 3) := by decide +kernel
theorem dX8_standsOf_22 : decode cX8_standsOf 22 = .ok (.invokestatic 296, 3) := by decide +kernel
theorem dX8_standsOf_25 : decode cX8_standsOf 25 = .ok (.invokevirtual 302, 3) := by decide +kernel
theorem dX8_standsOf_28 : decode cX8_standsOf 28 = .ok (.ifCond .eq 7, 3) := by decide +kernel
theorem dX8_standsOf_31 : decode cX8_standsOf 31 = .ok (.iconst 0, 1) := by decide +kernel
theorem dX8_standsOf_32 : decode cX8_standsOf 32 = .ok (.goto 4, 3) := by decide +kernel
theorem dX8_standsOf_35 : decode cX8_standsOf 35 = .ok (.iconst 2, 1) := by decide +kernel
theorem dX8_standsOf_36 : decode cX8_standsOf 36 = .ok (.ireturn, 1) := by decide +kernel
theorem dX8_stands_0 : decode cX8_stands 0 = .ok (.aload_n 0, 1) := by decide +kernel
theorem dX8_stands_1 : decode cX8_stands 1 = .ok (.iload_n 1, 1) := by decide +kernel
theorem dX8_stands_2 : decode cX8_stands 2 = .ok (.invokevirtual 273, 3) := by decide +kernel
theorem dX8_stands_5 : decode cX8_stands 5 = .ok (.ifCond .eq 11, 3) := by decide +kernel
theorem dX8_stands_8 : decode cX8_stands 8 = .ok (.aload_n 0, 1) := by decide +kernel
theorem dX8_stands_9 : decode cX8_stands 9 = .ok (.iload_n 1, 1) := by decide +kernel
theorem dX8_stands_10 : decode cX8_stands 10 = .ok (.invokevirtual 305, 3) := by decide +kernel
theorem dX8_stands_13 : decode cX8_stands 13 = .ok (.goto 5, 3) := by decide +kernel
theorem dX8_stands_16 : decode cX8_stands 16 = .ok (.bipush (-2), 2) := by decide +kernel
theorem dX8_stands_18 : decode cX8_stands 18 = .ok (.ireturn, 1) := by decide +kernel
theorem dX8_spareOf_0 : decode cX8_spareOf 0 = .ok (.aload_n 0, 1) := by decide +kernel
theorem dX8_spareOf_1 : decode cX8_spareOf 1 = .ok (.iload_n 1, 1) := by decide +kernel
theorem dX8_spareOf_2 : decode cX8_spareOf 2 = .ok (.bipush 7, 2) := by decide +kernel
theorem dX8_spareOf_4 : decode cX8_spareOf 4 = .ok (.invokevirtual 67, 3) := by decide +kernel
theorem dX8_spareOf_7 : decode cX8_spareOf 7 = .ok (.invokestatic 296, 3) := by decide +kernel
theorem dX8_spareOf_10 : decode cX8_spareOf 10 = .ok (.istore_n 2, 1) := by decide +kernel
theorem dX8_spareOf_11 : decode cX8_spareOf 11 = .ok (.iload_n 2, 1) := by decide +kernel
theorem dX8_spareOf_12 : decode cX8_spareOf 12 = .ok (.ifCond .lt 29, 3) := by decide +kernel
theorem dX8_spareOf_15 : decode cX8_spareOf 15 = .ok (.aload_n 0, 1) := by decide +kernel
theorem dX8_spareOf_16 : decode cX8_spareOf 16 = .ok (.iload_n 1, 1) := by decide +kernel
theorem dX8_spareOf_17 : decode cX8_spareOf 17 = .ok (.aload_n 0, 1) := by decide +kernel
theorem dX8_spareOf_18 : decode cX8_spareOf 18 = .ok (.iload_n 1, 1) := by decide +kernel
theorem dX8_spareOf_19 : decode cX8_spareOf 19 = .ok (.bipush 7, 2) := by decide +kernel
theorem dX8_spareOf_21 : decode cX8_spareOf 21 = .ok (.invokevirtual 67, 3) := by decide +kernel
theorem dX8_spareOf_24 : decode cX8_spareOf 24 = .ok (.invokestatic 296, 3) := by decide +kernel
theorem dX8_spareOf_27 : decode cX8_spareOf 27 = .ok (.iload_n 2, 1) := by decide +kernel
theorem dX8_spareOf_28 : decode cX8_spareOf 28 = .ok (.isub, 1) := by decide +kernel
theorem dX8_spareOf_29 : decode cX8_spareOf 29 = .ok (.invokevirtual 302, 3) := by decide +kernel
theorem dX8_spareOf_32 : decode cX8_spareOf 32 = .ok (.ifCond .ne 9, 3) := by decide +kernel
theorem dX8_spareOf_35 : decode cX8_spareOf 35 = .ok (.iinc 2 (-1), 3) := by decide +kernel
theorem dX8_spareOf_38 : decode cX8_spareOf 38 = .ok (.goto (-27), 3) := by decide +kernel
theorem dX8_spareOf_41 : decode cX8_spareOf 41 = .ok (.iload_n 2, 1) := by decide +kernel
theorem dX8_spareOf_42 : decode cX8_spareOf 42 = .ok (.ireturn, 1) := by decide +kernel
theorem dX8_spare_0 : decode cX8_spare 0 = .ok (.aload_n 0, 1) := by decide +kernel
theorem dX8_spare_1 : decode cX8_spare 1 = .ok (.iload_n 1, 1) := by decide +kernel
theorem dX8_spare_2 : decode cX8_spare 2 = .ok (.invokevirtual 273, 3) := by decide +kernel
theorem dX8_spare_5 : decode cX8_spare 5 = .ok (.ifCond .eq 11, 3) := by decide +kernel
theorem dX8_spare_8 : decode cX8_spare 8 = .ok (.aload_n 0, 1) := by decide +kernel
theorem dX8_spare_9 : decode cX8_spare 9 = .ok (.iload_n 1, 1) := by decide +kernel
theorem dX8_spare_10 : decode cX8_spare 10 = .ok (.invokevirtual 308, 3) := by decide +kernel
theorem dX8_spare_13 : decode cX8_spare 13 = .ok (.goto 5, 3) := by decide +kernel
theorem dX8_spare_16 : decode cX8_spare 16 = .ok (.bipush (-2), 2) := by decide +kernel
theorem dX8_spare_18 : decode cX8_spare 18 = .ok (.ireturn, 1) := by decide +kernel
theorem dX8_rate_0 : decode cX8_rate 0 = .ok (.aload_n 0, 1) := by decide +kernel
theorem dX8_rate_1 : decode cX8_rate 1 = .ok (.iload_n 1, 1) := by decide +kernel
theorem dX8_rate_2 : decode cX8_rate 2 = .ok (.invokevirtual 273, 3) := by decide +kernel
theorem dX8_rate_5 : decode cX8_rate 5 = .ok (.ifCond .ne 6, 3) := by decide +kernel
theorem dX8_rate_8 : decode cX8_rate 8 = .ok (.bipush (-2), 2) := by decide +kernel
theorem dX8_rate_10 : decode cX8_rate 10 = .ok (.ireturn, 1) := by decide +kernel
theorem dX8_rate_11 : decode cX8_rate 11 = .ok (.aload_n 0, 1) := by decide +kernel
theorem dX8_rate_12 : decode cX8_rate 12 = .ok (.iload_n 1, 1) := by decide +kernel
theorem dX8_rate_13 : decode cX8_rate 13 = .ok (.invokevirtual 71, 3) := by decide +kernel
theorem dX8_rate_16 : decode cX8_rate 16 = .ok (.invokestatic 296, 3) := by decide +kernel
theorem dX8_rate_19 : decode cX8_rate 19 = .ok (.istore_n 2, 1) := by decide +kernel
theorem dX8_rate_20 : decode cX8_rate 20 = .ok (.iload_n 2, 1) := by decide +kernel
theorem dX8_rate_21 : decode cX8_rate 21 = .ok (.ifCond .ne 7, 3) := by decide +kernel
theorem dX8_rate_24 : decode cX8_rate 24 = .ok (.iconst (-1), 1) := by decide +kernel
theorem dX8_rate_25 : decode cX8_rate 25 = .ok (.goto 13, 3) := by decide +kernel
theorem dX8_rate_28 : decode cX8_rate 28 = .ok (.bipush 100, 2) := by decide +kernel
theorem dX8_rate_30 : decode cX8_rate 30 = .ok (.aload_n 0, 1) := by decide +kernel
theorem dX8_rate_31 : decode cX8_rate 31 = .ok (.iload_n 1, 1) := by decide +kernel
theorem dX8_rate_32 : decode cX8_rate 32 = .ok (.invokevirtual 299, 3) := by decide +kernel
theorem dX8_rate_35 : decode cX8_rate 35 = .ok (.imul, 1) := by decide +kernel
theorem dX8_rate_36 : decode cX8_rate 36 = .ok (.iload_n 2, 1) := by decide +kernel
theorem dX8_rate_37 : decode cX8_rate 37 = .ok (.idiv, 1) := by decide +kernel
theorem dX8_rate_38 : decode cX8_rate 38 = .ok (.ireturn, 1) := by decide +kernel
theorem dX8_longest_0 : decode cX8_longest 0 = .ok (.aload_n 0, 1) := by decide +kernel
theorem dX8_longest_1 : decode cX8_longest 1 = .ok (.iload_n 1, 1) := by decide +kernel
theorem dX8_longest_2 : decode cX8_longest 2 = .ok (.invokevirtual 273, 3) := by decide +kernel
theorem dX8_longest_5 : decode cX8_longest 5 = .ok (.ifCond .ne 6, 3) := by decide +kernel
theorem dX8_longest_8 : decode cX8_longest 8 = .ok (.bipush (-2), 2) := by decide +kernel
theorem dX8_longest_10 : decode cX8_longest 10 = .ok (.ireturn, 1) := by decide +kernel
theorem dX8_longest_11 : decode cX8_longest 11 = .ok (.iconst 0, 1) := by decide +kernel
theorem dX8_longest_12 : decode cX8_longest 12 = .ok (.istore_n 2, 1) := by decide +kernel
theorem dX8_longest_13 : decode cX8_longest 13 = .ok (.iconst 0, 1) := by decide +kernel
theorem dX8_longest_14 : decode cX8_longest 14 = .ok (.istore_n 3, 1) := by decide +kernel
theorem dX8_longest_15 : decode cX8_longest 15 = .ok (.iconst 0, 1) := by decide +kernel
theorem dX8_longest_16 : decode cX8_longest 16 = .ok (.istore 4, 2) := by decide +kernel
theorem dX8_longest_18 : decode cX8_longest 18 = .ok (.iload 4, 2) := by decide +kernel
theorem dX8_longest_20 : decode cX8_longest 20 = .ok (.aload_n 0, 1) := by decide +kernel
theorem dX8_longest_21 : decode cX8_longest 21 = .ok (.getfield 9, 3) := by decide +kernel
theorem dX8_longest_24 : decode cX8_longest 24 = .ok (.iconst 0, 1) := by decide +kernel
theorem dX8_longest_25 : decode cX8_longest 25 = .ok (.iaload, 1) := by decide +kernel
theorem dX8_longest_26 : decode cX8_longest 26 = .ok (.if_icmp .ge 38, 3) := by decide +kernel
theorem dX8_longest_29 : decode cX8_longest 29 = .ok (.aload_n 0, 1) := by decide +kernel
theorem dX8_longest_30 : decode cX8_longest 30 = .ok (.iload_n 1, 1) := by decide +kernel
theorem dX8_longest_31 : decode cX8_longest 31 = .ok (.bipush 9, 2) := by decide +kernel
theorem dX8_longest_33 : decode cX8_longest 33 = .ok (.invokevirtual 67, 3) := by decide +kernel
theorem dX8_longest_36 : decode cX8_longest 36 = .ok (.iload 4, 2) := by decide +kernel
theorem dX8_longest_38 : decode cX8_longest 38 = .ok (.invokestatic 75, 3) := by decide +kernel
theorem dX8_longest_41 : decode cX8_longest 41 = .ok (.ifCond .eq 9, 3) := by decide +kernel
theorem dX8_longest_44 : decode cX8_longest 44 = .ok (.iload_n 3, 1) := by decide +kernel
theorem dX8_longest_45 : decode cX8_longest 45 = .ok (.iconst 1, 1) := by decide +kernel
theorem dX8_longest_46 : decode cX8_longest 46 = .ok (.iadd, 1) := by decide +kernel
theorem dX8_longest_47 : decode cX8_longest 47 = .ok (.goto 4, 3) := by decide +kernel
theorem dX8_longest_50 : decode cX8_longest 50 = .ok (.iconst 0, 1) := by decide +kernel
theorem dX8_longest_51 : decode cX8_longest 51 = .ok (.istore_n 3, 1) := by decide +kernel
theorem dX8_longest_52 : decode cX8_longest 52 = .ok (.iload_n 2, 1) := by decide +kernel
theorem dX8_longest_53 : decode cX8_longest 53 = .ok (.iload_n 3, 1) := by decide +kernel
theorem dX8_longest_54 : decode cX8_longest 54 = .ok (.invokestatic 293, 3) := by decide +kernel
theorem dX8_longest_57 : decode cX8_longest 57 = .ok (.istore_n 2, 1) := by decide +kernel
theorem dX8_longest_58 : decode cX8_longest 58 = .ok (.iinc 4 1, 3) := by decide +kernel
theorem dX8_longest_61 : decode cX8_longest 61 = .ok (.goto (-43), 3) := by decide +kernel
theorem dX8_longest_64 : decode cX8_longest 64 = .ok (.iload_n 2, 1) := by decide +kernel
theorem dX8_longest_65 : decode cX8_longest 65 = .ok (.ireturn, 1) := by decide +kernel
theorem dX8_of_0 : decode cX8_of 0 = .ok (.aload_n 0, 1) := by decide +kernel
theorem dX8_of_1 : decode cX8_of 1 = .ok (.iload_n 1, 1) := by decide +kernel
theorem dX8_of_2 : decode cX8_of 2 = .ok (.invokevirtual 265, 3) := by decide +kernel
theorem dX8_of_5 : decode cX8_of 5 = .ok (.ifCond .eq 17, 3) := by decide +kernel
theorem dX8_of_8 : decode cX8_of 8 = .ok (.iload_n 2, 1) := by decide +kernel
theorem dX8_of_9 : decode cX8_of 9 = .ok (.i2l, 1) := by decide +kernel
theorem dX8_of_10 : decode cX8_of 10 = .ok (.ldc2_w 311, 3) := by decide +kernel
theorem dX8_of_13 : decode cX8_of 13 = .ok (.ldc2_w 53, 3) := by decide +kernel
theorem dX8_of_16 : decode cX8_of 16 = .ok (.invokestatic 45, 3) := by decide +kernel
theorem dX8_of_19 : decode cX8_of 19 = .ok (.ifCond .ne 6, 3) := by decide +kernel
theorem dX8_of_22 : decode cX8_of 22 = .ok (.bipush (-2), 2) := by decide +kernel
theorem dX8_of_24 : decode cX8_of 24 = .ok (.ireturn, 1) := by decide +kernel
theorem dX8_of_25 : decode cX8_of 25 = .ok (.iconst 0, 1) := by decide +kernel
theorem dX8_of_26 : decode cX8_of 26 = .ok (.istore_n 3, 1) := by decide +kernel
theorem dX8_of_27 : decode cX8_of 27 = .ok (.iconst 0, 1) := by decide +kernel
theorem dX8_of_28 : decode cX8_of 28 = .ok (.istore 4, 2) := by decide +kernel
theorem dX8_of_30 : decode cX8_of 30 = .ok (.iload 4, 2) := by decide +kernel
theorem dX8_of_32 : decode cX8_of 32 = .ok (.aload_n 0, 1) := by decide +kernel
theorem dX8_of_33 : decode cX8_of 33 = .ok (.getfield 9, 3) := by decide +kernel
theorem dX8_of_36 : decode cX8_of 36 = .ok (.iconst 2, 1) := by decide +kernel
theorem dX8_of_37 : decode cX8_of 37 = .ok (.iaload, 1) := by decide +kernel
theorem dX8_of_38 : decode cX8_of 38 = .ok (.if_icmp .ge 47, 3) := by decide +kernel
theorem dX8_of_41 : decode cX8_of 41 = .ok (.iload_n 3, 1) := by decide +kernel
theorem dX8_of_42 : decode cX8_of 42 = .ok (.aload_n 0, 1) := by decide +kernel
theorem dX8_of_43 : decode cX8_of 43 = .ok (.iload 4, 2) := by decide +kernel
theorem dX8_of_45 : decode cX8_of 45 = .ok (.iconst 0, 1) := by decide +kernel
theorem dX8_of_46 : decode cX8_of 46 = .ok (.invokevirtual 67, 3) := by decide +kernel
theorem dX8_of_49 : decode cX8_of 49 = .ok (.iload_n 1, 1) := by decide +kernel
theorem dX8_of_50 : decode cX8_of 50 = .ok (.if_icmp .ne 26, 3) := by decide +kernel
theorem dX8_of_53 : decode cX8_of 53 = .ok (.iload_n 2, 1) := by decide +kernel
theorem dX8_of_54 : decode cX8_of 54 = .ok (.iconst (-1), 1) := by decide +kernel
theorem dX8_of_55 : decode cX8_of 55 = .ok (.if_icmp .eq 14, 3) := by decide +kernel
theorem dX8_of_58 : decode cX8_of 58 = .ok (.aload_n 0, 1) := by decide +kernel
theorem dX8_of_59 : decode cX8_of 59 = .ok (.iload 4, 2) := by decide +kernel
theorem dX8_of_61 : decode cX8_of 61 = .ok (.iconst 1, 1) := by decide +kernel
theorem dX8_of_62 : decode cX8_of 62 = .ok (.invokevirtual 67, 3) := by decide +kernel
theorem dX8_of_65 : decode cX8_of 65 = .ok (.iload_n 2, 1) := by decide +kernel
theorem dX8_of_66 : decode cX8_of 66 = .ok (.if_icmp .ne 10, 3) := by decide +kernel
theorem dX8_of_69 : decode cX8_of 69 = .ok (.iconst 1, 1) := by decide +kernel
theorem dX8_of_70 : decode cX8_of 70 = .ok (.iload 4, 2) := by decide +kernel
theorem dX8_of_72 : decode cX8_of 72 = .ok (.ishl, 1) := by decide +kernel
theorem dX8_of_73 : decode cX8_of 73 = .ok (.goto 4, 3) := by decide +kernel
theorem dX8_of_76 : decode cX8_of 76 = .ok (.iconst 0, 1) := by decide +kernel
theorem dX8_of_77 : decode cX8_of 77 = .ok (.ior, 1) := by decide +kernel
theorem dX8_of_78 : decode cX8_of 78 = .ok (.istore_n 3, 1) := by decide +kernel
theorem dX8_of_79 : decode cX8_of 79 = .ok (.iinc 4 1, 3) := by decide +kernel
theorem dX8_of_82 : decode cX8_of 82 = .ok (.goto (-52), 3) := by decide +kernel
theorem dX8_of_85 : decode cX8_of 85 = .ok (.iload_n 3, 1) := by decide +kernel
theorem dX8_of_86 : decode cX8_of 86 = .ok (.ireturn, 1) := by decide +kernel
theorem dX8_isEntrant_0 : decode cX8_isEntrant 0 = .ok (.iconst 0, 1) := by decide +kernel
theorem dX8_isEntrant_1 : decode cX8_isEntrant 1 = .ok (.istore_n 3, 1) := by decide +kernel
theorem dX8_isEntrant_2 : decode cX8_isEntrant 2 = .ok (.iconst 0, 1) := by decide +kernel
theorem dX8_isEntrant_3 : decode cX8_isEntrant 3 = .ok (.istore 4, 2) := by decide +kernel
theorem dX8_isEntrant_5 : decode cX8_isEntrant 5 = .ok (.iload 4, 2) := by decide +kernel
theorem dX8_isEntrant_7 : decode cX8_isEntrant 7 = .ok (.aload_n 0, 1) := by decide +kernel
theorem dX8_isEntrant_8 : decode cX8_isEntrant 8 = .ok (.getfield 16, 3) := by decide +kernel
theorem dX8_isEntrant_11 : decode cX8_isEntrant 11 = .ok (.iconst 2, 1) := by decide +kernel
theorem dX8_isEntrant_12 : decode cX8_isEntrant 12 = .ok (.iaload, 1) := by decide +kernel
theorem dX8_isEntrant_13 : decode cX8_isEntrant 13 = .ok (.if_icmp .ge 39, 3) := by decide +kernel
theorem dX8_isEntrant_16 : decode cX8_isEntrant 16 = .ok (.iload_n 3, 1) := by decide +kernel
theorem dX8_isEntrant_17 : decode cX8_isEntrant 17 = .ok (.aload_n 0, 1) := by decide +kernel
theorem dX8_isEntrant_18 : decode cX8_isEntrant 18 = .ok (.iload 4, 2) := by decide +kernel
theorem dX8_isEntrant_20 : decode cX8_isEntrant 20 = .ok (.iconst 0, 1) := by decide +kernel
theorem dX8_isEntrant_21 : decode cX8_isEntrant 21 = .ok (.invokevirtual 67, 3) := by decide +kernel
theorem dX8_isEntrant_24 : decode cX8_isEntrant 24 = .ok (.iload_n 1, 1) := by decide +kernel
theorem dX8_isEntrant_25 : decode cX8_isEntrant 25 = .ok (.if_icmp .ne 18, 3) := by decide +kernel
theorem dX8_isEntrant_28 : decode cX8_isEntrant 28 = .ok (.aload_n 0, 1) := by decide +kernel
theorem dX8_isEntrant_29 : decode cX8_isEntrant 29 = .ok (.iload 4, 2) := by decide +kernel
theorem dX8_isEntrant_31 : decode cX8_isEntrant 31 = .ok (.iconst 1, 1) := by decide +kernel
theorem dX8_isEntrant_32 : decode cX8_isEntrant 32 = .ok (.invokevirtual 67, 3) := by decide +kernel
theorem dX8_isEntrant_35 : decode cX8_isEntrant 35 = .ok (.iload_n 2, 1) := by decide +kernel
theorem dX8_isEntrant_36 : decode cX8_isEntrant 36 = .ok (.if_icmp .ne 7, 3) := by decide +kernel
theorem dX8_isEntrant_39 : decode cX8_isEntrant 39 = .ok (.iconst 1, 1) := by decide +kernel
theorem dX8_isEntrant_40 : decode cX8_isEntrant 40 = .ok (.goto 4, 3) := by decide +kernel
theorem dX8_isEntrant_43 : decode cX8_isEntrant 43 = .ok (.iconst 0, 1) := by decide +kernel
theorem dX8_isEntrant_44 : decode cX8_isEntrant 44 = .ok (.iadd, 1) := by decide +kernel
theorem dX8_isEntrant_45 : decode cX8_isEntrant 45 = .ok (.istore_n 3, 1) := by decide +kernel
theorem dX8_isEntrant_46 : decode cX8_isEntrant 46 = .ok (.iinc 4 1, 3) := by decide +kernel
theorem dX8_isEntrant_49 : decode cX8_isEntrant 49 = .ok (.goto (-44), 3) := by decide +kernel
theorem dX8_isEntrant_52 : decode cX8_isEntrant 52 = .ok (.iload_n 3, 1) := by decide +kernel
theorem dX8_isEntrant_53 : decode cX8_isEntrant 53 = .ok (.iconst 2, 1) := by decide +kernel
theorem dX8_isEntrant_54 : decode cX8_isEntrant 54 = .ok (.if_icmp .ge 7, 3) := by decide +kernel
theorem dX8_isEntrant_57 : decode cX8_isEntrant 57 = .ok (.iconst 1, 1) := by decide +kernel
theorem dX8_isEntrant_58 : decode cX8_isEntrant 58 = .ok (.goto 4, 3) := by decide +kernel
theorem dX8_isEntrant_61 : decode cX8_isEntrant 61 = .ok (.iconst 0, 1) := by decide +kernel
theorem dX8_isEntrant_62 : decode cX8_isEntrant 62 = .ok (.ireturn, 1) := by decide +kernel
theorem dX8_entrant_0 : decode cX8_entrant 0 = .ok (.aload_n 0, 1) := by decide +kernel
theorem dX8_entrant_1 : decode cX8_entrant 1 = .ok (.iload_n 1, 1) := by decide +kernel
theorem dX8_entrant_2 : decode cX8_entrant 2 = .ok (.invokevirtual 265, 3) := by decide +kernel
theorem dX8_entrant_5 : decode cX8_entrant 5 = .ok (.ifCond .eq 11, 3) := by decide +kernel
theorem dX8_entrant_8 : decode cX8_entrant 8 = .ok (.aload_n 0, 1) := by decide +kernel
theorem dX8_entrant_9 : decode cX8_entrant 9 = .ok (.iload_n 2, 1) := by decide +kernel
theorem dX8_entrant_10 : decode cX8_entrant 10 = .ok (.invokevirtual 61, 3) := by decide +kernel
theorem dX8_entrant_13 : decode cX8_entrant 13 = .ok (.ifCond .ne 6, 3) := by decide +kernel
theorem dX8_entrant_16 : decode cX8_entrant 16 = .ok (.bipush (-2), 2) := by decide +kernel
theorem dX8_entrant_18 : decode cX8_entrant 18 = .ok (.ireturn, 1) := by decide +kernel
theorem dX8_entrant_19 : decode cX8_entrant 19 = .ok (.aload_n 0, 1) := by decide +kernel
theorem dX8_entrant_20 : decode cX8_entrant 20 = .ok (.iload_n 1, 1) := by decide +kernel
theorem dX8_entrant_21 : decode cX8_entrant 21 = .ok (.iload_n 2, 1) := by decide +kernel
theorem dX8_entrant_22 : decode cX8_entrant 22 = .ok (.invokevirtual 313, 3) := by decide +kernel
theorem dX8_entrant_25 : decode cX8_entrant 25 = .ok (.ifCond .eq 7, 3) := by decide +kernel
theorem dX8_entrant_28 : decode cX8_entrant 28 = .ok (.iconst 1, 1) := by decide +kernel
theorem dX8_entrant_29 : decode cX8_entrant 29 = .ok (.goto 4, 3) := by decide +kernel
theorem dX8_entrant_32 : decode cX8_entrant 32 = .ok (.iconst 0, 1) := by decide +kernel
theorem dX8_entrant_33 : decode cX8_entrant 33 = .ok (.ireturn, 1) := by decide +kernel
theorem dX8_sum_0 : decode cX8_sum 0 = .ok (.aload_n 0, 1) := by decide +kernel
theorem dX8_sum_1 : decode cX8_sum 1 = .ok (.iload_n 1, 1) := by decide +kernel
theorem dX8_sum_2 : decode cX8_sum 2 = .ok (.invokevirtual 265, 3) := by decide +kernel
theorem dX8_sum_5 : decode cX8_sum 5 = .ok (.ifCond .eq 15, 3) := by decide +kernel
theorem dX8_sum_8 : decode cX8_sum 8 = .ok (.iload_n 2, 1) := by decide +kernel
theorem dX8_sum_9 : decode cX8_sum 9 = .ok (.i2l, 1) := by decide +kernel
theorem dX8_sum_10 : decode cX8_sum 10 = .ok (.lconst 0, 1) := by decide +kernel
theorem dX8_sum_11 : decode cX8_sum 11 = .ok (.ldc2_w 276, 3) := by decide +kernel
theorem dX8_sum_14 : decode cX8_sum 14 = .ok (.invokestatic 45, 3) := by decide +kernel
theorem dX8_sum_17 : decode cX8_sum 17 = .ok (.ifCond .ne 6, 3) := by decide +kernel
theorem dX8_sum_20 : decode cX8_sum 20 = .ok (.bipush (-2), 2) := by decide +kernel
theorem dX8_sum_22 : decode cX8_sum 22 = .ok (.ireturn, 1) := by decide +kernel
theorem dX8_sum_23 : decode cX8_sum 23 = .ok (.iconst 0, 1) := by decide +kernel
theorem dX8_sum_24 : decode cX8_sum 24 = .ok (.istore_n 3, 1) := by decide +kernel
theorem dX8_sum_25 : decode cX8_sum 25 = .ok (.iconst 0, 1) := by decide +kernel
theorem dX8_sum_26 : decode cX8_sum 26 = .ok (.istore 4, 2) := by decide +kernel
theorem dX8_sum_28 : decode cX8_sum 28 = .ok (.iload 4, 2) := by decide +kernel
theorem dX8_sum_30 : decode cX8_sum 30 = .ok (.aload_n 0, 1) := by decide +kernel
theorem dX8_sum_31 : decode cX8_sum 31 = .ok (.getfield 9, 3) := by decide +kernel
theorem dX8_sum_34 : decode cX8_sum 34 = .ok (.iconst 2, 1) := by decide +kernel
theorem dX8_sum_35 : decode cX8_sum 35 = .ok (.iaload, 1) := by decide +kernel
theorem dX8_sum_36 : decode cX8_sum 36 = .ok (.if_icmp .ge 40, 3) := by decide +kernel
theorem dX8_sum_39 : decode cX8_sum 39 = .ok (.iload_n 3, 1) := by decide +kernel
theorem dX8_sum_40 : decode cX8_sum 40 = .ok (.aload_n 0, 1) := by decide +kernel
theorem dX8_sum_41 : decode cX8_sum 41 = .ok (.iload 4, 2) := by decide +kernel
theorem dX8_sum_43 : decode cX8_sum 43 = .ok (.iconst 0, 1) := by decide +kernel
theorem dX8_sum_44 : decode cX8_sum 44 = .ok (.invokevirtual 67, 3) := by decide +kernel
theorem dX8_sum_47 : decode cX8_sum 47 = .ok (.iload_n 1, 1) := by decide +kernel
theorem dX8_sum_48 : decode cX8_sum 48 = .ok (.if_icmp .ne 19, 3) := by decide +kernel
theorem dX8_sum_51 : decode cX8_sum 51 = .ok (.aload_n 0, 1) := by decide +kernel
theorem dX8_sum_52 : decode cX8_sum 52 = .ok (.iload 4, 2) := by decide +kernel
theorem dX8_sum_54 : decode cX8_sum 54 = .ok (.bipush 7, 2) := by decide +kernel
theorem dX8_sum_56 : decode cX8_sum 56 = .ok (.iload_n 2, 1) := by decide +kernel
theorem dX8_sum_57 : decode cX8_sum 57 = .ok (.iadd, 1) := by decide +kernel
theorem dX8_sum_58 : decode cX8_sum 58 = .ok (.invokevirtual 67, 3) := by decide +kernel
theorem dX8_sum_61 : decode cX8_sum 61 = .ok (.invokestatic 296, 3) := by decide +kernel
theorem dX8_sum_64 : decode cX8_sum 64 = .ok (.goto 4, 3) := by decide +kernel
theorem dX8_sum_67 : decode cX8_sum 67 = .ok (.iconst 0, 1) := by decide +kernel
theorem dX8_sum_68 : decode cX8_sum 68 = .ok (.iadd, 1) := by decide +kernel
theorem dX8_sum_69 : decode cX8_sum 69 = .ok (.istore_n 3, 1) := by decide +kernel
theorem dX8_sum_70 : decode cX8_sum 70 = .ok (.iinc 4 1, 3) := by decide +kernel
theorem dX8_sum_73 : decode cX8_sum 73 = .ok (.goto (-45), 3) := by decide +kernel
theorem dX8_sum_76 : decode cX8_sum 76 = .ok (.iload_n 3, 1) := by decide +kernel
theorem dX8_sum_77 : decode cX8_sum 77 = .ok (.ireturn, 1) := by decide +kernel
theorem dX8_allOf_0 : decode cX8_allOf 0 = .ok (.iconst 0, 1) := by decide +kernel
theorem dX8_allOf_1 : decode cX8_allOf 1 = .ok (.istore_n 3, 1) := by decide +kernel
theorem dX8_allOf_2 : decode cX8_allOf 2 = .ok (.iconst 0, 1) := by decide +kernel
theorem dX8_allOf_3 : decode cX8_allOf 3 = .ok (.istore 4, 2) := by decide +kernel
theorem dX8_allOf_5 : decode cX8_allOf 5 = .ok (.iload 4, 2) := by decide +kernel
theorem dX8_allOf_7 : decode cX8_allOf 7 = .ok (.aload_n 0, 1) := by decide +kernel
theorem dX8_allOf_8 : decode cX8_allOf 8 = .ok (.getfield 9, 3) := by decide +kernel
theorem dX8_allOf_11 : decode cX8_allOf 11 = .ok (.iconst 2, 1) := by decide +kernel
theorem dX8_allOf_12 : decode cX8_allOf 12 = .ok (.iaload, 1) := by decide +kernel
theorem dX8_allOf_13 : decode cX8_allOf 13 = .ok (.if_icmp .ge 49, 3) := by decide +kernel
theorem dX8_allOf_16 : decode cX8_allOf 16 = .ok (.iload_n 3, 1) := by decide +kernel
theorem dX8_allOf_17 : decode cX8_allOf 17 = .ok (.aload_n 0, 1) := by decide +kernel
theorem dX8_allOf_18 : decode cX8_allOf 18 = .ok (.iload 4, 2) := by decide +kernel
theorem dX8_allOf_20 : decode cX8_allOf 20 = .ok (.iconst 0, 1) := by decide +kernel
theorem dX8_allOf_21 : decode cX8_allOf 21 = .ok (.invokevirtual 67, 3) := by decide +kernel
theorem dX8_allOf_24 : decode cX8_allOf 24 = .ok (.iload_n 1, 1) := by decide +kernel
theorem dX8_allOf_25 : decode cX8_allOf 25 = .ok (.if_icmp .eq 7, 3) := by decide +kernel
theorem dX8_allOf_28 : decode cX8_allOf 28 = .ok (.iconst 0, 1) := by decide +kernel
theorem dX8_allOf_29 : decode cX8_allOf 29 = .ok (.goto 25, 3) := by decide +kernel
theorem dX8_allOf_32 : decode cX8_allOf 32 = .ok (.iload_n 2, 1) := by decide +kernel
theorem dX8_allOf_33 : decode cX8_allOf 33 = .ok (.ifCond .eq 15, 3) := by decide +kernel
theorem dX8_allOf_36 : decode cX8_allOf 36 = .ok (.aload_n 0, 1) := by decide +kernel
theorem dX8_allOf_37 : decode cX8_allOf 37 = .ok (.iload 4, 2) := by decide +kernel
theorem dX8_allOf_39 : decode cX8_allOf 39 = .ok (.invokevirtual 71, 3) := by decide +kernel
theorem dX8_allOf_42 : decode cX8_allOf 42 = .ok (.invokestatic 296, 3) := by decide +kernel
theorem dX8_allOf_45 : decode cX8_allOf 45 = .ok (.goto 9, 3) := by decide +kernel
theorem dX8_allOf_48 : decode cX8_allOf 48 = .ok (.aload_n 0, 1) := by decide +kernel
theorem dX8_allOf_49 : decode cX8_allOf 49 = .ok (.iload 4, 2) := by decide +kernel
theorem dX8_allOf_51 : decode cX8_allOf 51 = .ok (.invokevirtual 299, 3) := by decide +kernel
theorem dX8_allOf_54 : decode cX8_allOf 54 = .ok (.iadd, 1) := by decide +kernel
theorem dX8_allOf_55 : decode cX8_allOf 55 = .ok (.istore_n 3, 1) := by decide +kernel
theorem dX8_allOf_56 : decode cX8_allOf 56 = .ok (.iinc 4 1, 3) := by decide +kernel
theorem dX8_allOf_59 : decode cX8_allOf 59 = .ok (.goto (-54), 3) := by decide +kernel
theorem dX8_allOf_62 : decode cX8_allOf 62 = .ok (.iload_n 3, 1) := by decide +kernel
theorem dX8_allOf_63 : decode cX8_allOf 63 = .ok (.ireturn, 1) := by decide +kernel
theorem dX8_isBetter_0 : decode cX8_isBetter 0 = .ok (.aload_n 0, 1) := by decide +kernel
theorem dX8_isBetter_1 : decode cX8_isBetter 1 = .ok (.iload_n 1, 1) := by decide +kernel
theorem dX8_isBetter_2 : decode cX8_isBetter 2 = .ok (.iconst 1, 1) := by decide +kernel
theorem dX8_isBetter_3 : decode cX8_isBetter 3 = .ok (.invokevirtual 316, 3) := by decide +kernel
theorem dX8_isBetter_6 : decode cX8_isBetter 6 = .ok (.istore_n 3, 1) := by decide +kernel
theorem dX8_isBetter_7 : decode cX8_isBetter 7 = .ok (.aload_n 0, 1) := by decide +kernel
theorem dX8_isBetter_8 : decode cX8_isBetter 8 = .ok (.iload_n 2, 1) := by decide +kernel
theorem dX8_isBetter_9 : decode cX8_isBetter 9 = .ok (.iconst 1, 1) := by decide +kernel
theorem dX8_isBetter_10 : decode cX8_isBetter 10 = .ok (.invokevirtual 316, 3) := by decide +kernel
theorem dX8_isBetter_13 : decode cX8_isBetter 13 = .ok (.istore 4, 2) := by decide +kernel
theorem dX8_isBetter_15 : decode cX8_isBetter 15 = .ok (.iload_n 3, 1) := by decide +kernel
theorem dX8_isBetter_16 : decode cX8_isBetter 16 = .ok (.ifCond .eq 8, 3) := by decide +kernel
theorem dX8_isBetter_19 : decode cX8_isBetter 19 = .ok (.iload 4, 2) := by decide +kernel
theorem dX8_isBetter_21 : decode cX8_isBetter 21 = .ok (.ifCond .ne 23, 3) := by decide +kernel
theorem dX8_isBetter_24 : decode cX8_isBetter 24 = .ok (.iload_n 3, 1) := by decide +kernel
theorem dX8_isBetter_25 : decode cX8_isBetter 25 = .ok (.ifCond .gt 13, 3) := by decide +kernel
theorem dX8_isBetter_28 : decode cX8_isBetter 28 = .ok (.iload 4, 2) := by decide +kernel
theorem dX8_isBetter_30 : decode cX8_isBetter 30 = .ok (.ifCond .ne 12, 3) := by decide +kernel
theorem dX8_isBetter_33 : decode cX8_isBetter 33 = .ok (.iload_n 1, 1) := by decide +kernel
theorem dX8_isBetter_34 : decode cX8_isBetter 34 = .ok (.iload_n 2, 1) := by decide +kernel
theorem dX8_isBetter_35 : decode cX8_isBetter 35 = .ok (.if_icmp .ge 7, 3) := by decide +kernel
theorem dX8_isBetter_38 : decode cX8_isBetter 38 = .ok (.iconst 1, 1) := by decide +kernel
theorem dX8_isBetter_39 : decode cX8_isBetter 39 = .ok (.goto 4, 3) := by decide +kernel
theorem dX8_isBetter_42 : decode cX8_isBetter 42 = .ok (.iconst 0, 1) := by decide +kernel
theorem dX8_isBetter_43 : decode cX8_isBetter 43 = .ok (.ireturn, 1) := by decide +kernel
theorem dX8_isBetter_44 : decode cX8_isBetter 44 = .ok (.aload_n 0, 1) := by decide +kernel
theorem dX8_isBetter_45 : decode cX8_isBetter 45 = .ok (.iload_n 1, 1) := by decide +kernel
theorem dX8_isBetter_46 : decode cX8_isBetter 46 = .ok (.iconst 0, 1) := by decide +kernel
theorem dX8_isBetter_47 : decode cX8_isBetter 47 = .ok (.invokevirtual 316, 3) := by decide +kernel
theorem dX8_isBetter_50 : decode cX8_isBetter 50 = .ok (.iload 4, 2) := by decide +kernel
theorem dX8_isBetter_52 : decode cX8_isBetter 52 = .ok (.imul, 1) := by decide +kernel
theorem dX8_isBetter_53 : decode cX8_isBetter 53 = .ok (.aload_n 0, 1) := by decide +kernel
theorem dX8_isBetter_54 : decode cX8_isBetter 54 = .ok (.iload_n 2, 1) := by decide +kernel
theorem dX8_isBetter_55 : decode cX8_isBetter 55 = .ok (.iconst 0, 1) := by decide +kernel
theorem dX8_isBetter_56 : decode cX8_isBetter 56 = .ok (.invokevirtual 316, 3) := by decide +kernel
theorem dX8_isBetter_59 : decode cX8_isBetter 59 = .ok (.iload_n 3, 1) := by decide +kernel
theorem dX8_isBetter_60 : decode cX8_isBetter 60 = .ok (.imul, 1) := by decide +kernel
theorem dX8_isBetter_61 : decode cX8_isBetter 61 = .ok (.isub, 1) := by decide +kernel
theorem dX8_isBetter_62 : decode cX8_isBetter 62 = .ok (.istore 5, 2) := by decide +kernel
theorem dX8_isBetter_64 : decode cX8_isBetter 64 = .ok (.iload 5, 2) := by decide +kernel
theorem dX8_isBetter_66 : decode cX8_isBetter 66 = .ok (.ifCond .gt 13, 3) := by decide +kernel
theorem dX8_isBetter_69 : decode cX8_isBetter 69 = .ok (.iload 5, 2) := by decide +kernel
theorem dX8_isBetter_71 : decode cX8_isBetter 71 = .ok (.ifCond .ne 12, 3) := by decide +kernel
theorem dX8_isBetter_74 : decode cX8_isBetter 74 = .ok (.iload_n 1, 1) := by decide +kernel
theorem dX8_isBetter_75 : decode cX8_isBetter 75 = .ok (.iload_n 2, 1) := by decide +kernel
theorem dX8_isBetter_76 : decode cX8_isBetter 76 = .ok (.if_icmp .ge 7, 3) := by decide +kernel
theorem dX8_isBetter_79 : decode cX8_isBetter 79 = .ok (.iconst 1, 1) := by decide +kernel
theorem dX8_isBetter_80 : decode cX8_isBetter 80 = .ok (.goto 4, 3) := by decide +kernel
theorem dX8_isBetter_83 : decode cX8_isBetter 83 = .ok (.iconst 0, 1) := by decide +kernel
theorem dX8_isBetter_84 : decode cX8_isBetter 84 = .ok (.ireturn, 1) := by decide +kernel
theorem dX8_best_0 : decode cX8_best 0 = .ok (.aload_n 0, 1) := by decide +kernel
theorem dX8_best_1 : decode cX8_best 1 = .ok (.invokevirtual 49, 3) := by decide +kernel
theorem dX8_best_4 : decode cX8_best 4 = .ok (.ifCond .eq 7, 3) := by decide +kernel
theorem dX8_best_7 : decode cX8_best 7 = .ok (.iload_n 1, 1) := by decide +kernel
theorem dX8_best_8 : decode cX8_best 8 = .ok (.ifCond .ge 6, 3) := by decide +kernel
theorem dX8_best_11 : decode cX8_best 11 = .ok (.bipush (-2), 2) := by decide +kernel
theorem dX8_best_13 : decode cX8_best 13 = .ok (.ireturn, 1) := by decide +kernel
theorem dX8_best_14 : decode cX8_best 14 = .ok (.iconst 0, 1) := by decide +kernel
theorem dX8_best_15 : decode cX8_best 15 = .ok (.istore_n 2, 1) := by decide +kernel
theorem dX8_best_16 : decode cX8_best 16 = .ok (.iload_n 2, 1) := by decide +kernel
theorem dX8_best_17 : decode cX8_best 17 = .ok (.aload_n 0, 1) := by decide +kernel
theorem dX8_best_18 : decode cX8_best 18 = .ok (.getfield 9, 3) := by decide +kernel
theorem dX8_best_21 : decode cX8_best 21 = .ok (.iconst 1, 1) := by decide +kernel
theorem dX8_best_22 : decode cX8_best 22 = .ok (.iaload, 1) := by decide +kernel
theorem dX8_best_23 : decode cX8_best 23 = .ok (.if_icmp .ge 62, 3) := by decide +kernel
theorem dX8_best_26 : decode cX8_best 26 = .ok (.iconst 0, 1) := by decide +kernel
theorem dX8_best_27 : decode cX8_best 27 = .ok (.istore_n 3, 1) := by decide +kernel
theorem dX8_best_28 : decode cX8_best 28 = .ok (.iconst 0, 1) := by decide +kernel
theorem dX8_best_29 : decode cX8_best 29 = .ok (.istore 4, 2) := by decide +kernel
theorem dX8_best_31 : decode cX8_best 31 = .ok (.iload 4, 2) := by decide +kernel
theorem dX8_best_33 : decode cX8_best 33 = .ok (.aload_n 0, 1) := by decide +kernel
theorem dX8_best_34 : decode cX8_best 34 = .ok (.getfield 9, 3) := by decide +kernel
theorem dX8_best_37 : decode cX8_best 37 = .ok (.iconst 1, 1) := by decide +kernel
theorem dX8_best_38 : decode cX8_best 38 = .ok (.iaload, 1) := by decide +kernel
theorem dX8_best_39 : decode cX8_best 39 = .ok (.if_icmp .ge 33, 3) := by decide +kernel
theorem dX8_best_42 : decode cX8_best 42 = .ok (.iload_n 3, 1) := by decide +kernel
theorem dX8_best_43 : decode cX8_best 43 = .ok (.iload 4, 2) := by decide +kernel
theorem dX8_best_45 : decode cX8_best 45 = .ok (.iload_n 2, 1) := by decide +kernel
theorem dX8_best_46 : decode cX8_best 46 = .ok (.if_icmp .eq 17, 3) := by decide +kernel
theorem dX8_best_49 : decode cX8_best 49 = .ok (.aload_n 0, 1) := by decide +kernel
theorem dX8_best_50 : decode cX8_best 50 = .ok (.iload 4, 2) := by decide +kernel
theorem dX8_best_52 : decode cX8_best 52 = .ok (.iload_n 2, 1) := by decide +kernel
theorem dX8_best_53 : decode cX8_best 53 = .ok (.invokevirtual 320, 3) := by decide +kernel
theorem dX8_best_56 : decode cX8_best 56 = .ok (.ifCond .eq 7, 3) := by decide +kernel
theorem dX8_best_59 : decode cX8_best 59 = .ok (.iconst 1, 1) := by decide +kernel
theorem dX8_best_60 : decode cX8_best 60 = .ok (.goto 4, 3) := by decide +kernel
theorem dX8_best_63 : decode cX8_best 63 = .ok (.iconst 0, 1) := by decide +kernel
theorem dX8_best_64 : decode cX8_best 64 = .ok (.iadd, 1) := by decide +kernel
theorem dX8_best_65 : decode cX8_best 65 = .ok (.istore_n 3, 1) := by decide +kernel
theorem dX8_best_66 : decode cX8_best 66 = .ok (.iinc 4 1, 3) := by decide +kernel
theorem dX8_best_69 : decode cX8_best 69 = .ok (.goto (-38), 3) := by decide +kernel
theorem dX8_best_72 : decode cX8_best 72 = .ok (.iload_n 3, 1) := by decide +kernel
theorem dX8_best_73 : decode cX8_best 73 = .ok (.iload_n 1, 1) := by decide +kernel
theorem dX8_best_74 : decode cX8_best 74 = .ok (.if_icmp .ne 5, 3) := by decide +kernel
theorem dX8_best_77 : decode cX8_best 77 = .ok (.iload_n 2, 1) := by decide +kernel
theorem dX8_best_78 : decode cX8_best 78 = .ok (.ireturn, 1) := by decide +kernel
theorem dX8_best_79 : decode cX8_best 79 = .ok (.iinc 2 1, 3) := by decide +kernel
theorem dX8_best_82 : decode cX8_best 82 = .ok (.goto (-66), 3) := by decide +kernel
theorem dX8_best_85 : decode cX8_best 85 = .ok (.iconst (-1), 1) := by decide +kernel
theorem dX8_best_86 : decode cX8_best 86 = .ok (.ireturn, 1) := by decide +kernel
theorem dX8_basisOn_0 : decode cX8_basisOn 0 = .ok (.iconst 0, 1) := by decide +kernel
theorem dX8_basisOn_1 : decode cX8_basisOn 1 = .ok (.istore_n 3, 1) := by decide +kernel
theorem dX8_basisOn_2 : decode cX8_basisOn 2 = .ok (.iconst 0, 1) := by decide +kernel
theorem dX8_basisOn_3 : decode cX8_basisOn 3 = .ok (.istore 4, 2) := by decide +kernel
theorem dX8_basisOn_5 : decode cX8_basisOn 5 = .ok (.iload 4, 2) := by decide +kernel
theorem dX8_basisOn_7 : decode cX8_basisOn 7 = .ok (.aload_n 0, 1) := by decide +kernel
theorem dX8_basisOn_8 : decode cX8_basisOn 8 = .ok (.getfield 9, 3) := by decide +kernel
theorem dX8_basisOn_11 : decode cX8_basisOn 11 = .ok (.iconst 2, 1) := by decide +kernel
theorem dX8_basisOn_12 : decode cX8_basisOn 12 = .ok (.iaload, 1) := by decide +kernel
theorem dX8_basisOn_13 : decode cX8_basisOn 13 = .ok (.if_icmp .ge 47, 3) := by decide +kernel
theorem dX8_basisOn_16 : decode cX8_basisOn 16 = .ok (.iload_n 3, 1) := by decide +kernel
theorem dX8_basisOn_17 : decode cX8_basisOn 17 = .ok (.aload_n 0, 1) := by decide +kernel
theorem dX8_basisOn_18 : decode cX8_basisOn 18 = .ok (.iload 4, 2) := by decide +kernel
theorem dX8_basisOn_20 : decode cX8_basisOn 20 = .ok (.iconst 0, 1) := by decide +kernel
theorem dX8_basisOn_21 : decode cX8_basisOn 21 = .ok (.invokevirtual 67, 3) := by decide +kernel
theorem dX8_basisOn_24 : decode cX8_basisOn 24 = .ok (.iload_n 1, 1) := by decide +kernel
theorem dX8_basisOn_25 : decode cX8_basisOn 25 = .ok (.if_icmp .ne 26, 3) := by decide +kernel
theorem dX8_basisOn_28 : decode cX8_basisOn 28 = .ok (.aload_n 0, 1) := by decide +kernel
theorem dX8_basisOn_29 : decode cX8_basisOn 29 = .ok (.iload 4, 2) := by decide +kernel
theorem dX8_basisOn_31 : decode cX8_basisOn 31 = .ok (.iconst 1, 1) := by decide +kernel
theorem dX8_basisOn_32 : decode cX8_basisOn 32 = .ok (.invokevirtual 67, 3) := by decide +kernel
theorem dX8_basisOn_35 : decode cX8_basisOn 35 = .ok (.iload_n 2, 1) := by decide +kernel
theorem dX8_basisOn_36 : decode cX8_basisOn 36 = .ok (.if_icmp .ne 15, 3) := by decide +kernel
theorem dX8_basisOn_39 : decode cX8_basisOn 39 = .ok (.aload_n 0, 1) := by decide +kernel
theorem dX8_basisOn_40 : decode cX8_basisOn 40 = .ok (.iload 4, 2) := by decide +kernel
theorem dX8_basisOn_42 : decode cX8_basisOn 42 = .ok (.invokevirtual 71, 3) := by decide +kernel
theorem dX8_basisOn_45 : decode cX8_basisOn 45 = .ok (.invokestatic 296, 3) := by decide +kernel
theorem dX8_basisOn_48 : decode cX8_basisOn 48 = .ok (.goto 4, 3) := by decide +kernel
theorem dX8_basisOn_51 : decode cX8_basisOn 51 = .ok (.iconst 0, 1) := by decide +kernel
theorem dX8_basisOn_52 : decode cX8_basisOn 52 = .ok (.iadd, 1) := by decide +kernel
theorem dX8_basisOn_53 : decode cX8_basisOn 53 = .ok (.istore_n 3, 1) := by decide +kernel
theorem dX8_basisOn_54 : decode cX8_basisOn 54 = .ok (.iinc 4 1, 3) := by decide +kernel
theorem dX8_basisOn_57 : decode cX8_basisOn 57 = .ok (.goto (-52), 3) := by decide +kernel
theorem dX8_basisOn_60 : decode cX8_basisOn 60 = .ok (.iload_n 3, 1) := by decide +kernel
theorem dX8_basisOn_61 : decode cX8_basisOn 61 = .ok (.ireturn, 1) := by decide +kernel
theorem dX8_most_0 : decode cX8_most 0 = .ok (.aload_n 0, 1) := by decide +kernel
theorem dX8_most_1 : decode cX8_most 1 = .ok (.iload_n 1, 1) := by decide +kernel
theorem dX8_most_2 : decode cX8_most 2 = .ok (.invokevirtual 61, 3) := by decide +kernel
theorem dX8_most_5 : decode cX8_most 5 = .ok (.ifCond .eq 7, 3) := by decide +kernel
theorem dX8_most_8 : decode cX8_most 8 = .ok (.iload_n 2, 1) := by decide +kernel
theorem dX8_most_9 : decode cX8_most 9 = .ok (.ifCond .ge 6, 3) := by decide +kernel
theorem dX8_most_12 : decode cX8_most 12 = .ok (.bipush (-2), 2) := by decide +kernel
theorem dX8_most_14 : decode cX8_most 14 = .ok (.ireturn, 1) := by decide +kernel
theorem dX8_most_15 : decode cX8_most 15 = .ok (.iconst 0, 1) := by decide +kernel
theorem dX8_most_16 : decode cX8_most 16 = .ok (.istore_n 3, 1) := by decide +kernel
theorem dX8_most_17 : decode cX8_most 17 = .ok (.iload_n 3, 1) := by decide +kernel
theorem dX8_most_18 : decode cX8_most 18 = .ok (.aload_n 0, 1) := by decide +kernel
theorem dX8_most_19 : decode cX8_most 19 = .ok (.getfield 9, 3) := by decide +kernel
theorem dX8_most_22 : decode cX8_most 22 = .ok (.iconst 1, 1) := by decide +kernel
theorem dX8_most_23 : decode cX8_most 23 = .ok (.iaload, 1) := by decide +kernel
theorem dX8_most_24 : decode cX8_most 24 = .ok (.if_icmp .ge 88, 3) := by decide +kernel
theorem dX8_most_27 : decode cX8_most 27 = .ok (.iconst 0, 1) := by decide +kernel
theorem dX8_most_28 : decode cX8_most 28 = .ok (.istore 4, 2) := by decide +kernel
theorem dX8_most_30 : decode cX8_most 30 = .ok (.iconst 0, 1) := by decide +kernel
theorem dX8_most_31 : decode cX8_most 31 = .ok (.istore 5, 2) := by decide +kernel
theorem dX8_most_33 : decode cX8_most 33 = .ok (.iload 5, 2) := by decide +kernel
theorem dX8_most_35 : decode cX8_most 35 = .ok (.aload_n 0, 1) := by decide +kernel
theorem dX8_most_36 : decode cX8_most 36 = .ok (.getfield 9, 3) := by decide +kernel
theorem dX8_most_39 : decode cX8_most 39 = .ok (.iconst 1, 1) := by decide +kernel
theorem dX8_most_40 : decode cX8_most 40 = .ok (.iaload, 1) := by decide +kernel
theorem dX8_most_41 : decode cX8_most 41 = .ok (.if_icmp .ge 57, 3) := by decide +kernel
theorem dX8_most_44 : decode cX8_most 44 = .ok (.iload 4, 2) := by decide +kernel
theorem dX8_most_46 : decode cX8_most 46 = .ok (.aload_n 0, 1) := by decide +kernel
theorem dX8_most_47 : decode cX8_most 47 = .ok (.iload 5, 2) := by decide +kernel
theorem dX8_most_49 : decode cX8_most 49 = .ok (.iload_n 1, 1) := by decide +kernel
theorem dX8_most_50 : decode cX8_most 50 = .ok (.invokevirtual 323, 3) := by decide +kernel
theorem dX8_most_53 : decode cX8_most 53 = .ok (.aload_n 0, 1) := by decide +kernel
theorem dX8_most_54 : decode cX8_most 54 = .ok (.iload_n 3, 1) := by decide +kernel
theorem dX8_most_55 : decode cX8_most 55 = .ok (.iload_n 1, 1) := by decide +kernel
theorem dX8_most_56 : decode cX8_most 56 = .ok (.invokevirtual 323, 3) := by decide +kernel
theorem dX8_most_59 : decode cX8_most 59 = .ok (.if_icmp .gt 25, 3) := by decide +kernel
theorem dX8_most_62 : decode cX8_most 62 = .ok (.aload_n 0, 1) := by decide +kernel
theorem dX8_most_63 : decode cX8_most 63 = .ok (.iload 5, 2) := by decide +kernel
theorem dX8_most_65 : decode cX8_most 65 = .ok (.iload_n 1, 1) := by decide +kernel
theorem dX8_most_66 : decode cX8_most 66 = .ok (.invokevirtual 323, 3) := by decide +kernel
theorem dX8_most_69 : decode cX8_most 69 = .ok (.aload_n 0, 1) := by decide +kernel
theorem dX8_most_70 : decode cX8_most 70 = .ok (.iload_n 3, 1) := by decide +kernel
theorem dX8_most_71 : decode cX8_most 71 = .ok (.iload_n 1, 1) := by decide +kernel
theorem dX8_most_72 : decode cX8_most 72 = .ok (.invokevirtual 323, 3) := by decide +kernel
theorem dX8_most_75 : decode cX8_most 75 = .ok (.if_icmp .ne 13, 3) := by decide +kernel
theorem dX8_most_78 : decode cX8_most 78 = .ok (.iload 5, 2) := by decide +kernel
theorem dX8_most_80 : decode cX8_most 80 = .ok (.iload_n 3, 1) := by decide +kernel
theorem dX8_most_81 : decode cX8_most 81 = .ok (.if_icmp .ge 7, 3) := by decide +kernel
theorem dX8_most_84 : decode cX8_most 84 = .ok (.iconst 1, 1) := by decide +kernel
theorem dX8_most_85 : decode cX8_most 85 = .ok (.goto 4, 3) := by decide +kernel
theorem dX8_most_88 : decode cX8_most 88 = .ok (.iconst 0, 1) := by decide +kernel
theorem dX8_most_89 : decode cX8_most 89 = .ok (.iadd, 1) := by decide +kernel
theorem dX8_most_90 : decode cX8_most 90 = .ok (.istore 4, 2) := by decide +kernel
theorem dX8_most_92 : decode cX8_most 92 = .ok (.iinc 5 1, 3) := by decide +kernel
theorem dX8_most_95 : decode cX8_most 95 = .ok (.goto (-62), 3) := by decide +kernel
theorem dX8_most_98 : decode cX8_most 98 = .ok (.iload 4, 2) := by decide +kernel
theorem dX8_most_100 : decode cX8_most 100 = .ok (.iload_n 2, 1) := by decide +kernel
theorem dX8_most_101 : decode cX8_most 101 = .ok (.if_icmp .ne 5, 3) := by decide +kernel
theorem dX8_most_104 : decode cX8_most 104 = .ok (.iload_n 3, 1) := by decide +kernel
theorem dX8_most_105 : decode cX8_most 105 = .ok (.ireturn, 1) := by decide +kernel
theorem dX8_most_106 : decode cX8_most 106 = .ok (.iinc 3 1, 3) := by decide +kernel
theorem dX8_most_109 : decode cX8_most 109 = .ok (.goto (-92), 3) := by decide +kernel
theorem dX8_most_112 : decode cX8_most 112 = .ok (.iconst (-1), 1) := by decide +kernel
theorem dX8_most_113 : decode cX8_most 113 = .ok (.ireturn, 1) := by decide +kernel
theorem dX8_peak_0 : decode cX8_peak 0 = .ok (.aload_n 0, 1) := by decide +kernel
theorem dX8_peak_1 : decode cX8_peak 1 = .ok (.invokevirtual 49, 3) := by decide +kernel
theorem dX8_peak_4 : decode cX8_peak 4 = .ok (.ifCond .eq 13, 3) := by decide +kernel
theorem dX8_peak_7 : decode cX8_peak 7 = .ok (.iload_n 1, 1) := by decide +kernel
theorem dX8_peak_8 : decode cX8_peak 8 = .ok (.i2l, 1) := by decide +kernel
theorem dX8_peak_9 : decode cX8_peak 9 = .ok (.lconst 0, 1) := by decide +kernel
theorem dX8_peak_10 : decode cX8_peak 10 = .ok (.lconst 1, 1) := by decide +kernel
theorem dX8_peak_11 : decode cX8_peak 11 = .ok (.invokestatic 45, 3) := by decide +kernel
theorem dX8_peak_14 : decode cX8_peak 14 = .ok (.ifCond .ne 6, 3) := by decide +kernel
theorem dX8_peak_17 : decode cX8_peak 17 = .ok (.bipush (-2), 2) := by decide +kernel
theorem dX8_peak_19 : decode cX8_peak 19 = .ok (.ireturn, 1) := by decide +kernel
theorem dX8_peak_20 : decode cX8_peak 20 = .ok (.aload_n 0, 1) := by decide +kernel
theorem dX8_peak_21 : decode cX8_peak 21 = .ok (.getfield 9, 3) := by decide +kernel
theorem dX8_peak_24 : decode cX8_peak 24 = .ok (.iconst 4, 1) := by decide +kernel
theorem dX8_peak_25 : decode cX8_peak 25 = .ok (.iaload, 1) := by decide +kernel
theorem dX8_peak_26 : decode cX8_peak 26 = .ok (.aload_n 0, 1) := by decide +kernel
theorem dX8_peak_27 : decode cX8_peak 27 = .ok (.getfield 9, 3) := by decide +kernel
theorem dX8_peak_30 : decode cX8_peak 30 = .ok (.iconst 0, 1) := by decide +kernel
theorem dX8_peak_31 : decode cX8_peak 31 = .ok (.iaload, 1) := by decide +kernel
theorem dX8_peak_32 : decode cX8_peak 32 = .ok (.if_icmp .ne 5, 3) := by decide +kernel
