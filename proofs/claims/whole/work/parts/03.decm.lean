theorem dX10_init_0 : decode cX10_init 0 = .ok (.aload_n 0, 1) := by decide +kernel
theorem dX10_init_1 : decode cX10_init 1 = .ok (.invokespecial 1, 3) := by decide +kernel
theorem dX10_init_4 : decode cX10_init 4 = .ok (.aload_n 0, 1) := by decide +kernel
theorem dX10_init_5 : decode cX10_init 5 = .ok (.iconst 4, 1) := by decide +kernel
theorem dX10_init_6 : decode cX10_init 6 = .ok (.newarray .int, 2) := by decide +kernel
theorem dX10_init_8 : decode cX10_init 8 = .ok (.putfield 7, 3) := by decide +kernel
theorem dX10_init_11 : decode cX10_init 11 = .ok (.aload_n 0, 1) := by decide +kernel
theorem dX10_init_12 : decode cX10_init 12 = .ok (.iconst 4, 1) := by decide +kernel
theorem dX10_init_13 : decode cX10_init 13 = .ok (.newarray .int, 2) := by decide +kernel
theorem dX10_init_15 : decode cX10_init 15 = .ok (.putfield 13, 3) := by decide +kernel
theorem dX10_init_18 : decode cX10_init 18 = .ok (.aload_n 0, 1) := by decide +kernel
theorem dX10_init_19 : decode cX10_init 19 = .ok (.sipush 240, 3) := by decide +kernel
theorem dX10_init_22 : decode cX10_init 22 = .ok (.newarray .int, 2) := by decide +kernel
theorem dX10_init_24 : decode cX10_init 24 = .ok (.putfield 16, 3) := by decide +kernel
theorem dX10_init_27 : decode cX10_init 27 = .ok (.aload_n 0, 1) := by decide +kernel
theorem dX10_init_28 : decode cX10_init 28 = .ok (.bipush 60, 2) := by decide +kernel
theorem dX10_init_30 : decode cX10_init 30 = .ok (.newarray .int, 2) := by decide +kernel
theorem dX10_init_32 : decode cX10_init 32 = .ok (.putfield 19, 3) := by decide +kernel
theorem dX10_init_35 : decode cX10_init 35 = .ok (.aload_n 0, 1) := by decide +kernel
theorem dX10_init_36 : decode cX10_init 36 = .ok (.bipush 80, 2) := by decide +kernel
theorem dX10_init_38 : decode cX10_init 38 = .ok (.newarray .int, 2) := by decide +kernel
theorem dX10_init_40 : decode cX10_init 40 = .ok (.putfield 22, 3) := by decide +kernel
theorem dX10_init_43 : decode cX10_init 43 = .ok (.aload_n 0, 1) := by decide +kernel
theorem dX10_init_44 : decode cX10_init 44 = .ok (.iconst 2, 1) := by decide +kernel
theorem dX10_init_45 : decode cX10_init 45 = .ok (.newarray .int, 2) := by decide +kernel
theorem dX10_init_47 : decode cX10_init 47 = .ok (.putfield 25, 3) := by decide +kernel
theorem dX10_init_50 : decode cX10_init 50 = .ok (.aload_n 0, 1) := by decide +kernel
theorem dX10_init_51 : decode cX10_init 51 = .ok (.bipush 32, 2) := by decide +kernel
theorem dX10_init_53 : decode cX10_init 53 = .ok (.newarray .boolean, 2) := by decide +kernel
theorem dX10_init_55 : decode cX10_init 55 = .ok (.putfield 28, 3) := by decide +kernel
theorem dX10_init_58 : decode cX10_init 58 = .ok (.aload_n 0, 1) := by decide +kernel
theorem dX10_init_59 : decode cX10_init 59 = .ok (.bipush 32, 2) := by decide +kernel
theorem dX10_init_61 : decode cX10_init 61 = .ok (.newarray .int, 2) := by decide +kernel
theorem dX10_init_63 : decode cX10_init 63 = .ok (.putfield 32, 3) := by decide +kernel
theorem dX10_init_66 : decode cX10_init 66 = .ok (.aload_n 0, 1) := by decide +kernel
theorem dX10_init_67 : decode cX10_init 67 = .ok (.bipush 32, 2) := by decide +kernel
theorem dX10_init_69 : decode cX10_init 69 = .ok (.newarray .int, 2) := by decide +kernel
theorem dX10_init_71 : decode cX10_init 71 = .ok (.putfield 35, 3) := by decide +kernel
theorem dX10_init_74 : decode cX10_init 74 = .ok (.aload_n 0, 1) := by decide +kernel
theorem dX10_init_75 : decode cX10_init 75 = .ok (.bipush 40, 2) := by decide +kernel
theorem dX10_init_77 : decode cX10_init 77 = .ok (.newarray .int, 2) := by decide +kernel
theorem dX10_init_79 : decode cX10_init 79 = .ok (.putfield 38, 3) := by decide +kernel
theorem dX10_init_82 : decode cX10_init 82 = .ok (.aload_n 0, 1) := by decide +kernel
theorem dX10_init_83 : decode cX10_init 83 = .ok (.iconst 4, 1) := by decide +kernel
theorem dX10_init_84 : decode cX10_init 84 = .ok (.newarray .int, 2) := by decide +kernel
theorem dX10_init_86 : decode cX10_init 86 = .ok (.putfield 41, 3) := by decide +kernel
theorem dX10_init_89 : decode cX10_init 89 = .ok (.aload_n 0, 1) := by decide +kernel
theorem dX10_init_90 : decode cX10_init 90 = .ok (.iconst 4, 1) := by decide +kernel
theorem dX10_init_91 : decode cX10_init 91 = .ok (.newarray .int, 2) := by decide +kernel
theorem dX10_init_93 : decode cX10_init 93 = .ok (.putfield 44, 3) := by decide +kernel
theorem dX10_init_96 : decode cX10_init 96 = .ok (.aload_n 0, 1) := by decide +kernel
theorem dX10_init_97 : decode cX10_init 97 = .ok (.sipush 160, 3) := by decide +kernel
theorem dX10_init_100 : decode cX10_init 100 = .ok (.newarray .int, 2) := by decide +kernel
theorem dX10_init_102 : decode cX10_init 102 = .ok (.putfield 47, 3) := by decide +kernel
theorem dX10_init_105 : decode cX10_init 105 = .ok (.aload_n 0, 1) := by decide +kernel
theorem dX10_init_106 : decode cX10_init 106 = .ok (.bipush 80, 2) := by decide +kernel
theorem dX10_init_108 : decode cX10_init 108 = .ok (.newarray .int, 2) := by decide +kernel
theorem dX10_init_110 : decode cX10_init 110 = .ok (.putfield 50, 3) := by decide +kernel
theorem dX10_init_113 : decode cX10_init 113 = .ok (.aload_n 0, 1) := by decide +kernel
theorem dX10_init_114 : decode cX10_init 114 = .ok (.iconst 4, 1) := by decide +kernel
theorem dX10_init_115 : decode cX10_init 115 = .ok (.newarray .int, 2) := by decide +kernel
theorem dX10_init_117 : decode cX10_init 117 = .ok (.putfield 53, 3) := by decide +kernel
theorem dX10_init_120 : decode cX10_init 120 = .ok (.aload_n 0, 1) := by decide +kernel
theorem dX10_init_121 : decode cX10_init 121 = .ok (.bipush 32, 2) := by decide +kernel
theorem dX10_init_123 : decode cX10_init 123 = .ok (.newarray .int, 2) := by decide +kernel
theorem dX10_init_125 : decode cX10_init 125 = .ok (.putfield 56, 3) := by decide +kernel
theorem dX10_init_128 : decode cX10_init 128 = .ok (.aload_n 0, 1) := by decide +kernel
theorem dX10_init_129 : decode cX10_init 129 = .ok (.bipush 32, 2) := by decide +kernel
theorem dX10_init_131 : decode cX10_init 131 = .ok (.newarray .int, 2) := by decide +kernel
theorem dX10_init_133 : decode cX10_init 133 = .ok (.putfield 59, 3) := by decide +kernel
theorem dX10_init_136 : decode cX10_init 136 = .ok (.aload_n 0, 1) := by decide +kernel
theorem dX10_init_137 : decode cX10_init 137 = .ok (.bipush 14, 2) := by decide +kernel
theorem dX10_init_139 : decode cX10_init 139 = .ok (.newarray .int, 2) := by decide +kernel
theorem dX10_init_141 : decode cX10_init 141 = .ok (.putfield 62, 3) := by decide +kernel
theorem dX10_init_144 : decode cX10_init 144 = .ok (.aload_n 0, 1) := by decide +kernel
theorem dX10_init_145 : decode cX10_init 145 = .ok (.bipush 7, 2) := by decide +kernel
theorem dX10_init_147 : decode cX10_init 147 = .ok (.newarray .int, 2) := by decide +kernel
theorem dX10_init_149 : decode cX10_init 149 = .ok (.putfield 65, 3) := by decide +kernel
theorem dX10_init_152 : decode cX10_init 152 = .ok (.aload_n 0, 1) := by decide +kernel
theorem dX10_init_153 : decode cX10_init 153 = .ok (.bipush 7, 2) := by decide +kernel
theorem dX10_init_155 : decode cX10_init 155 = .ok (.newarray .int, 2) := by decide +kernel
theorem dX10_init_157 : decode cX10_init 157 = .ok (.putfield 68, 3) := by decide +kernel
theorem dX10_init_160 : decode cX10_init 160 = .ok (.iconst 0, 1) := by decide +kernel
theorem dX10_init_161 : decode cX10_init 161 = .ok (.istore_n 1, 1) := by decide +kernel
theorem dX10_init_162 : decode cX10_init 162 = .ok (.iload_n 1, 1) := by decide +kernel
theorem dX10_init_163 : decode cX10_init 163 = .ok (.iconst 4, 1) := by decide +kernel
theorem dX10_init_164 : decode cX10_init 164 = .ok (.if_icmp .ge 16, 3) := by decide +kernel
theorem dX10_init_167 : decode cX10_init 167 = .ok (.aload_n 0, 1) := by decide +kernel
theorem dX10_init_168 : decode cX10_init 168 = .ok (.getfield 7, 3) := by decide +kernel
theorem dX10_init_171 : decode cX10_init 171 = .ok (.iload_n 1, 1) := by decide +kernel
theorem dX10_init_172 : decode cX10_init 172 = .ok (.iconst (-1), 1) := by decide +kernel
theorem dX10_init_173 : decode cX10_init 173 = .ok (.iastore, 1) := by decide +kernel
theorem dX10_init_174 : decode cX10_init 174 = .ok (.iinc 1 1, 3) := by decide +kernel
theorem dX10_init_177 : decode cX10_init 177 = .ok (.goto (-15), 3) := by decide +kernel
theorem dX10_init_180 : decode cX10_init 180 = .ok (.iconst 0, 1) := by decide +kernel
theorem dX10_init_181 : decode cX10_init 181 = .ok (.istore_n 1, 1) := by decide +kernel
theorem dX10_init_182 : decode cX10_init 182 = .ok (.iload_n 1, 1) := by decide +kernel
theorem dX10_init_183 : decode cX10_init 183 = .ok (.bipush 32, 2) := by decide +kernel
theorem dX10_init_185 : decode cX10_init 185 = .ok (.if_icmp .ge 16, 3) := by decide +kernel
theorem dX10_init_188 : decode cX10_init 188 = .ok (.aload_n 0, 1) := by decide +kernel
theorem dX10_init_189 : decode cX10_init 189 = .ok (.getfield 47, 3) := by decide +kernel
theorem dX10_init_192 : decode cX10_init 192 = .ok (.iload_n 1, 1) := by decide +kernel
theorem dX10_init_193 : decode cX10_init 193 = .ok (.iconst 1, 1) := by decide +kernel
theorem dX10_init_194 : decode cX10_init 194 = .ok (.iastore, 1) := by decide +kernel
theorem dX10_init_195 : decode cX10_init 195 = .ok (.iinc 1 1, 3) := by decide +kernel
theorem dX10_init_198 : decode cX10_init 198 = .ok (.goto (-16), 3) := by decide +kernel
theorem dX10_init_201 : decode cX10_init 201 = .ok (.iconst 0, 1) := by decide +kernel
theorem dX10_init_202 : decode cX10_init 202 = .ok (.istore_n 1, 1) := by decide +kernel
theorem dX10_init_203 : decode cX10_init 203 = .ok (.iload_n 1, 1) := by decide +kernel
theorem dX10_init_204 : decode cX10_init 204 = .ok (.iconst 4, 1) := by decide +kernel
theorem dX10_init_205 : decode cX10_init 205 = .ok (.if_icmp .ge 52, 3) := by decide +kernel
theorem dX10_init_208 : decode cX10_init 208 = .ok (.aload_n 0, 1) := by decide +kernel
theorem dX10_init_209 : decode cX10_init 209 = .ok (.getfield 41, 3) := by decide +kernel
theorem dX10_init_212 : decode cX10_init 212 = .ok (.iload_n 1, 1) := by decide +kernel
theorem dX10_init_213 : decode cX10_init 213 = .ok (.iload_n 1, 1) := by decide +kernel
theorem dX10_init_214 : decode cX10_init 214 = .ok (.ifCond .ne 7, 3) := by decide +kernel
theorem dX10_init_217 : decode cX10_init 217 = .ok (.iconst 5, 1) := by decide +kernel
theorem dX10_init_218 : decode cX10_init 218 = .ok (.goto 24, 3) := by decide +kernel
theorem dX10_init_221 : decode cX10_init 221 = .ok (.iload_n 1, 1) := by decide +kernel
theorem dX10_init_222 : decode cX10_init 222 = .ok (.iconst 1, 1) := by decide +kernel
theorem dX10_init_223 : decode cX10_init 223 = .ok (.if_icmp .ne 8, 3) := by decide +kernel
theorem dX10_init_226 : decode cX10_init 226 = .ok (.bipush 8, 2) := by decide +kernel
theorem dX10_init_228 : decode cX10_init 228 = .ok (.goto 14, 3) := by decide +kernel
theorem dX10_init_231 : decode cX10_init 231 = .ok (.iload_n 1, 1) := by decide +kernel
theorem dX10_init_232 : decode cX10_init 232 = .ok (.iconst 2, 1) := by decide +kernel
theorem dX10_init_233 : decode cX10_init 233 = .ok (.if_icmp .ne 7, 3) := by decide +kernel
theorem dX10_init_236 : decode cX10_init 236 = .ok (.iconst 2, 1) := by decide +kernel
theorem dX10_init_237 : decode cX10_init 237 = .ok (.goto 5, 3) := by decide +kernel
theorem dX10_init_240 : decode cX10_init 240 = .ok (.bipush 12, 2) := by decide +kernel
theorem dX10_init_242 : decode cX10_init 242 = .ok (.iastore, 1) := by decide +kernel
theorem dX10_init_243 : decode cX10_init 243 = .ok (.aload_n 0, 1) := by decide +kernel
theorem dX10_init_244 : decode cX10_init 244 = .ok (.getfield 44, 3) := by decide +kernel
theorem dX10_init_247 : decode cX10_init 247 = .ok (.iload_n 1, 1) := by decide +kernel
theorem dX10_init_248 : decode cX10_init 248 = .ok (.bipush 99, 2) := by decide +kernel
theorem dX10_init_250 : decode cX10_init 250 = .ok (.iastore, 1) := by decide +kernel
theorem dX10_init_251 : decode cX10_init 251 = .ok (.iinc 1 1, 3) := by decide +kernel
theorem dX10_init_254 : decode cX10_init 254 = .ok (.goto (-51), 3) := by decide +kernel
theorem dX10_init_257 : decode cX10_init 257 = .ok (.return_, 1) := by decide +kernel
theorem dX10_in_0 : decode cX10_in 0 = .ok (.lload_n 0, 1) := by decide +kernel
theorem dX10_in_1 : decode cX10_in 1 = .ok (.lload_n 2, 1) := by decide +kernel
theorem dX10_in_2 : decode cX10_in 2 = .ok (.lcmp, 1) := by decide +kernel
theorem dX10_in_3 : decode cX10_in 3 = .ok (.ifCond .lt 14, 3) := by decide +kernel
theorem dX10_in_6 : decode cX10_in 6 = .ok (.lload_n 0, 1) := by decide +kernel
theorem dX10_in_7 : decode cX10_in 7 = .ok (.lload 4, 2) := by decide +kernel
theorem dX10_in_9 : decode cX10_in 9 = .ok (.lcmp, 1) := by decide +kernel
theorem dX10_in_10 : decode cX10_in 10 = .ok (.ifCond .gt 7, 3) := by decide +kernel
theorem dX10_in_13 : decode cX10_in 13 = .ok (.iconst 1, 1) := by decide +kernel
theorem dX10_in_14 : decode cX10_in 14 = .ok (.goto 4, 3) := by decide +kernel
theorem dX10_in_17 : decode cX10_in 17 = .ok (.iconst 0, 1) := by decide +kernel
theorem dX10_in_18 : decode cX10_in 18 = .ok (.ireturn, 1) := by decide +kernel
theorem dX10_no_0 : decode cX10_no 0 = .ok (.ldc2_w 71, 3) := by decide +kernel
theorem dX10_no_3 : decode cX10_no 3 = .ok (.iload_n 0, 1) := by decide +kernel
theorem dX10_no_4 : decode cX10_no 4 = .ok (.i2l, 1) := by decide +kernel
theorem dX10_no_5 : decode cX10_no 5 = .ok (.lsub, 1) := by decide +kernel
theorem dX10_no_6 : decode cX10_no 6 = .ok (.lreturn, 1) := by decide +kernel
theorem dX10_isTwo_0 : decode cX10_isTwo 0 = .ok (.iload_n 0, 1) := by decide +kernel
theorem dX10_isTwo_1 : decode cX10_isTwo 1 = .ok (.i2l, 1) := by decide +kernel
theorem dX10_isTwo_2 : decode cX10_isTwo 2 = .ok (.lconst 0, 1) := by decide +kernel
theorem dX10_isTwo_3 : decode cX10_isTwo 3 = .ok (.lconst 1, 1) := by decide +kernel
theorem dX10_isTwo_4 : decode cX10_isTwo 4 = .ok (.invokestatic 73, 3) := by decide +kernel
theorem dX10_isTwo_7 : decode cX10_isTwo 7 = .ok (.ireturn, 1) := by decide +kernel
theorem dX10_isIn_0 : decode cX10_isIn 0 = .ok (.iload_n 0, 1) := by decide +kernel
theorem dX10_isIn_1 : decode cX10_isIn 1 = .ok (.iload_n 1, 1) := by decide +kernel
theorem dX10_isIn_2 : decode cX10_isIn 2 = .ok (.ishr, 1) := by decide +kernel
theorem dX10_isIn_3 : decode cX10_isIn 3 = .ok (.iconst 1, 1) := by decide +kernel
theorem dX10_isIn_4 : decode cX10_isIn 4 = .ok (.iand, 1) := by decide +kernel
theorem dX10_isIn_5 : decode cX10_isIn 5 = .ok (.iconst 1, 1) := by decide +kernel
theorem dX10_isIn_6 : decode cX10_isIn 6 = .ok (.if_icmp .ne 7, 3) := by decide +kernel
theorem dX10_isIn_9 : decode cX10_isIn 9 = .ok (.iconst 1, 1) := by decide +kernel
theorem dX10_isIn_10 : decode cX10_isIn 10 = .ok (.goto 4, 3) := by decide +kernel
theorem dX10_isIn_13 : decode cX10_isIn 13 = .ok (.iconst 0, 1) := by decide +kernel
theorem dX10_isIn_14 : decode cX10_isIn 14 = .ok (.ireturn, 1) := by decide +kernel
theorem dX10_greater_0 : decode cX10_greater 0 = .ok (.iload_n 0, 1) := by decide +kernel
theorem dX10_greater_1 : decode cX10_greater 1 = .ok (.iload_n 1, 1) := by decide +kernel
theorem dX10_greater_2 : decode cX10_greater 2 = .ok (.if_icmp .le 7, 3) := by decide +kernel
theorem dX10_greater_5 : decode cX10_greater 5 = .ok (.iload_n 0, 1) := by decide +kernel
theorem dX10_greater_6 : decode cX10_greater 6 = .ok (.goto 4, 3) := by decide +kernel
theorem dX10_greater_9 : decode cX10_greater 9 = .ok (.iload_n 1, 1) := by decide +kernel
theorem dX10_greater_10 : decode cX10_greater 10 = .ok (.ireturn, 1) := by decide +kernel
theorem dX10_lesser_0 : decode cX10_lesser 0 = .ok (.iload_n 0, 1) := by decide +kernel
theorem dX10_lesser_1 : decode cX10_lesser 1 = .ok (.iload_n 1, 1) := by decide +kernel
theorem dX10_lesser_2 : decode cX10_lesser 2 = .ok (.if_icmp .ge 7, 3) := by decide +kernel
theorem dX10_lesser_5 : decode cX10_lesser 5 = .ok (.iload_n 0, 1) := by decide +kernel
theorem dX10_lesser_6 : decode cX10_lesser 6 = .ok (.goto 4, 3) := by decide +kernel
theorem dX10_lesser_9 : decode cX10_lesser 9 = .ok (.iload_n 1, 1) := by decide +kernel
theorem dX10_lesser_10 : decode cX10_lesser 10 = .ok (.ireturn, 1) := by decide +kernel
theorem dX10_met_0 : decode cX10_met 0 = .ok (.aload_n 0, 1) := by decide +kernel
theorem dX10_met_1 : decode cX10_met 1 = .ok (.iload_n 1, 1) := by decide +kernel
theorem dX10_met_2 : decode cX10_met 2 = .ok (.putfield 77, 3) := by decide +kernel
theorem dX10_met_5 : decode cX10_met 5 = .ok (.bipush (-10), 2) := by decide +kernel
theorem dX10_met_7 : decode cX10_met 7 = .ok (.iload_n 1, 1) := by decide +kernel
theorem dX10_met_8 : decode cX10_met 8 = .ok (.isub, 1) := by decide +kernel
theorem dX10_met_9 : decode cX10_met 9 = .ok (.ireturn, 1) := by decide +kernel
theorem dX10_isSheet_0 : decode cX10_isSheet 0 = .ok (.iload_n 0, 1) := by decide +kernel
theorem dX10_isSheet_1 : decode cX10_isSheet 1 = .ok (.i2l, 1) := by decide +kernel
theorem dX10_isSheet_2 : decode cX10_isSheet 2 = .ok (.lconst 0, 1) := by decide +kernel
theorem dX10_isSheet_3 : decode cX10_isSheet 3 = .ok (.ldc2_w 81, 3) := by decide +kernel
theorem dX10_isSheet_6 : decode cX10_isSheet 6 = .ok (.invokestatic 73, 3) := by decide +kernel
theorem dX10_isSheet_9 : decode cX10_isSheet 9 = .ok (.ireturn, 1) := by decide +kernel
theorem dX10_sheet_0 : decode cX10_sheet 0 = .ok (.iload_n 1, 1) := by decide +kernel
theorem dX10_sheet_1 : decode cX10_sheet 1 = .ok (.invokestatic 83, 3) := by decide +kernel
theorem dX10_sheet_4 : decode cX10_sheet 4 = .ok (.ifCond .eq 21, 3) := by decide +kernel
theorem dX10_sheet_7 : decode cX10_sheet 7 = .ok (.iload_n 2, 1) := by decide +kernel
theorem dX10_sheet_8 : decode cX10_sheet 8 = .ok (.i2l, 1) := by decide +kernel
theorem dX10_sheet_9 : decode cX10_sheet 9 = .ok (.lconst 0, 1) := by decide +kernel
theorem dX10_sheet_10 : decode cX10_sheet 10 = .ok (.ldc2_w 87, 3) := by decide +kernel
theorem dX10_sheet_13 : decode cX10_sheet 13 = .ok (.invokestatic 73, 3) := by decide +kernel
theorem dX10_sheet_16 : decode cX10_sheet 16 = .ok (.ifCond .eq 9, 3) := by decide +kernel
theorem dX10_sheet_19 : decode cX10_sheet 19 = .ok (.iload_n 3, 1) := by decide +kernel
theorem dX10_sheet_20 : decode cX10_sheet 20 = .ok (.bipush 60, 2) := by decide +kernel
theorem dX10_sheet_22 : decode cX10_sheet 22 = .ok (.if_icmp .le 6, 3) := by decide +kernel
theorem dX10_sheet_25 : decode cX10_sheet 25 = .ok (.bipush (-2), 2) := by decide +kernel
theorem dX10_sheet_27 : decode cX10_sheet 27 = .ok (.ireturn, 1) := by decide +kernel
theorem dX10_sheet_28 : decode cX10_sheet 28 = .ok (.iload_n 3, 1) := by decide +kernel
theorem dX10_sheet_29 : decode cX10_sheet 29 = .ok (.ifCond .ge 9, 3) := by decide +kernel
theorem dX10_sheet_32 : decode cX10_sheet 32 = .ok (.aload_n 0, 1) := by decide +kernel
theorem dX10_sheet_33 : decode cX10_sheet 33 = .ok (.iconst 5, 1) := by decide +kernel
theorem dX10_sheet_34 : decode cX10_sheet 34 = .ok (.invokevirtual 89, 3) := by decide +kernel
theorem dX10_sheet_37 : decode cX10_sheet 37 = .ok (.ireturn, 1) := by decide +kernel
theorem dX10_sheet_38 : decode cX10_sheet 38 = .ok (.aload_n 0, 1) := by decide +kernel
theorem dX10_sheet_39 : decode cX10_sheet 39 = .ok (.getfield 7, 3) := by decide +kernel
theorem dX10_sheet_42 : decode cX10_sheet 42 = .ok (.iload_n 1, 1) := by decide +kernel
theorem dX10_sheet_43 : decode cX10_sheet 43 = .ok (.iload_n 2, 1) := by decide +kernel
theorem dX10_sheet_44 : decode cX10_sheet 44 = .ok (.iastore, 1) := by decide +kernel
theorem dX10_sheet_45 : decode cX10_sheet 45 = .ok (.aload_n 0, 1) := by decide +kernel
theorem dX10_sheet_46 : decode cX10_sheet 46 = .ok (.getfield 13, 3) := by decide +kernel
theorem dX10_sheet_49 : decode cX10_sheet 49 = .ok (.iload_n 1, 1) := by decide +kernel
theorem dX10_sheet_50 : decode cX10_sheet 50 = .ok (.iload_n 3, 1) := by decide +kernel
theorem dX10_sheet_51 : decode cX10_sheet 51 = .ok (.iastore, 1) := by decide +kernel
theorem dX10_sheet_52 : decode cX10_sheet 52 = .ok (.iconst 0, 1) := by decide +kernel
theorem dX10_sheet_53 : decode cX10_sheet 53 = .ok (.istore 4, 2) := by decide +kernel
theorem dX10_sheet_55 : decode cX10_sheet 55 = .ok (.iload 4, 2) := by decide +kernel
theorem dX10_sheet_57 : decode cX10_sheet 57 = .ok (.iload_n 3, 1) := by decide +kernel
theorem dX10_sheet_58 : decode cX10_sheet 58 = .ok (.if_icmp .ge 22, 3) := by decide +kernel
theorem dX10_sheet_61 : decode cX10_sheet 61 = .ok (.aload_n 0, 1) := by decide +kernel
theorem dX10_sheet_62 : decode cX10_sheet 62 = .ok (.getfield 16, 3) := by decide +kernel
theorem dX10_sheet_65 : decode cX10_sheet 65 = .ok (.bipush 60, 2) := by decide +kernel
theorem dX10_sheet_67 : decode cX10_sheet 67 = .ok (.iload_n 1, 1) := by decide +kernel
theorem dX10_sheet_68 : decode cX10_sheet 68 = .ok (.imul, 1) := by decide +kernel
theorem dX10_sheet_69 : decode cX10_sheet 69 = .ok (.iload 4, 2) := by decide +kernel
theorem dX10_sheet_71 : decode cX10_sheet 71 = .ok (.iadd, 1) := by decide +kernel
theorem dX10_sheet_72 : decode cX10_sheet 72 = .ok (.iconst 0, 1) := by decide +kernel
theorem dX10_sheet_73 : decode cX10_sheet 73 = .ok (.iastore, 1) := by decide +kernel
theorem dX10_sheet_74 : decode cX10_sheet 74 = .ok (.iinc 4 1, 3) := by decide +kernel
theorem dX10_sheet_77 : decode cX10_sheet 77 = .ok (.goto (-22), 3) := by decide +kernel
theorem dX10_sheet_80 : decode cX10_sheet 80 = .ok (.iload_n 3, 1) := by decide +kernel
theorem dX10_sheet_81 : decode cX10_sheet 81 = .ok (.ireturn, 1) := by decide +kernel
theorem dX10_lose_0 : decode cX10_lose 0 = .ok (.iload_n 1, 1) := by decide +kernel
theorem dX10_lose_1 : decode cX10_lose 1 = .ok (.invokestatic 83, 3) := by decide +kernel
theorem dX10_lose_4 : decode cX10_lose 4 = .ok (.ifCond .ne 6, 3) := by decide +kernel
theorem dX10_lose_7 : decode cX10_lose 7 = .ok (.bipush (-2), 2) := by decide +kernel
theorem dX10_lose_9 : decode cX10_lose 9 = .ok (.ireturn, 1) := by decide +kernel
theorem dX10_lose_10 : decode cX10_lose 10 = .ok (.aload_n 0, 1) := by decide +kernel
theorem dX10_lose_11 : decode cX10_lose 11 = .ok (.getfield 7, 3) := by decide +kernel
theorem dX10_lose_14 : decode cX10_lose 14 = .ok (.iload_n 1, 1) := by decide +kernel
theorem dX10_lose_15 : decode cX10_lose 15 = .ok (.iaload, 1) := by decide +kernel
theorem dX10_lose_16 : decode cX10_lose 16 = .ok (.ifCond .ge 9, 3) := by decide +kernel
theorem dX10_lose_19 : decode cX10_lose 19 = .ok (.aload_n 0, 1) := by decide +kernel
theorem dX10_lose_20 : decode cX10_lose 20 = .ok (.iconst 1, 1) := by decide +kernel
theorem dX10_lose_21 : decode cX10_lose 21 = .ok (.invokevirtual 89, 3) := by decide +kernel
theorem dX10_lose_24 : decode cX10_lose 24 = .ok (.ireturn, 1) := by decide +kernel
theorem dX10_lose_25 : decode cX10_lose 25 = .ok (.aload_n 0, 1) := by decide +kernel
theorem dX10_lose_26 : decode cX10_lose 26 = .ok (.getfield 7, 3) := by decide +kernel
theorem dX10_lose_29 : decode cX10_lose 29 = .ok (.iload_n 1, 1) := by decide +kernel
theorem dX10_lose_30 : decode cX10_lose 30 = .ok (.iconst (-1), 1) := by decide +kernel
theorem dX10_lose_31 : decode cX10_lose 31 = .ok (.iastore, 1) := by decide +kernel
theorem dX10_lose_32 : decode cX10_lose 32 = .ok (.aload_n 0, 1) := by decide +kernel
theorem dX10_lose_33 : decode cX10_lose 33 = .ok (.getfield 13, 3) := by decide +kernel
theorem dX10_lose_36 : decode cX10_lose 36 = .ok (.iload_n 1, 1) := by decide +kernel
theorem dX10_lose_37 : decode cX10_lose 37 = .ok (.iaload, 1) := by decide +kernel
theorem dX10_lose_38 : decode cX10_lose 38 = .ok (.ireturn, 1) := by decide +kernel
theorem dX10_lacks_0 : decode cX10_lacks 0 = .ok (.aload_n 0, 1) := by decide +kernel
theorem dX10_lacks_1 : decode cX10_lacks 1 = .ok (.getfield 7, 3) := by decide +kernel
theorem dX10_lacks_4 : decode cX10_lacks 4 = .ok (.iload_n 1, 1) := by decide +kernel
theorem dX10_lacks_5 : decode cX10_lacks 5 = .ok (.iaload, 1) := by decide +kernel
theorem dX10_lacks_6 : decode cX10_lacks 6 = .ok (.ifCond .ge 9, 3) := by decide +kernel
theorem dX10_lacks_9 : decode cX10_lacks 9 = .ok (.aload_n 0, 1) := by decide +kernel
theorem dX10_lacks_10 : decode cX10_lacks 10 = .ok (.iconst 1, 1) := by decide +kernel
theorem dX10_lacks_11 : decode cX10_lacks 11 = .ok (.invokevirtual 89, 3) := by decide +kernel
theorem dX10_lacks_14 : decode cX10_lacks 14 = .ok (.ireturn, 1) := by decide +kernel
theorem dX10_lacks_15 : decode cX10_lacks 15 = .ok (.aload_n 0, 1) := by decide +kernel
theorem dX10_lacks_16 : decode cX10_lacks 16 = .ok (.getfield 7, 3) := by decide +kernel
theorem dX10_lacks_19 : decode cX10_lacks 19 = .ok (.iload_n 1, 1) := by decide +kernel
theorem dX10_lacks_20 : decode cX10_lacks 20 = .ok (.iaload, 1) := by decide +kernel
theorem dX10_lacks_21 : decode cX10_lacks 21 = .ok (.iload_n 2, 1) := by decide +kernel
theorem dX10_lacks_22 : decode cX10_lacks 22 = .ok (.if_icmp .eq 9, 3) := by decide +kernel
theorem dX10_lacks_25 : decode cX10_lacks 25 = .ok (.aload_n 0, 1) := by decide +kernel
theorem dX10_lacks_26 : decode cX10_lacks 26 = .ok (.iconst 3, 1) := by decide +kernel
theorem dX10_lacks_27 : decode cX10_lacks 27 = .ok (.invokevirtual 89, 3) := by decide +kernel
theorem dX10_lacks_30 : decode cX10_lacks 30 = .ok (.ireturn, 1) := by decide +kernel
theorem dX10_lacks_31 : decode cX10_lacks 31 = .ok (.iload_n 3, 1) := by decide +kernel
theorem dX10_lacks_32 : decode cX10_lacks 32 = .ok (.i2l, 1) := by decide +kernel
theorem dX10_lacks_33 : decode cX10_lacks 33 = .ok (.lconst 0, 1) := by decide +kernel
theorem dX10_lacks_34 : decode cX10_lacks 34 = .ok (.aload_n 0, 1) := by decide +kernel
theorem dX10_lacks_35 : decode cX10_lacks 35 = .ok (.getfield 13, 3) := by decide +kernel
theorem dX10_lacks_38 : decode cX10_lacks 38 = .ok (.iload_n 1, 1) := by decide +kernel
theorem dX10_lacks_39 : decode cX10_lacks 39 = .ok (.iaload, 1) := by decide +kernel
theorem dX10_lacks_40 : decode cX10_lacks 40 = .ok (.iconst 1, 1) := by decide +kernel
theorem dX10_lacks_41 : decode cX10_lacks 41 = .ok (.isub, 1) := by decide +kernel
theorem dX10_lacks_42 : decode cX10_lacks 42 = .ok (.i2l, 1) := by decide +kernel
theorem dX10_lacks_43 : decode cX10_lacks 43 = .ok (.invokestatic 73, 3) := by decide +kernel
theorem dX10_lacks_46 : decode cX10_lacks 46 = .ok (.ifCond .eq 7, 3) := by decide +kernel
theorem dX10_lacks_49 : decode cX10_lacks 49 = .ok (.iconst 0, 1) := by decide +kernel
theorem dX10_lacks_50 : decode cX10_lacks 50 = .ok (.goto 8, 3) := by decide +kernel
theorem dX10_lacks_53 : decode cX10_lacks 53 = .ok (.aload_n 0, 1) := by decide +kernel
theorem dX10_lacks_54 : decode cX10_lacks 54 = .ok (.iconst 2, 1) := by decide +kernel
theorem dX10_lacks_55 : decode cX10_lacks 55 = .ok (.invokevirtual 89, 3) := by decide +kernel
theorem dX10_lacks_58 : decode cX10_lacks 58 = .ok (.ireturn, 1) := by decide +kernel
theorem dX10_cut_0 : decode cX10_cut 0 = .ok (.iload_n 0, 1) := by decide +kernel
theorem dX10_cut_1 : decode cX10_cut 1 = .ok (.ifCond .ne 8, 3) := by decide +kernel
theorem dX10_cut_4 : decode cX10_cut 4 = .ok (.iload_n 1, 1) := by decide +kernel
theorem dX10_cut_5 : decode cX10_cut 5 = .ok (.i2b, 1) := by decide +kernel
theorem dX10_cut_6 : decode cX10_cut 6 = .ok (.goto 14, 3) := by decide +kernel
theorem dX10_cut_9 : decode cX10_cut 9 = .ok (.iload_n 0, 1) := by decide +kernel
theorem dX10_cut_10 : decode cX10_cut 10 = .ok (.iconst 1, 1) := by decide +kernel
theorem dX10_cut_11 : decode cX10_cut 11 = .ok (.if_icmp .ne 8, 3) := by decide +kernel
theorem dX10_cut_14 : decode cX10_cut 14 = .ok (.iload_n 1, 1) := by decide +kernel
theorem dX10_cut_15 : decode cX10_cut 15 = .ok (.i2s, 1) := by decide +kernel
theorem dX10_cut_16 : decode cX10_cut 16 = .ok (.goto 4, 3) := by decide +kernel
theorem dX10_cut_19 : decode cX10_cut 19 = .ok (.iload_n 1, 1) := by decide +kernel
theorem dX10_cut_20 : decode cX10_cut 20 = .ok (.ireturn, 1) := by decide +kernel
theorem dX10_lay_0 : decode cX10_lay 0 = .ok (.iload_n 1, 1) := by decide +kernel
theorem dX10_lay_1 : decode cX10_lay 1 = .ok (.invokestatic 83, 3) := by decide +kernel
theorem dX10_lay_4 : decode cX10_lay 4 = .ok (.ifCond .eq 15, 3) := by decide +kernel
theorem dX10_lay_7 : decode cX10_lay 7 = .ok (.iload_n 2, 1) := by decide +kernel
theorem dX10_lay_8 : decode cX10_lay 8 = .ok (.i2l, 1) := by decide +kernel
theorem dX10_lay_9 : decode cX10_lay 9 = .ok (.lconst 0, 1) := by decide +kernel
theorem dX10_lay_10 : decode cX10_lay 10 = .ok (.ldc2_w 87, 3) := by decide +kernel
theorem dX10_lay_13 : decode cX10_lay 13 = .ok (.invokestatic 73, 3) := by decide +kernel
theorem dX10_lay_16 : decode cX10_lay 16 = .ok (.ifCond .ne 6, 3) := by decide +kernel
theorem dX10_lay_19 : decode cX10_lay 19 = .ok (.bipush (-2), 2) := by decide +kernel
theorem dX10_lay_21 : decode cX10_lay 21 = .ok (.ireturn, 1) := by decide +kernel
theorem dX10_lay_22 : decode cX10_lay 22 = .ok (.aload_n 0, 1) := by decide +kernel
theorem dX10_lay_23 : decode cX10_lay 23 = .ok (.iload_n 1, 1) := by decide +kernel
theorem dX10_lay_24 : decode cX10_lay 24 = .ok (.iload_n 2, 1) := by decide +kernel
theorem dX10_lay_25 : decode cX10_lay 25 = .ok (.iload_n 3, 1) := by decide +kernel
theorem dX10_lay_26 : decode cX10_lay 26 = .ok (.invokevirtual 93, 3) := by decide +kernel
theorem dX10_lay_29 : decode cX10_lay 29 = .ok (.istore 5, 2) := by decide +kernel
theorem dX10_lay_31 : decode cX10_lay 31 = .ok (.iload 5, 2) := by decide +kernel
theorem dX10_lay_33 : decode cX10_lay 33 = .ok (.ifCond .eq 6, 3) := by decide +kernel
theorem dX10_lay_36 : decode cX10_lay 36 = .ok (.iload 5, 2) := by decide +kernel
theorem dX10_lay_38 : decode cX10_lay 38 = .ok (.ireturn, 1) := by decide +kernel
theorem dX10_lay_39 : decode cX10_lay 39 = .ok (.aload_n 0, 1) := by decide +kernel
theorem dX10_lay_40 : decode cX10_lay 40 = .ok (.getfield 16, 3) := by decide +kernel
theorem dX10_lay_43 : decode cX10_lay 43 = .ok (.bipush 60, 2) := by decide +kernel
theorem dX10_lay_45 : decode cX10_lay 45 = .ok (.iload_n 1, 1) := by decide +kernel
theorem dX10_lay_46 : decode cX10_lay 46 = .ok (.imul, 1) := by decide +kernel
theorem dX10_lay_47 : decode cX10_lay 47 = .ok (.iload_n 3, 1) := by decide +kernel
theorem dX10_lay_48 : decode cX10_lay 48 = .ok (.iadd, 1) := by decide +kernel
theorem dX10_lay_49 : decode cX10_lay 49 = .ok (.iload_n 2, 1) := by decide +kernel
theorem dX10_lay_50 : decode cX10_lay 50 = .ok (.iload 4, 2) := by decide +kernel
theorem dX10_lay_52 : decode cX10_lay 52 = .ok (.invokestatic 97, 3) := by decide +kernel
theorem dX10_lay_55 : decode cX10_lay 55 = .ok (.iastore, 1) := by decide +kernel
theorem dX10_lay_56 : decode cX10_lay 56 = .ok (.iconst 1, 1) := by decide +kernel
theorem dX10_lay_57 : decode cX10_lay 57 = .ok (.ireturn, 1) := by decide +kernel
theorem dX10_get_0 : decode cX10_get 0 = .ok (.iload_n 1, 1) := by decide +kernel
theorem dX10_get_1 : decode cX10_get 1 = .ok (.invokestatic 83, 3) := by decide +kernel
theorem dX10_get_4 : decode cX10_get 4 = .ok (.ifCond .eq 25, 3) := by decide +kernel
theorem dX10_get_7 : decode cX10_get 7 = .ok (.iload_n 2, 1) := by decide +kernel
theorem dX10_get_8 : decode cX10_get 8 = .ok (.i2l, 1) := by decide +kernel
theorem dX10_get_9 : decode cX10_get 9 = .ok (.lconst 0, 1) := by decide +kernel
theorem dX10_get_10 : decode cX10_get 10 = .ok (.ldc2_w 87, 3) := by decide +kernel
theorem dX10_get_13 : decode cX10_get 13 = .ok (.invokestatic 73, 3) := by decide +kernel
theorem dX10_get_16 : decode cX10_get 16 = .ok (.ifCond .eq 13, 3) := by decide +kernel
theorem dX10_get_19 : decode cX10_get 19 = .ok (.aload_n 0, 1) := by decide +kernel
theorem dX10_get_20 : decode cX10_get 20 = .ok (.iload_n 1, 1) := by decide +kernel
theorem dX10_get_21 : decode cX10_get 21 = .ok (.iload_n 2, 1) := by decide +kernel
theorem dX10_get_22 : decode cX10_get 22 = .ok (.iload_n 3, 1) := by decide +kernel
theorem dX10_get_23 : decode cX10_get 23 = .ok (.invokevirtual 93, 3) := by decide +kernel
theorem dX10_get_26 : decode cX10_get 26 = .ok (.ifCond .eq 6, 3) := by decide +kernel
theorem dX10_get_29 : decode cX10_get 29 = .ok (.ldc 101, 2) := by decide +kernel
theorem dX10_get_31 : decode cX10_get 31 = .ok (.ireturn, 1) := by decide +kernel
theorem dX10_get_32 : decode cX10_get 32 = .ok (.aload_n 0, 1) := by decide +kernel
theorem dX10_get_33 : decode cX10_get 33 = .ok (.getfield 16, 3) := by decide +kernel
theorem dX10_get_36 : decode cX10_get 36 = .ok (.bipush 60, 2) := by decide +kernel
theorem dX10_get_38 : decode cX10_get 38 = .ok (.iload_n 1, 1) := by decide +kernel
theorem dX10_get_39 : decode cX10_get 39 = .ok (.imul, 1) := by decide +kernel
theorem dX10_get_40 : decode cX10_get 40 = .ok (.iload_n 3, 1) := by decide +kernel
theorem dX10_get_41 : decode cX10_get 41 = .ok (.iadd, 1) := by decide +kernel
theorem dX10_get_42 : decode cX10_get 42 = .ok (.iaload, 1) := by decide +kernel
theorem dX10_get_43 : decode cX10_get 43 = .ok (.ireturn, 1) := by decide +kernel
theorem dX10_copy_0 : decode cX10_copy 0 = .ok (.iload_n 1, 1) := by decide +kernel
theorem dX10_copy_1 : decode cX10_copy 1 = .ok (.invokestatic 83, 3) := by decide +kernel
theorem dX10_copy_4 : decode cX10_copy 4 = .ok (.ifCond .eq 10, 3) := by decide +kernel
theorem dX10_copy_7 : decode cX10_copy 7 = .ok (.iload_n 3, 1) := by decide +kernel
theorem dX10_copy_8 : decode cX10_copy 8 = .ok (.invokestatic 83, 3) := by decide +kernel
theorem dX10_copy_11 : decode cX10_copy 11 = .ok (.ifCond .ne 6, 3) := by decide +kernel
theorem dX10_copy_14 : decode cX10_copy 14 = .ok (.bipush (-2), 2) := by decide +kernel
theorem dX10_copy_16 : decode cX10_copy 16 = .ok (.ireturn, 1) := by decide +kernel
theorem dX10_copy_17 : decode cX10_copy 17 = .ok (.aload_n 0, 1) := by decide +kernel
theorem dX10_copy_18 : decode cX10_copy 18 = .ok (.getfield 7, 3) := by decide +kernel
theorem dX10_copy_21 : decode cX10_copy 21 = .ok (.iload_n 1, 1) := by decide +kernel
theorem dX10_copy_22 : decode cX10_copy 22 = .ok (.iaload, 1) := by decide +kernel
theorem dX10_copy_23 : decode cX10_copy 23 = .ok (.ifCond .lt 12, 3) := by decide +kernel
theorem dX10_copy_26 : decode cX10_copy 26 = .ok (.aload_n 0, 1) := by decide +kernel
theorem dX10_copy_27 : decode cX10_copy 27 = .ok (.getfield 7, 3) := by decide +kernel
theorem dX10_copy_30 : decode cX10_copy 30 = .ok (.iload_n 3, 1) := by decide +kernel
theorem dX10_copy_31 : decode cX10_copy 31 = .ok (.iaload, 1) := by decide +kernel
theorem dX10_copy_32 : decode cX10_copy 32 = .ok (.ifCond .ge 9, 3) := by decide +kernel
theorem dX10_copy_35 : decode cX10_copy 35 = .ok (.aload_n 0, 1) := by decide +kernel
theorem dX10_copy_36 : decode cX10_copy 36 = .ok (.iconst 1, 1) := by decide +kernel
theorem dX10_copy_37 : decode cX10_copy 37 = .ok (.invokevirtual 89, 3) := by decide +kernel
theorem dX10_copy_40 : decode cX10_copy 40 = .ok (.ireturn, 1) := by decide +kernel
theorem dX10_copy_41 : decode cX10_copy 41 = .ok (.aload_n 0, 1) := by decide +kernel
theorem dX10_copy_42 : decode cX10_copy 42 = .ok (.getfield 7, 3) := by decide +kernel
theorem dX10_copy_45 : decode cX10_copy 45 = .ok (.iload_n 1, 1) := by decide +kernel
theorem dX10_copy_46 : decode cX10_copy 46 = .ok (.iaload, 1) := by decide +kernel
theorem dX10_copy_47 : decode cX10_copy 47 = .ok (.aload_n 0, 1) := by decide +kernel
theorem dX10_copy_48 : decode cX10_copy 48 = .ok (.getfield 7, 3) := by decide +kernel
theorem dX10_copy_51 : decode cX10_copy 51 = .ok (.iload_n 3, 1) := by decide +kernel
theorem dX10_copy_52 : decode cX10_copy 52 = .ok (.iaload, 1) := by decide +kernel
theorem dX10_copy_53 : decode cX10_copy 53 = .ok (.if_icmp .eq 9, 3) := by decide +kernel
theorem dX10_copy_56 : decode cX10_copy 56 = .ok (.aload_n 0, 1) := by decide +kernel
theorem dX10_copy_57 : decode cX10_copy 57 = .ok (.iconst 4, 1) := by decide +kernel
theorem dX10_copy_58 : decode cX10_copy 58 = .ok (.invokevirtual 89, 3) := by decide +kernel
theorem dX10_copy_61 : decode cX10_copy 61 = .ok (.ireturn, 1) := by decide +kernel
theorem dX10_copy_62 : decode cX10_copy 62 = .ok (.iload_n 2, 1) := by decide +kernel
theorem dX10_copy_63 : decode cX10_copy 63 = .ok (.ifCond .lt 48, 3) := by decide +kernel
theorem dX10_copy_66 : decode cX10_copy 66 = .ok (.iload 4, 2) := by decide +kernel
theorem dX10_copy_68 : decode cX10_copy 68 = .ok (.ifCond .lt 43, 3) := by decide +kernel
theorem dX10_copy_71 : decode cX10_copy 71 = .ok (.iload 5, 2) := by decide +kernel
theorem dX10_copy_73 : decode cX10_copy 73 = .ok (.ifCond .lt 38, 3) := by decide +kernel
theorem dX10_copy_76 : decode cX10_copy 76 = .ok (.iload_n 2, 1) := by decide +kernel
theorem dX10_copy_77 : decode cX10_copy 77 = .ok (.i2l, 1) := by decide +kernel
theorem dX10_copy_78 : decode cX10_copy 78 = .ok (.iload 5, 2) := by decide +kernel
theorem dX10_copy_80 : decode cX10_copy 80 = .ok (.i2l, 1) := by decide +kernel
theorem dX10_copy_81 : decode cX10_copy 81 = .ok (.ladd, 1) := by decide +kernel
theorem dX10_copy_82 : decode cX10_copy 82 = .ok (.aload_n 0, 1) := by decide +kernel
theorem dX10_copy_83 : decode cX10_copy 83 = .ok (.getfield 13, 3) := by decide +kernel
theorem dX10_copy_86 : decode cX10_copy 86 = .ok (.iload_n 1, 1) := by decide +kernel
theorem dX10_copy_87 : decode cX10_copy 87 = .ok (.iaload, 1) := by decide +kernel
theorem dX10_copy_88 : decode cX10_copy 88 = .ok (.i2l, 1) := by decide +kernel
theorem dX10_copy_89 : decode cX10_copy 89 = .ok (.lcmp, 1) := by decide +kernel
theorem dX10_copy_90 : decode cX10_copy 90 = .ok (.ifCond .gt 21, 3) := by decide +kernel
theorem dX10_copy_93 : decode cX10_copy 93 = .ok (.iload 4, 2) := by decide +kernel
theorem dX10_copy_95 : decode cX10_copy 95 = .ok (.i2l, 1) := by decide +kernel
theorem dX10_copy_96 : decode cX10_copy 96 = .ok (.iload 5, 2) := by decide +kernel
theorem dX10_copy_98 : decode cX10_copy 98 = .ok (.i2l, 1) := by decide +kernel
theorem dX10_copy_99 : decode cX10_copy 99 = .ok (.ladd, 1) := by decide +kernel
theorem dX10_copy_100 : decode cX10_copy 100 = .ok (.aload_n 0, 1) := by decide +kernel
theorem dX10_copy_101 : decode cX10_copy 101 = .ok (.getfield 13, 3) := by decide +kernel
theorem dX10_copy_104 : decode cX10_copy 104 = .ok (.iload_n 3, 1) := by decide +kernel
theorem dX10_copy_105 : decode cX10_copy 105 = .ok (.iaload, 1) := by decide +kernel
theorem dX10_copy_106 : decode cX10_copy 106 = .ok (.i2l, 1) := by decide +kernel
theorem dX10_copy_107 : decode cX10_copy 107 = .ok (.lcmp, 1) := by decide +kernel
theorem dX10_copy_108 : decode cX10_copy 108 = .ok (.ifCond .le 9, 3) := by decide +kernel
theorem dX10_copy_111 : decode cX10_copy 111 = .ok (.aload_n 0, 1) := by decide +kernel
theorem dX10_copy_112 : decode cX10_copy 112 = .ok (.iconst 2, 1) := by decide +kernel
theorem dX10_copy_113 : decode cX10_copy 113 = .ok (.invokevirtual 89, 3) := by decide +kernel
theorem dX10_copy_116 : decode cX10_copy 116 = .ok (.ireturn, 1) := by decide +kernel
theorem dX10_copy_117 : decode cX10_copy 117 = .ok (.iconst 0, 1) := by decide +kernel
theorem dX10_copy_118 : decode cX10_copy 118 = .ok (.istore 6, 2) := by decide +kernel
theorem dX10_copy_120 : decode cX10_copy 120 = .ok (.iload 6, 2) := by decide +kernel
theorem dX10_copy_122 : decode cX10_copy 122 = .ok (.iload 5, 2) := by decide +kernel
theorem dX10_copy_124 : decode cX10_copy 124 = .ok (.if_icmp .ge 30, 3) := by decide +kernel
theorem dX10_copy_127 : decode cX10_copy 127 = .ok (.aload_n 0, 1) := by decide +kernel
theorem dX10_copy_128 : decode cX10_copy 128 = .ok (.getfield 19, 3) := by decide +kernel
theorem dX10_copy_131 : decode cX10_copy 131 = .ok (.iload 6, 2) := by decide +kernel
theorem dX10_copy_133 : decode cX10_copy 133 = .ok (.aload_n 0, 1) := by decide +kernel
theorem dX10_copy_134 : decode cX10_copy 134 = .ok (.getfield 16, 3) := by decide +kernel
theorem dX10_copy_137 : decode cX10_copy 137 = .ok (.bipush 60, 2) := by decide +kernel
theorem dX10_copy_139 : decode cX10_copy 139 = .ok (.iload_n 1, 1) := by decide +kernel
theorem dX10_copy_140 : decode cX10_copy 140 = .ok (.imul, 1) := by decide +kernel
theorem dX10_copy_141 : decode cX10_copy 141 = .ok (.iload_n 2, 1) := by decide +kernel
theorem dX10_copy_142 : decode cX10_copy 142 = .ok (.iadd, 1) := by decide +kernel
theorem dX10_copy_143 : decode cX10_copy 143 = .ok (.iload 6, 2) := by decide +kernel
theorem dX10_copy_145 : decode cX10_copy 145 = .ok (.iadd, 1) := by decide +kernel
theorem dX10_copy_146 : decode cX10_copy 146 = .ok (.iaload, 1) := by decide +kernel
theorem dX10_copy_147 : decode cX10_copy 147 = .ok (.iastore, 1) := by decide +kernel
theorem dX10_copy_148 : decode cX10_copy 148 = .ok (.iinc 6 1, 3) := by decide +kernel
theorem dX10_copy_151 : decode cX10_copy 151 = .ok (.goto (-31), 3) := by decide +kernel
theorem dX10_copy_154 : decode cX10_copy 154 = .ok (.iconst 0, 1) := by decide +kernel
theorem dX10_copy_155 : decode cX10_copy 155 = .ok (.istore 6, 2) := by decide +kernel
theorem dX10_copy_157 : decode cX10_copy 157 = .ok (.iload 6, 2) := by decide +kernel
theorem dX10_copy_159 : decode cX10_copy 159 = .ok (.iload 5, 2) := by decide +kernel
theorem dX10_copy_161 : decode cX10_copy 161 = .ok (.if_icmp .ge 31, 3) := by decide +kernel
theorem dX10_copy_164 : decode cX10_copy 164 = .ok (.aload_n 0, 1) := by decide +kernel
theorem dX10_copy_165 : decode cX10_copy 165 = .ok (.getfield 16, 3) := by decide +kernel
theorem dX10_copy_168 : decode cX10_copy 168 = .ok (.bipush 60, 2) := by decide +kernel
theorem dX10_copy_170 : decode cX10_copy 170 = .ok (.iload_n 3, 1) := by decide +kernel
theorem dX10_copy_171 : decode cX10_copy 171 = .ok (.imul, 1) := by decide +kernel
theorem dX10_copy_172 : decode cX10_copy 172 = .ok (.iload 4, 2) := by decide +kernel
theorem dX10_copy_174 : decode cX10_copy 174 = .ok (.iadd, 1) := by decide +kernel
theorem dX10_copy_175 : decode cX10_copy 175 = .ok (.iload 6, 2) := by decide +kernel
theorem dX10_copy_177 : decode cX10_copy 177 = .ok (.iadd, 1) := by decide +kernel
theorem dX10_copy_178 : decode cX10_copy 178 = .ok (.aload_n 0, 1) := by decide +kernel
theorem dX10_copy_179 : decode cX10_copy 179 = .ok (.getfield 19, 3) := by decide +kernel
theorem dX10_copy_182 : decode cX10_copy 182 = .ok (.iload 6, 2) := by decide +kernel
theorem dX10_copy_184 : decode cX10_copy 184 = .ok (.iaload, 1) := by decide +kernel
theorem dX10_copy_185 : decode cX10_copy 185 = .ok (.iastore, 1) := by decide +kernel
theorem dX10_copy_186 : decode cX10_copy 186 = .ok (.iinc 6 1, 3) := by decide +kernel
theorem dX10_copy_189 : decode cX10_copy 189 = .ok (.goto (-32), 3) := by decide +kernel
theorem dX10_copy_192 : decode cX10_copy 192 = .ok (.iconst 1, 1) := by decide +kernel
theorem dX10_copy_193 : decode cX10_copy 193 = .ok (.ireturn, 1) := by decide +kernel
theorem dX10_type_0 : decode cX10_type 0 = .ok (.iload_n 1, 1) := by decide +kernel
theorem dX10_type_1 : decode cX10_type 1 = .ok (.invokestatic 102, 3) := by decide +kernel
theorem dX10_type_4 : decode cX10_type 4 = .ok (.ifCond .eq 15, 3) := by decide +kernel
theorem dX10_type_7 : decode cX10_type 7 = .ok (.iload_n 2, 1) := by decide +kernel
theorem dX10_type_8 : decode cX10_type 8 = .ok (.i2l, 1) := by decide +kernel
theorem dX10_type_9 : decode cX10_type 9 = .ok (.lconst 0, 1) := by decide +kernel
theorem dX10_type_10 : decode cX10_type 10 = .ok (.ldc2_w 105, 3) := by decide +kernel
theorem dX10_type_13 : decode cX10_type 13 = .ok (.invokestatic 73, 3) := by decide +kernel
theorem dX10_type_16 : decode cX10_type 16 = .ok (.ifCond .ne 6, 3) := by decide +kernel
theorem dX10_type_19 : decode cX10_type 19 = .ok (.bipush (-2), 2) := by decide +kernel
theorem dX10_type_21 : decode cX10_type 21 = .ok (.ireturn, 1) := by decide +kernel
theorem dX10_type_22 : decode cX10_type 22 = .ok (.aload_n 0, 1) := by decide +kernel
theorem dX10_type_23 : decode cX10_type 23 = .ok (.getfield 25, 3) := by decide +kernel
theorem dX10_type_26 : decode cX10_type 26 = .ok (.iload_n 1, 1) := by decide +kernel
theorem dX10_type_27 : decode cX10_type 27 = .ok (.iaload, 1) := by decide +kernel
theorem dX10_type_28 : decode cX10_type 28 = .ok (.iload_n 1, 1) := by decide +kernel
theorem dX10_type_29 : decode cX10_type 29 = .ok (.ifCond .ne 8, 3) := by decide +kernel
theorem dX10_type_32 : decode cX10_type 32 = .ok (.bipush 35, 2) := by decide +kernel
theorem dX10_type_34 : decode cX10_type 34 = .ok (.goto 5, 3) := by decide +kernel
theorem dX10_type_37 : decode cX10_type 37 = .ok (.bipush 40, 2) := by decide +kernel
theorem dX10_type_39 : decode cX10_type 39 = .ok (.if_icmp .ne 6, 3) := by decide +kernel
theorem dX10_type_42 : decode cX10_type 42 = .ok (.bipush (-4), 2) := by decide +kernel
theorem dX10_type_44 : decode cX10_type 44 = .ok (.ireturn, 1) := by decide +kernel
theorem dX10_type_45 : decode cX10_type 45 = .ok (.aload_n 0, 1) := by decide +kernel
theorem dX10_type_46 : decode cX10_type 46 = .ok (.getfield 22, 3) := by decide +kernel
theorem dX10_type_49 : decode cX10_type 49 = .ok (.bipush 40, 2) := by decide +kernel
theorem dX10_type_51 : decode cX10_type 51 = .ok (.iload_n 1, 1) := by decide +kernel
theorem dX10_type_52 : decode cX10_type 52 = .ok (.imul, 1) := by decide +kernel
theorem dX10_type_53 : decode cX10_type 53 = .ok (.aload_n 0, 1) := by decide +kernel
theorem dX10_type_54 : decode cX10_type 54 = .ok (.getfield 25, 3) := by decide +kernel
theorem dX10_type_57 : decode cX10_type 57 = .ok (.iload_n 1, 1) := by decide +kernel
theorem dX10_type_58 : decode cX10_type 58 = .ok (.iaload, 1) := by decide +kernel
theorem dX10_type_59 : decode cX10_type 59 = .ok (.iadd, 1) := by decide +kernel
theorem dX10_type_60 : decode cX10_type 60 = .ok (.iload_n 2, 1) := by decide +kernel
theorem dX10_type_61 : decode cX10_type 61 = .ok (.iastore, 1) := by decide +kernel
theorem dX10_type_62 : decode cX10_type 62 = .ok (.aload_n 0, 1) := by decide +kernel
theorem dX10_type_63 : decode cX10_type 63 = .ok (.getfield 25, 3) := by decide +kernel
theorem dX10_type_66 : decode cX10_type 66 = .ok (.iload_n 1, 1) := by decide +kernel
theorem dX10_type_67 : decode cX10_type 67 = .ok (.dup2, 1) := by decide +kernel
theorem dX10_type_68 : decode cX10_type 68 = .ok (.iaload, 1) := by decide +kernel
theorem dX10_type_69 : decode cX10_type 69 = .ok (.iconst 1, 1) := by decide +kernel
theorem dX10_type_70 : decode cX10_type 70 = .ok (.iadd, 1) := by decide +kernel
theorem dX10_type_71 : decode cX10_type 71 = .ok (.iastore, 1) := by decide +kernel
theorem dX10_type_72 : decode cX10_type 72 = .ok (.aload_n 0, 1) := by decide +kernel
theorem dX10_type_73 : decode cX10_type 73 = .ok (.getfield 25, 3) := by decide +kernel
theorem dX10_type_76 : decode cX10_type 76 = .ok (.iload_n 1, 1) := by decide +kernel
theorem dX10_type_77 : decode cX10_type 77 = .ok (.iaload, 1) := by decide +kernel
theorem dX10_type_78 : decode cX10_type 78 = .ok (.ireturn, 1) := by decide +kernel
theorem dX10_wipe_0 : decode cX10_wipe 0 = .ok (.iload_n 1, 1) := by decide +kernel
theorem dX10_wipe_1 : decode cX10_wipe 1 = .ok (.invokestatic 102, 3) := by decide +kernel
theorem dX10_wipe_4 : decode cX10_wipe 4 = .ok (.ifCond .ne 6, 3) := by decide +kernel
theorem dX10_wipe_7 : decode cX10_wipe 7 = .ok (.bipush (-2), 2) := by decide +kernel
theorem dX10_wipe_9 : decode cX10_wipe 9 = .ok (.ireturn, 1) := by decide +kernel
theorem dX10_wipe_10 : decode cX10_wipe 10 = .ok (.aload_n 0, 1) := by decide +kernel
theorem dX10_wipe_11 : decode cX10_wipe 11 = .ok (.getfield 25, 3) := by decide +kernel
theorem dX10_wipe_14 : decode cX10_wipe 14 = .ok (.iload_n 1, 1) := by decide +kernel
theorem dX10_wipe_15 : decode cX10_wipe 15 = .ok (.iaload, 1) := by decide +kernel
theorem dX10_wipe_16 : decode cX10_wipe 16 = .ok (.istore_n 2, 1) := by decide +kernel
theorem dX10_wipe_17 : decode cX10_wipe 17 = .ok (.aload_n 0, 1) := by decide +kernel
theorem dX10_wipe_18 : decode cX10_wipe 18 = .ok (.getfield 25, 3) := by decide +kernel
theorem dX10_wipe_21 : decode cX10_wipe 21 = .ok (.iload_n 1, 1) := by decide +kernel
theorem dX10_wipe_22 : decode cX10_wipe 22 = .ok (.iconst 0, 1) := by decide +kernel
theorem dX10_wipe_23 : decode cX10_wipe 23 = .ok (.iastore, 1) := by decide +kernel
theorem dX10_wipe_24 : decode cX10_wipe 24 = .ok (.iload_n 2, 1) := by decide +kernel
theorem dX10_wipe_25 : decode cX10_wipe 25 = .ok (.ireturn, 1) := by decide +kernel
theorem dX10_undo_0 : decode cX10_undo 0 = .ok (.iload_n 1, 1) := by decide +kernel
theorem dX10_undo_1 : decode cX10_undo 1 = .ok (.invokestatic 102, 3) := by decide +kernel
theorem dX10_undo_4 : decode cX10_undo 4 = .ok (.ifCond .ne 6, 3) := by decide +kernel
theorem dX10_undo_7 : decode cX10_undo 7 = .ok (.bipush (-2), 2) := by decide +kernel
theorem dX10_undo_9 : decode cX10_undo 9 = .ok (.ireturn, 1) := by decide +kernel
theorem dX10_undo_10 : decode cX10_undo 10 = .ok (.aload_n 0, 1) := by decide +kernel
theorem dX10_undo_11 : decode cX10_undo 11 = .ok (.getfield 25, 3) := by decide +kernel
theorem dX10_undo_14 : decode cX10_undo 14 = .ok (.iload_n 1, 1) := by decide +kernel
theorem dX10_undo_15 : decode cX10_undo 15 = .ok (.iaload, 1) := by decide +kernel
theorem dX10_undo_16 : decode cX10_undo 16 = .ok (.ifCond .ne 6, 3) := by decide +kernel
theorem dX10_undo_19 : decode cX10_undo 19 = .ok (.bipush (-3), 2) := by decide +kernel
theorem dX10_undo_21 : decode cX10_undo 21 = .ok (.ireturn, 1) := by decide +kernel
theorem dX10_undo_22 : decode cX10_undo 22 = .ok (.aload_n 0, 1) := by decide +kernel
theorem dX10_undo_23 : decode cX10_undo 23 = .ok (.getfield 25, 3) := by decide +kernel
theorem dX10_undo_26 : decode cX10_undo 26 = .ok (.iload_n 1, 1) := by decide +kernel
theorem dX10_undo_27 : decode cX10_undo 27 = .ok (.dup2, 1) := by decide +kernel
theorem dX10_undo_28 : decode cX10_undo 28 = .ok (.iaload, 1) := by decide +kernel
theorem dX10_undo_29 : decode cX10_undo 29 = .ok (.iconst 1, 1) := by decide +kernel
theorem dX10_undo_30 : decode cX10_undo 30 = .ok (.isub, 1) := by decide +kernel
theorem dX10_undo_31 : decode cX10_undo 31 = .ok (.iastore, 1) := by decide +kernel
theorem dX10_undo_32 : decode cX10_undo 32 = .ok (.aload_n 0, 1) := by decide +kernel
theorem dX10_undo_33 : decode cX10_undo 33 = .ok (.getfield 25, 3) := by decide +kernel
theorem dX10_undo_36 : decode cX10_undo 36 = .ok (.iload_n 1, 1) := by decide +kernel
theorem dX10_undo_37 : decode cX10_undo 37 = .ok (.iaload, 1) := by decide +kernel
theorem dX10_undo_38 : decode cX10_undo 38 = .ok (.ireturn, 1) := by decide +kernel
theorem dX10_clears_0 : decode cX10_clears 0 = .ok (.iconst 0, 1) := by decide +kernel
theorem dX10_clears_1 : decode cX10_clears 1 = .ok (.istore_n 1, 1) := by decide +kernel
theorem dX10_clears_2 : decode cX10_clears 2 = .ok (.iload_n 1, 1) := by decide +kernel
theorem dX10_clears_3 : decode cX10_clears 3 = .ok (.bipush 32, 2) := by decide +kernel
theorem dX10_clears_5 : decode cX10_clears 5 = .ok (.if_icmp .ge 23, 3) := by decide +kernel
theorem dX10_clears_8 : decode cX10_clears 8 = .ok (.aload_n 0, 1) := by decide +kernel
theorem dX10_clears_9 : decode cX10_clears 9 = .ok (.getfield 28, 3) := by decide +kernel
theorem dX10_clears_12 : decode cX10_clears 12 = .ok (.iload_n 1, 1) := by decide +kernel
theorem dX10_clears_13 : decode cX10_clears 13 = .ok (.iconst 0, 1) := by decide +kernel
theorem dX10_clears_14 : decode cX10_clears 14 = .ok (.bastore, 1) := by decide +kernel
theorem dX10_clears_15 : decode cX10_clears 15 = .ok (.aload_n 0, 1) := by decide +kernel
theorem dX10_clears_16 : decode cX10_clears 16 = .ok (.getfield 32, 3) := by decide +kernel
theorem dX10_clears_19 : decode cX10_clears 19 = .ok (.iload_n 1, 1) := by decide +kernel
theorem dX10_clears_20 : decode cX10_clears 20 = .ok (.iconst 0, 1) := by decide +kernel
theorem dX10_clears_21 : decode cX10_clears 21 = .ok (.iastore, 1) := by decide +kernel
theorem dX10_clears_22 : decode cX10_clears 22 = .ok (.iinc 1 1, 3) := by decide +kernel
theorem dX10_clears_25 : decode cX10_clears 25 = .ok (.goto (-23), 3) := by decide +kernel
theorem dX10_clears_28 : decode cX10_clears 28 = .ok (.aload_n 0, 1) := by decide +kernel
theorem dX10_clears_29 : decode cX10_clears 29 = .ok (.iconst 0, 1) := by decide +kernel
theorem dX10_clears_30 : decode cX10_clears 30 = .ok (.putfield 107, 3) := by decide +kernel
theorem dX10_clears_33 : decode cX10_clears 33 = .ok (.aload_n 0, 1) := by decide +kernel
theorem dX10_clears_34 : decode cX10_clears 34 = .ok (.iconst 0, 1) := by decide +kernel
theorem dX10_clears_35 : decode cX10_clears 35 = .ok (.putfield 110, 3) := by decide +kernel
theorem dX10_clears_38 : decode cX10_clears 38 = .ok (.aload_n 0, 1) := by decide +kernel
theorem dX10_clears_39 : decode cX10_clears 39 = .ok (.iconst 0, 1) := by decide +kernel
theorem dX10_clears_40 : decode cX10_clears 40 = .ok (.putfield 113, 3) := by decide +kernel
theorem dX10_clears_43 : decode cX10_clears 43 = .ok (.return_, 1) := by decide +kernel
theorem dX10_readsRow_0 : decode cX10_readsRow 0 = .ok (.iconst 0, 1) := by decide +kernel
theorem dX10_readsRow_1 : decode cX10_readsRow 1 = .ok (.istore_n 1, 1) := by decide +kernel
theorem dX10_readsRow_2 : decode cX10_readsRow 2 = .ok (.aload_n 0, 1) := by decide +kernel
theorem dX10_readsRow_3 : decode cX10_readsRow 3 = .ok (.getfield 113, 3) := by decide +kernel
theorem dX10_readsRow_6 : decode cX10_readsRow 6 = .ok (.ifCond .ne 8, 3) := by decide +kernel
theorem dX10_readsRow_9 : decode cX10_readsRow 9 = .ok (.bipush 8, 2) := by decide +kernel
theorem dX10_readsRow_11 : decode cX10_readsRow 11 = .ok (.goto 7, 3) := by decide +kernel
theorem dX10_readsRow_14 : decode cX10_readsRow 14 = .ok (.aload_n 0, 1) := by decide +kernel
theorem dX10_readsRow_15 : decode cX10_readsRow 15 = .ok (.getfield 110, 3) := by decide +kernel
theorem dX10_readsRow_18 : decode cX10_readsRow 18 = .ok (.istore_n 2, 1) := by decide +kernel
theorem dX10_readsRow_19 : decode cX10_readsRow 19 = .ok (.aload_n 0, 1) := by decide +kernel
theorem dX10_readsRow_20 : decode cX10_readsRow 20 = .ok (.getfield 116, 3) := by decide +kernel
theorem dX10_readsRow_23 : decode cX10_readsRow 23 = .ok (.aload_n 0, 1) := by decide +kernel
theorem dX10_readsRow_24 : decode cX10_readsRow 24 = .ok (.getfield 25, 3) := by decide +kernel
theorem dX10_readsRow_27 : decode cX10_readsRow 27 = .ok (.iconst 0, 1) := by decide +kernel
theorem dX10_readsRow_28 : decode cX10_readsRow 28 = .ok (.iaload, 1) := by decide +kernel
theorem dX10_readsRow_29 : decode cX10_readsRow 29 = .ok (.if_icmp .ge 113, 3) := by decide +kernel
theorem dX10_readsRow_32 : decode cX10_readsRow 32 = .ok (.aload_n 0, 1) := by decide +kernel
theorem dX10_readsRow_33 : decode cX10_readsRow 33 = .ok (.getfield 22, 3) := by decide +kernel
theorem dX10_readsRow_36 : decode cX10_readsRow 36 = .ok (.aload_n 0, 1) := by decide +kernel
theorem dX10_readsRow_37 : decode cX10_readsRow 37 = .ok (.getfield 116, 3) := by decide +kernel
theorem dX10_readsRow_40 : decode cX10_readsRow 40 = .ok (.iaload, 1) := by decide +kernel
theorem dX10_readsRow_41 : decode cX10_readsRow 41 = .ok (.bipush 59, 2) := by decide +kernel
theorem dX10_readsRow_43 : decode cX10_readsRow 43 = .ok (.if_icmp .eq 99, 3) := by decide +kernel
theorem dX10_readsRow_46 : decode cX10_readsRow 46 = .ok (.aload_n 0, 1) := by decide +kernel
theorem dX10_readsRow_47 : decode cX10_readsRow 47 = .ok (.getfield 22, 3) := by decide +kernel
theorem dX10_readsRow_50 : decode cX10_readsRow 50 = .ok (.aload_n 0, 1) := by decide +kernel
theorem dX10_readsRow_51 : decode cX10_readsRow 51 = .ok (.getfield 116, 3) := by decide +kernel
theorem dX10_readsRow_54 : decode cX10_readsRow 54 = .ok (.iaload, 1) := by decide +kernel
theorem dX10_readsRow_55 : decode cX10_readsRow 55 = .ok (.bipush 48, 2) := by decide +kernel
theorem dX10_readsRow_57 : decode cX10_readsRow 57 = .ok (.isub, 1) := by decide +kernel
theorem dX10_readsRow_58 : decode cX10_readsRow 58 = .ok (.istore_n 3, 1) := by decide +kernel
theorem dX10_readsRow_59 : decode cX10_readsRow 59 = .ok (.aload_n 0, 1) := by decide +kernel
theorem dX10_readsRow_60 : decode cX10_readsRow 60 = .ok (.getfield 113, 3) := by decide +kernel
theorem dX10_readsRow_63 : decode cX10_readsRow 63 = .ok (.iconst 4, 1) := by decide +kernel
theorem dX10_readsRow_64 : decode cX10_readsRow 64 = .ok (.if_icmp .eq 20, 3) := by decide +kernel
theorem dX10_readsRow_67 : decode cX10_readsRow 67 = .ok (.iload_n 1, 1) := by decide +kernel
theorem dX10_readsRow_68 : decode cX10_readsRow 68 = .ok (.iload_n 2, 1) := by decide +kernel
theorem dX10_readsRow_69 : decode cX10_readsRow 69 = .ok (.if_icmp .eq 15, 3) := by decide +kernel
theorem dX10_readsRow_72 : decode cX10_readsRow 72 = .ok (.iload_n 3, 1) := by decide +kernel
theorem dX10_readsRow_73 : decode cX10_readsRow 73 = .ok (.i2l, 1) := by decide +kernel
theorem dX10_readsRow_74 : decode cX10_readsRow 74 = .ok (.lconst 0, 1) := by decide +kernel
theorem dX10_readsRow_75 : decode cX10_readsRow 75 = .ok (.ldc2_w 119, 3) := by decide +kernel
theorem dX10_readsRow_78 : decode cX10_readsRow 78 = .ok (.invokestatic 73, 3) := by decide +kernel
theorem dX10_readsRow_81 : decode cX10_readsRow 81 = .ok (.ifCond .ne 5, 3) := by decide +kernel
theorem dX10_readsRow_84 : decode cX10_readsRow 84 = .ok (.iconst 0, 1) := by decide +kernel
theorem dX10_readsRow_85 : decode cX10_readsRow 85 = .ok (.ireturn, 1) := by decide +kernel
theorem dX10_readsRow_86 : decode cX10_readsRow 86 = .ok (.aload_n 0, 1) := by decide +kernel
theorem dX10_readsRow_87 : decode cX10_readsRow 87 = .ok (.getfield 28, 3) := by decide +kernel
theorem dX10_readsRow_90 : decode cX10_readsRow 90 = .ok (.bipush 8, 2) := by decide +kernel
theorem dX10_readsRow_92 : decode cX10_readsRow 92 = .ok (.aload_n 0, 1) := by decide +kernel
theorem dX10_readsRow_93 : decode cX10_readsRow 93 = .ok (.getfield 113, 3) := by decide +kernel
theorem dX10_readsRow_96 : decode cX10_readsRow 96 = .ok (.imul, 1) := by decide +kernel
theorem dX10_readsRow_97 : decode cX10_readsRow 97 = .ok (.iload_n 1, 1) := by decide +kernel
theorem dX10_readsRow_98 : decode cX10_readsRow 98 = .ok (.iadd, 1) := by decide +kernel
theorem dX10_readsRow_99 : decode cX10_readsRow 99 = .ok (.iconst 1, 1) := by decide +kernel
theorem dX10_readsRow_100 : decode cX10_readsRow 100 = .ok (.bastore, 1) := by decide +kernel
theorem dX10_readsRow_101 : decode cX10_readsRow 101 = .ok (.aload_n 0, 1) := by decide +kernel
theorem dX10_readsRow_102 : decode cX10_readsRow 102 = .ok (.getfield 32, 3) := by decide +kernel
theorem dX10_readsRow_105 : decode cX10_readsRow 105 = .ok (.bipush 8, 2) := by decide +kernel
theorem dX10_readsRow_107 : decode cX10_readsRow 107 = .ok (.aload_n 0, 1) := by decide +kernel
theorem dX10_readsRow_108 : decode cX10_readsRow 108 = .ok (.getfield 113, 3) := by decide +kernel
theorem dX10_readsRow_111 : decode cX10_readsRow 111 = .ok (.imul, 1) := by decide +kernel
theorem dX10_readsRow_112 : decode cX10_readsRow 112 = .ok (.iload_n 1, 1) := by decide +kernel
theorem dX10_readsRow_113 : decode cX10_readsRow 113 = .ok (.iadd, 1) := by decide +kernel
theorem dX10_readsRow_114 : decode cX10_readsRow 114 = .ok (.iload_n 3, 1) := by decide +kernel
theorem dX10_readsRow_115 : decode cX10_readsRow 115 = .ok (.iastore, 1) := by decide +kernel
theorem dX10_readsRow_116 : decode cX10_readsRow 116 = .ok (.iinc 1 1, 3) := by decide +kernel
theorem dX10_readsRow_119 : decode cX10_readsRow 119 = .ok (.aload_n 0, 1) := by decide +kernel
theorem dX10_readsRow_120 : decode cX10_readsRow 120 = .ok (.dup, 1) := by decide +kernel
theorem dX10_readsRow_121 : decode cX10_readsRow 121 = .ok (.getfield 107, 3) := by decide +kernel
theorem dX10_readsRow_124 : decode cX10_readsRow 124 = .ok (.iconst 1, 1) := by decide +kernel
theorem dX10_readsRow_125 : decode cX10_readsRow 125 = .ok (.iadd, 1) := by decide +kernel
theorem dX10_readsRow_126 : decode cX10_readsRow 126 = .ok (.putfield 107, 3) := by decide +kernel
theorem dX10_readsRow_129 : decode cX10_readsRow 129 = .ok (.aload_n 0, 1) := by decide +kernel
theorem dX10_readsRow_130 : decode cX10_readsRow 130 = .ok (.dup, 1) := by decide +kernel
theorem dX10_readsRow_131 : decode cX10_readsRow 131 = .ok (.getfield 116, 3) := by decide +kernel
theorem dX10_readsRow_134 : decode cX10_readsRow 134 = .ok (.iconst 1, 1) := by decide +kernel
theorem dX10_readsRow_135 : decode cX10_readsRow 135 = .ok (.iadd, 1) := by decide +kernel
theorem dX10_readsRow_136 : decode cX10_readsRow 136 = .ok (.putfield 116, 3) := by decide +kernel
theorem dX10_readsRow_139 : decode cX10_readsRow 139 = .ok (.goto (-120), 3) := by decide +kernel
theorem dX10_readsRow_142 : decode cX10_readsRow 142 = .ok (.iload_n 1, 1) := by decide +kernel
theorem dX10_readsRow_143 : decode cX10_readsRow 143 = .ok (.ifCond .eq 18, 3) := by decide +kernel
theorem dX10_readsRow_146 : decode cX10_readsRow 146 = .ok (.aload_n 0, 1) := by decide +kernel
theorem dX10_readsRow_147 : decode cX10_readsRow 147 = .ok (.getfield 113, 3) := by decide +kernel
theorem dX10_readsRow_150 : decode cX10_readsRow 150 = .ok (.ifCond .le 13, 3) := by decide +kernel
theorem dX10_readsRow_153 : decode cX10_readsRow 153 = .ok (.iload_n 1, 1) := by decide +kernel
theorem dX10_readsRow_154 : decode cX10_readsRow 154 = .ok (.aload_n 0, 1) := by decide +kernel
theorem dX10_readsRow_155 : decode cX10_readsRow 155 = .ok (.getfield 110, 3) := by decide +kernel
theorem dX10_readsRow_158 : decode cX10_readsRow 158 = .ok (.if_icmp .ge 5, 3) := by decide +kernel
theorem dX10_readsRow_161 : decode cX10_readsRow 161 = .ok (.iconst 0, 1) := by decide +kernel
theorem dX10_readsRow_162 : decode cX10_readsRow 162 = .ok (.ireturn, 1) := by decide +kernel
theorem dX10_readsRow_163 : decode cX10_readsRow 163 = .ok (.aload_n 0, 1) := by decide +kernel
theorem dX10_readsRow_164 : decode cX10_readsRow 164 = .ok (.iload_n 1, 1) := by decide +kernel
theorem dX10_readsRow_165 : decode cX10_readsRow 165 = .ok (.putfield 110, 3) := by decide +kernel
theorem dX10_readsRow_168 : decode cX10_readsRow 168 = .ok (.aload_n 0, 1) := by decide +kernel
theorem dX10_readsRow_169 : decode cX10_readsRow 169 = .ok (.dup, 1) := by decide +kernel
theorem dX10_readsRow_170 : decode cX10_readsRow 170 = .ok (.getfield 113, 3) := by decide +kernel
theorem dX10_readsRow_173 : decode cX10_readsRow 173 = .ok (.iconst 1, 1) := by decide +kernel
theorem dX10_readsRow_174 : decode cX10_readsRow 174 = .ok (.iadd, 1) := by decide +kernel
theorem dX10_readsRow_175 : decode cX10_readsRow 175 = .ok (.putfield 113, 3) := by decide +kernel
theorem dX10_readsRow_178 : decode cX10_readsRow 178 = .ok (.iconst 1, 1) := by decide +kernel
theorem dX10_readsRow_179 : decode cX10_readsRow 179 = .ok (.ireturn, 1) := by decide +kernel
theorem dX10_readsPane_0 : decode cX10_readsPane 0 = .ok (.aload_n 0, 1) := by decide +kernel
theorem dX10_readsPane_1 : decode cX10_readsPane 1 = .ok (.invokevirtual 121, 3) := by decide +kernel
theorem dX10_readsPane_4 : decode cX10_readsPane 4 = .ok (.aload_n 0, 1) := by decide +kernel
theorem dX10_readsPane_5 : decode cX10_readsPane 5 = .ok (.iconst 0, 1) := by decide +kernel
theorem dX10_readsPane_6 : decode cX10_readsPane 6 = .ok (.putfield 116, 3) := by decide +kernel
theorem dX10_readsPane_9 : decode cX10_readsPane 9 = .ok (.aload_n 0, 1) := by decide +kernel
theorem dX10_readsPane_10 : decode cX10_readsPane 10 = .ok (.getfield 25, 3) := by decide +kernel
theorem dX10_readsPane_13 : decode cX10_readsPane 13 = .ok (.iconst 0, 1) := by decide +kernel
theorem dX10_readsPane_14 : decode cX10_readsPane 14 = .ok (.iaload, 1) := by decide +kernel
theorem dX10_readsPane_15 : decode cX10_readsPane 15 = .ok (.ifCond .le 7, 3) := by decide +kernel
theorem dX10_readsPane_18 : decode cX10_readsPane 18 = .ok (.iconst 1, 1) := by decide +kernel
theorem dX10_readsPane_19 : decode cX10_readsPane 19 = .ok (.goto 4, 3) := by decide +kernel
theorem dX10_readsPane_22 : decode cX10_readsPane 22 = .ok (.iconst 0, 1) := by decide +kernel
theorem dX10_readsPane_23 : decode cX10_readsPane 23 = .ok (.istore_n 1, 1) := by decide +kernel
theorem dX10_readsPane_24 : decode cX10_readsPane 24 = .ok (.iload_n 1, 1) := by decide +kernel
theorem dX10_readsPane_25 : decode cX10_readsPane 25 = .ok (.ifCond .eq 59, 3) := by decide +kernel
theorem dX10_readsPane_28 : decode cX10_readsPane 28 = .ok (.aload_n 0, 1) := by decide +kernel
theorem dX10_readsPane_29 : decode cX10_readsPane 29 = .ok (.invokevirtual 124, 3) := by decide +kernel
theorem dX10_readsPane_32 : decode cX10_readsPane 32 = .ok (.ifCond .ne 12, 3) := by decide +kernel
theorem dX10_readsPane_35 : decode cX10_readsPane 35 = .ok (.aload_n 0, 1) := by decide +kernel
theorem dX10_readsPane_36 : decode cX10_readsPane 36 = .ok (.invokevirtual 121, 3) := by decide +kernel
theorem dX10_readsPane_39 : decode cX10_readsPane 39 = .ok (.aload_n 0, 1) := by decide +kernel
theorem dX10_readsPane_40 : decode cX10_readsPane 40 = .ok (.getfield 116, 3) := by decide +kernel
theorem dX10_readsPane_43 : decode cX10_readsPane 43 = .ok (.ireturn, 1) := by decide +kernel
theorem dX10_readsPane_44 : decode cX10_readsPane 44 = .ok (.aload_n 0, 1) := by decide +kernel
theorem dX10_readsPane_45 : decode cX10_readsPane 45 = .ok (.getfield 116, 3) := by decide +kernel
theorem dX10_readsPane_48 : decode cX10_readsPane 48 = .ok (.aload_n 0, 1) := by decide +kernel
theorem dX10_readsPane_49 : decode cX10_readsPane 49 = .ok (.getfield 25, 3) := by decide +kernel
theorem dX10_readsPane_52 : decode cX10_readsPane 52 = .ok (.iconst 0, 1) := by decide +kernel
theorem dX10_readsPane_53 : decode cX10_readsPane 53 = .ok (.iaload, 1) := by decide +kernel
theorem dX10_readsPane_54 : decode cX10_readsPane 54 = .ok (.if_icmp .ge 7, 3) := by decide +kernel
theorem dX10_readsPane_57 : decode cX10_readsPane 57 = .ok (.iconst 1, 1) := by decide +kernel
theorem dX10_readsPane_58 : decode cX10_readsPane 58 = .ok (.goto 4, 3) := by decide +kernel
theorem dX10_readsPane_61 : decode cX10_readsPane 61 = .ok (.iconst 0, 1) := by decide +kernel
theorem dX10_readsPane_62 : decode cX10_readsPane 62 = .ok (.istore_n 1, 1) := by decide +kernel
theorem dX10_readsPane_63 : decode cX10_readsPane 63 = .ok (.aload_n 0, 1) := by decide +kernel
theorem dX10_readsPane_64 : decode cX10_readsPane 64 = .ok (.dup, 1) := by decide +kernel
theorem dX10_readsPane_65 : decode cX10_readsPane 65 = .ok (.getfield 116, 3) := by decide +kernel
theorem dX10_readsPane_68 : decode cX10_readsPane 68 = .ok (.iload_n 1, 1) := by decide +kernel
theorem dX10_readsPane_69 : decode cX10_readsPane 69 = .ok (.ifCond .eq 7, 3) := by decide +kernel
theorem dX10_readsPane_72 : decode cX10_readsPane 72 = .ok (.iconst 1, 1) := by decide +kernel
theorem dX10_readsPane_73 : decode cX10_readsPane 73 = .ok (.goto 4, 3) := by decide +kernel
theorem dX10_readsPane_76 : decode cX10_readsPane 76 = .ok (.iconst 0, 1) := by decide +kernel
theorem dX10_readsPane_77 : decode cX10_readsPane 77 = .ok (.iadd, 1) := by decide +kernel
theorem dX10_readsPane_78 : decode cX10_readsPane 78 = .ok (.putfield 116, 3) := by decide +kernel
theorem dX10_readsPane_81 : decode cX10_readsPane 81 = .ok (.goto (-57), 3) := by decide +kernel
theorem dX10_readsPane_84 : decode cX10_readsPane 84 = .ok (.iconst (-1), 1) := by decide +kernel
theorem dX10_readsPane_85 : decode cX10_readsPane 85 = .ok (.ireturn, 1) := by decide +kernel
theorem dX10_kindOf_0 : decode cX10_kindOf 0 = .ok (.iload_n 0, 1) := by decide +kernel
theorem dX10_kindOf_1 : decode cX10_kindOf 1 = .ok (.bipush 46, 2) := by decide +kernel
theorem dX10_kindOf_3 : decode cX10_kindOf 3 = .ok (.if_icmp .ne 7, 3) := by decide +kernel
theorem dX10_kindOf_6 : decode cX10_kindOf 6 = .ok (.iconst 0, 1) := by decide +kernel
theorem dX10_kindOf_7 : decode cX10_kindOf 7 = .ok (.goto 44, 3) := by decide +kernel
theorem dX10_kindOf_10 : decode cX10_kindOf 10 = .ok (.iload_n 0, 1) := by decide +kernel
theorem dX10_kindOf_11 : decode cX10_kindOf 11 = .ok (.bipush 108, 2) := by decide +kernel
theorem dX10_kindOf_13 : decode cX10_kindOf 13 = .ok (.if_icmp .ne 7, 3) := by decide +kernel
theorem dX10_kindOf_16 : decode cX10_kindOf 16 = .ok (.iconst 1, 1) := by decide +kernel
theorem dX10_kindOf_17 : decode cX10_kindOf 17 = .ok (.goto 34, 3) := by decide +kernel
theorem dX10_kindOf_20 : decode cX10_kindOf 20 = .ok (.iload_n 0, 1) := by decide +kernel
theorem dX10_kindOf_21 : decode cX10_kindOf 21 = .ok (.bipush 114, 2) := by decide +kernel
theorem dX10_kindOf_23 : decode cX10_kindOf 23 = .ok (.if_icmp .ne 7, 3) := by decide +kernel
theorem dX10_kindOf_26 : decode cX10_kindOf 26 = .ok (.iconst 2, 1) := by decide +kernel
theorem dX10_kindOf_27 : decode cX10_kindOf 27 = .ok (.goto 24, 3) := by decide +kernel
theorem dX10_kindOf_30 : decode cX10_kindOf 30 = .ok (.iload_n 0, 1) := by decide +kernel
theorem dX10_kindOf_31 : decode cX10_kindOf 31 = .ok (.bipush 115, 2) := by decide +kernel
theorem dX10_kindOf_33 : decode cX10_kindOf 33 = .ok (.if_icmp .ne 7, 3) := by decide +kernel
theorem dX10_kindOf_36 : decode cX10_kindOf 36 = .ok (.iconst 3, 1) := by decide +kernel
theorem dX10_kindOf_37 : decode cX10_kindOf 37 = .ok (.goto 14, 3) := by decide +kernel
theorem dX10_kindOf_40 : decode cX10_kindOf 40 = .ok (.iload_n 0, 1) := by decide +kernel
theorem dX10_kindOf_41 : decode cX10_kindOf 41 = .ok (.bipush 120, 2) := by decide +kernel
theorem dX10_kindOf_43 : decode cX10_kindOf 43 = .ok (.if_icmp .ne 7, 3) := by decide +kernel
theorem dX10_kindOf_46 : decode cX10_kindOf 46 = .ok (.iconst 4, 1) := by decide +kernel
theorem dX10_kindOf_47 : decode cX10_kindOf 47 = .ok (.goto 4, 3) := by decide +kernel
theorem dX10_kindOf_50 : decode cX10_kindOf 50 = .ok (.iconst (-1), 1) := by decide +kernel
theorem dX10_kindOf_51 : decode cX10_kindOf 51 = .ok (.ireturn, 1) := by decide +kernel
theorem dX10_readsRoad_0 : decode cX10_readsRoad 0 = .ok (.aload_n 0, 1) := by decide +kernel
theorem dX10_readsRoad_1 : decode cX10_readsRoad 1 = .ok (.iconst 0, 1) := by decide +kernel
theorem dX10_readsRoad_2 : decode cX10_readsRoad 2 = .ok (.putfield 128, 3) := by decide +kernel
theorem dX10_readsRoad_5 : decode cX10_readsRoad 5 = .ok (.iconst 0, 1) := by decide +kernel
theorem dX10_readsRoad_6 : decode cX10_readsRoad 6 = .ok (.istore_n 1, 1) := by decide +kernel
theorem dX10_readsRoad_7 : decode cX10_readsRoad 7 = .ok (.iload_n 1, 1) := by decide +kernel
theorem dX10_readsRoad_8 : decode cX10_readsRoad 8 = .ok (.aload_n 0, 1) := by decide +kernel
theorem dX10_readsRoad_9 : decode cX10_readsRoad 9 = .ok (.getfield 25, 3) := by decide +kernel
theorem dX10_readsRoad_12 : decode cX10_readsRoad 12 = .ok (.iconst 1, 1) := by decide +kernel
theorem dX10_readsRoad_13 : decode cX10_readsRoad 13 = .ok (.iaload, 1) := by decide +kernel
theorem dX10_readsRoad_14 : decode cX10_readsRoad 14 = .ok (.if_icmp .ge 54, 3) := by decide +kernel
theorem dX10_readsRoad_17 : decode cX10_readsRoad 17 = .ok (.aload_n 0, 1) := by decide +kernel
theorem dX10_readsRoad_18 : decode cX10_readsRoad 18 = .ok (.getfield 22, 3) := by decide +kernel
theorem dX10_readsRoad_21 : decode cX10_readsRoad 21 = .ok (.bipush 40, 2) := by decide +kernel
theorem dX10_readsRoad_23 : decode cX10_readsRoad 23 = .ok (.iload_n 1, 1) := by decide +kernel
theorem dX10_readsRoad_24 : decode cX10_readsRoad 24 = .ok (.iadd, 1) := by decide +kernel
theorem dX10_readsRoad_25 : decode cX10_readsRoad 25 = .ok (.iaload, 1) := by decide +kernel
theorem dX10_readsRoad_26 : decode cX10_readsRoad 26 = .ok (.invokestatic 131, 3) := by decide +kernel
theorem dX10_readsRoad_29 : decode cX10_readsRoad 29 = .ok (.istore_n 2, 1) := by decide +kernel
theorem dX10_readsRoad_30 : decode cX10_readsRoad 30 = .ok (.iload_n 2, 1) := by decide +kernel
theorem dX10_readsRoad_31 : decode cX10_readsRoad 31 = .ok (.iconst (-1), 1) := by decide +kernel
theorem dX10_readsRoad_32 : decode cX10_readsRoad 32 = .ok (.if_icmp .ne 10, 3) := by decide +kernel
theorem dX10_readsRoad_35 : decode cX10_readsRoad 35 = .ok (.aload_n 0, 1) := by decide +kernel
theorem dX10_readsRoad_36 : decode cX10_readsRoad 36 = .ok (.iconst 0, 1) := by decide +kernel
theorem dX10_readsRoad_37 : decode cX10_readsRoad 37 = .ok (.putfield 128, 3) := by decide +kernel
theorem dX10_readsRoad_40 : decode cX10_readsRoad 40 = .ok (.iload_n 1, 1) := by decide +kernel
theorem dX10_readsRoad_41 : decode cX10_readsRoad 41 = .ok (.ireturn, 1) := by decide +kernel
theorem dX10_readsRoad_42 : decode cX10_readsRoad 42 = .ok (.aload_n 0, 1) := by decide +kernel
theorem dX10_readsRoad_43 : decode cX10_readsRoad 43 = .ok (.getfield 38, 3) := by decide +kernel
theorem dX10_readsRoad_46 : decode cX10_readsRoad 46 = .ok (.aload_n 0, 1) := by decide +kernel
theorem dX10_readsRoad_47 : decode cX10_readsRoad 47 = .ok (.getfield 128, 3) := by decide +kernel
theorem dX10_readsRoad_50 : decode cX10_readsRoad 50 = .ok (.iload_n 2, 1) := by decide +kernel
theorem dX10_readsRoad_51 : decode cX10_readsRoad 51 = .ok (.iastore, 1) := by decide +kernel
theorem dX10_readsRoad_52 : decode cX10_readsRoad 52 = .ok (.aload_n 0, 1) := by decide +kernel
theorem dX10_readsRoad_53 : decode cX10_readsRoad 53 = .ok (.dup, 1) := by decide +kernel
theorem dX10_readsRoad_54 : decode cX10_readsRoad 54 = .ok (.getfield 128, 3) := by decide +kernel
theorem dX10_readsRoad_57 : decode cX10_readsRoad 57 = .ok (.iconst 1, 1) := by decide +kernel
theorem dX10_readsRoad_58 : decode cX10_readsRoad 58 = .ok (.iadd, 1) := by decide +kernel
theorem dX10_readsRoad_59 : decode cX10_readsRoad 59 = .ok (.putfield 128, 3) := by decide +kernel
theorem dX10_readsRoad_62 : decode cX10_readsRoad 62 = .ok (.iinc 1 1, 3) := by decide +kernel
theorem dX10_readsRoad_65 : decode cX10_readsRoad 65 = .ok (.goto (-58), 3) := by decide +kernel
theorem dX10_readsRoad_68 : decode cX10_readsRoad 68 = .ok (.iconst (-1), 1) := by decide +kernel
theorem dX10_readsRoad_69 : decode cX10_readsRoad 69 = .ok (.ireturn, 1) := by decide +kernel
theorem dX10_fault_0 : decode cX10_fault 0 = .ok (.iload_n 1, 1) := by decide +kernel
theorem dX10_fault_1 : decode cX10_fault 1 = .ok (.invokestatic 102, 3) := by decide +kernel
theorem dX10_fault_4 : decode cX10_fault 4 = .ok (.ifCond .ne 8, 3) := by decide +kernel
theorem dX10_fault_7 : decode cX10_fault 7 = .ok (.bipush (-2), 2) := by decide +kernel
theorem dX10_fault_9 : decode cX10_fault 9 = .ok (.goto 18, 3) := by decide +kernel
theorem dX10_fault_12 : decode cX10_fault 12 = .ok (.iload_n 1, 1) := by decide +kernel
theorem dX10_fault_13 : decode cX10_fault 13 = .ok (.ifCond .ne 10, 3) := by decide +kernel
theorem dX10_fault_16 : decode cX10_fault 16 = .ok (.aload_n 0, 1) := by decide +kernel
theorem dX10_fault_17 : decode cX10_fault 17 = .ok (.invokevirtual 134, 3) := by decide +kernel
theorem dX10_fault_20 : decode cX10_fault 20 = .ok (.goto 7, 3) := by decide +kernel
theorem dX10_fault_23 : decode cX10_fault 23 = .ok (.aload_n 0, 1) := by decide +kernel
theorem dX10_fault_24 : decode cX10_fault 24 = .ok (.invokevirtual 138, 3) := by decide +kernel
theorem dX10_fault_27 : decode cX10_fault 27 = .ok (.ireturn, 1) := by decide +kernel
theorem dX10_isTool_0 : decode cX10_isTool 0 = .ok (.iload_n 0, 1) := by decide +kernel
theorem dX10_isTool_1 : decode cX10_isTool 1 = .ok (.i2l, 1) := by decide +kernel
theorem dX10_isTool_2 : decode cX10_isTool 2 = .ok (.lconst 0, 1) := by decide +kernel
theorem dX10_isTool_3 : decode cX10_isTool 3 = .ok (.ldc2_w 81, 3) := by decide +kernel
theorem dX10_isTool_6 : decode cX10_isTool 6 = .ok (.invokestatic 73, 3) := by decide +kernel
theorem dX10_isTool_9 : decode cX10_isTool 9 = .ok (.ireturn, 1) := by decide +kernel
theorem dX10_isAnyCell_0 : decode cX10_isAnyCell 0 = .ok (.iload_n 0, 1) := by decide +kernel
theorem dX10_isAnyCell_1 : decode cX10_isAnyCell 1 = .ok (.i2l, 1) := by decide +kernel
theorem dX10_isAnyCell_2 : decode cX10_isAnyCell 2 = .ok (.lconst 0, 1) := by decide +kernel
theorem dX10_isAnyCell_3 : decode cX10_isAnyCell 3 = .ok (.ldc2_w 141, 3) := by decide +kernel
theorem dX10_isAnyCell_6 : decode cX10_isAnyCell 6 = .ok (.invokestatic 73, 3) := by decide +kernel
theorem dX10_isAnyCell_9 : decode cX10_isAnyCell 9 = .ok (.ireturn, 1) := by decide +kernel
theorem dX10_tool_0 : decode cX10_tool 0 = .ok (.iload_n 1, 1) := by decide +kernel
theorem dX10_tool_1 : decode cX10_tool 1 = .ok (.invokestatic 143, 3) := by decide +kernel
theorem dX10_tool_4 : decode cX10_tool 4 = .ok (.ifCond .eq 35, 3) := by decide +kernel
theorem dX10_tool_7 : decode cX10_tool 7 = .ok (.iload_n 2, 1) := by decide +kernel
theorem dX10_tool_8 : decode cX10_tool 8 = .ok (.invokestatic 102, 3) := by decide +kernel
theorem dX10_tool_11 : decode cX10_tool 11 = .ok (.ifCond .eq 28, 3) := by decide +kernel
theorem dX10_tool_14 : decode cX10_tool 14 = .ok (.iload_n 3, 1) := by decide +kernel
theorem dX10_tool_15 : decode cX10_tool 15 = .ok (.i2l, 1) := by decide +kernel
theorem dX10_tool_16 : decode cX10_tool 16 = .ok (.iconst 1, 1) := by decide +kernel
theorem dX10_tool_17 : decode cX10_tool 17 = .ok (.iload_n 2, 1) := by decide +kernel
theorem dX10_tool_18 : decode cX10_tool 18 = .ok (.isub, 1) := by decide +kernel
theorem dX10_tool_19 : decode cX10_tool 19 = .ok (.i2l, 1) := by decide +kernel
theorem dX10_tool_20 : decode cX10_tool 20 = .ok (.iload_n 2, 1) := by decide +kernel
theorem dX10_tool_21 : decode cX10_tool 21 = .ok (.ifCond .ne 9, 3) := by decide +kernel
theorem dX10_tool_24 : decode cX10_tool 24 = .ok (.ldc2_w 146, 3) := by decide +kernel
theorem dX10_tool_27 : decode cX10_tool 27 = .ok (.goto 6, 3) := by decide +kernel
theorem dX10_tool_30 : decode cX10_tool 30 = .ok (.ldc2_w 148, 3) := by decide +kernel
theorem dX10_tool_33 : decode cX10_tool 33 = .ok (.invokestatic 73, 3) := by decide +kernel
theorem dX10_tool_36 : decode cX10_tool 36 = .ok (.ifCond .ne 6, 3) := by decide +kernel
theorem dX10_tool_39 : decode cX10_tool 39 = .ok (.bipush (-2), 2) := by decide +kernel
theorem dX10_tool_41 : decode cX10_tool 41 = .ok (.ireturn, 1) := by decide +kernel
theorem dX10_tool_42 : decode cX10_tool 42 = .ok (.iload_n 2, 1) := by decide +kernel
theorem dX10_tool_43 : decode cX10_tool 43 = .ok (.ifCond .ne 12, 3) := by decide +kernel
theorem dX10_tool_46 : decode cX10_tool 46 = .ok (.aload_n 0, 1) := by decide +kernel
theorem dX10_tool_47 : decode cX10_tool 47 = .ok (.getfield 41, 3) := by decide +kernel
theorem dX10_tool_50 : decode cX10_tool 50 = .ok (.iload_n 1, 1) := by decide +kernel
theorem dX10_tool_51 : decode cX10_tool 51 = .ok (.iaload, 1) := by decide +kernel
theorem dX10_tool_52 : decode cX10_tool 52 = .ok (.goto 9, 3) := by decide +kernel
theorem dX10_tool_55 : decode cX10_tool 55 = .ok (.aload_n 0, 1) := by decide +kernel
theorem dX10_tool_56 : decode cX10_tool 56 = .ok (.getfield 44, 3) := by decide +kernel
theorem dX10_tool_59 : decode cX10_tool 59 = .ok (.iload_n 1, 1) := by decide +kernel
theorem dX10_tool_60 : decode cX10_tool 60 = .ok (.iaload, 1) := by decide +kernel
theorem dX10_tool_61 : decode cX10_tool 61 = .ok (.istore 4, 2) := by decide +kernel
theorem dX10_tool_63 : decode cX10_tool 63 = .ok (.aload_n 0, 1) := by decide +kernel
theorem dX10_tool_64 : decode cX10_tool 64 = .ok (.getfield 41, 3) := by decide +kernel
theorem dX10_tool_67 : decode cX10_tool 67 = .ok (.iload_n 1, 1) := by decide +kernel
theorem dX10_tool_68 : decode cX10_tool 68 = .ok (.iload_n 2, 1) := by decide +kernel
theorem dX10_tool_69 : decode cX10_tool 69 = .ok (.ifCond .ne 7, 3) := by decide +kernel
theorem dX10_tool_72 : decode cX10_tool 72 = .ok (.iload_n 3, 1) := by decide +kernel
theorem dX10_tool_73 : decode cX10_tool 73 = .ok (.goto 9, 3) := by decide +kernel
theorem dX10_tool_76 : decode cX10_tool 76 = .ok (.aload_n 0, 1) := by decide +kernel
theorem dX10_tool_77 : decode cX10_tool 77 = .ok (.getfield 41, 3) := by decide +kernel
theorem dX10_tool_80 : decode cX10_tool 80 = .ok (.iload_n 1, 1) := by decide +kernel
theorem dX10_tool_81 : decode cX10_tool 81 = .ok (.iaload, 1) := by decide +kernel
theorem dX10_tool_82 : decode cX10_tool 82 = .ok (.iastore, 1) := by decide +kernel
theorem dX10_tool_83 : decode cX10_tool 83 = .ok (.aload_n 0, 1) := by decide +kernel
theorem dX10_tool_84 : decode cX10_tool 84 = .ok (.getfield 44, 3) := by decide +kernel
theorem dX10_tool_87 : decode cX10_tool 87 = .ok (.iload_n 1, 1) := by decide +kernel
theorem dX10_tool_88 : decode cX10_tool 88 = .ok (.iload_n 2, 1) := by decide +kernel
theorem dX10_tool_89 : decode cX10_tool 89 = .ok (.iconst 1, 1) := by decide +kernel
theorem dX10_tool_90 : decode cX10_tool 90 = .ok (.if_icmp .ne 7, 3) := by decide +kernel
theorem dX10_tool_93 : decode cX10_tool 93 = .ok (.iload_n 3, 1) := by decide +kernel
theorem dX10_tool_94 : decode cX10_tool 94 = .ok (.goto 9, 3) := by decide +kernel
theorem dX10_tool_97 : decode cX10_tool 97 = .ok (.aload_n 0, 1) := by decide +kernel
theorem dX10_tool_98 : decode cX10_tool 98 = .ok (.getfield 44, 3) := by decide +kernel
theorem dX10_tool_101 : decode cX10_tool 101 = .ok (.iload_n 1, 1) := by decide +kernel
theorem dX10_tool_102 : decode cX10_tool 102 = .ok (.iaload, 1) := by decide +kernel
theorem dX10_tool_103 : decode cX10_tool 103 = .ok (.iastore, 1) := by decide +kernel
theorem dX10_tool_104 : decode cX10_tool 104 = .ok (.iload 4, 2) := by decide +kernel
theorem dX10_tool_106 : decode cX10_tool 106 = .ok (.ireturn, 1) := by decide +kernel
theorem dX10_looks_0 : decode cX10_looks 0 = .ok (.iload_n 1, 1) := by decide +kernel
theorem dX10_looks_1 : decode cX10_looks 1 = .ok (.i2l, 1) := by decide +kernel
theorem dX10_looks_2 : decode cX10_looks 2 = .ok (.lconst 0, 1) := by decide +kernel
theorem dX10_looks_3 : decode cX10_looks 3 = .ok (.ldc2_w 150, 3) := by decide +kernel
theorem dX10_looks_6 : decode cX10_looks 6 = .ok (.invokestatic 73, 3) := by decide +kernel
theorem dX10_looks_9 : decode cX10_looks 9 = .ok (.ifCond .eq 22, 3) := by decide +kernel
theorem dX10_looks_12 : decode cX10_looks 12 = .ok (.iload_n 2, 1) := by decide +kernel
theorem dX10_looks_13 : decode cX10_looks 13 = .ok (.invokestatic 152, 3) := by decide +kernel
theorem dX10_looks_16 : decode cX10_looks 16 = .ok (.ifCond .eq 15, 3) := by decide +kernel
theorem dX10_looks_19 : decode cX10_looks 19 = .ok (.iload_n 3, 1) := by decide +kernel
theorem dX10_looks_20 : decode cX10_looks 20 = .ok (.i2l, 1) := by decide +kernel
theorem dX10_looks_21 : decode cX10_looks 21 = .ok (.lconst 0, 1) := by decide +kernel
theorem dX10_looks_22 : decode cX10_looks 22 = .ok (.ldc2_w 119, 3) := by decide +kernel
theorem dX10_looks_25 : decode cX10_looks 25 = .ok (.invokestatic 73, 3) := by decide +kernel
theorem dX10_looks_28 : decode cX10_looks 28 = .ok (.ifCond .ne 6, 3) := by decide +kernel
theorem dX10_looks_31 : decode cX10_looks 31 = .ok (.bipush (-2), 2) := by decide +kernel
theorem dX10_looks_33 : decode cX10_looks 33 = .ok (.ireturn, 1) := by decide +kernel
theorem dX10_looks_34 : decode cX10_looks 34 = .ok (.aload_n 0, 1) := by decide +kernel
theorem dX10_looks_35 : decode cX10_looks 35 = .ok (.getfield 47, 3) := by decide +kernel
theorem dX10_looks_38 : decode cX10_looks 38 = .ok (.bipush 32, 2) := by decide +kernel
theorem dX10_looks_40 : decode cX10_looks 40 = .ok (.iload_n 1, 1) := by decide +kernel
theorem dX10_looks_41 : decode cX10_looks 41 = .ok (.imul, 1) := by decide +kernel
theorem dX10_looks_42 : decode cX10_looks 42 = .ok (.iload_n 2, 1) := by decide +kernel
theorem dX10_looks_43 : decode cX10_looks 43 = .ok (.iadd, 1) := by decide +kernel
theorem dX10_looks_44 : decode cX10_looks 44 = .ok (.iaload, 1) := by decide +kernel
theorem dX10_looks_45 : decode cX10_looks 45 = .ok (.istore 4, 2) := by decide +kernel
theorem dX10_looks_47 : decode cX10_looks 47 = .ok (.aload_n 0, 1) := by decide +kernel
theorem dX10_looks_48 : decode cX10_looks 48 = .ok (.getfield 47, 3) := by decide +kernel
theorem dX10_looks_51 : decode cX10_looks 51 = .ok (.bipush 32, 2) := by decide +kernel
theorem dX10_looks_53 : decode cX10_looks 53 = .ok (.iload_n 1, 1) := by decide +kernel
theorem dX10_looks_54 : decode cX10_looks 54 = .ok (.imul, 1) := by decide +kernel
theorem dX10_looks_55 : decode cX10_looks 55 = .ok (.iload_n 2, 1) := by decide +kernel
theorem dX10_looks_56 : decode cX10_looks 56 = .ok (.iadd, 1) := by decide +kernel
theorem dX10_looks_57 : decode cX10_looks 57 = .ok (.iload_n 3, 1) := by decide +kernel
theorem dX10_looks_58 : decode cX10_looks 58 = .ok (.iastore, 1) := by decide +kernel
theorem dX10_looks_59 : decode cX10_looks 59 = .ok (.iload 4, 2) := by decide +kernel
theorem dX10_looks_61 : decode cX10_looks 61 = .ok (.ireturn, 1) := by decide +kernel
theorem dX10_read_0 : decode cX10_read 0 = .ok (.iload_n 1, 1) := by decide +kernel
theorem dX10_read_1 : decode cX10_read 1 = .ok (.invokestatic 83, 3) := by decide +kernel
theorem dX10_read_4 : decode cX10_read 4 = .ok (.ifCond .eq 15, 3) := by decide +kernel
theorem dX10_read_7 : decode cX10_read 7 = .ok (.iload_n 2, 1) := by decide +kernel
theorem dX10_read_8 : decode cX10_read 8 = .ok (.i2l, 1) := by decide +kernel
theorem dX10_read_9 : decode cX10_read 9 = .ok (.lconst 0, 1) := by decide +kernel
theorem dX10_read_10 : decode cX10_read 10 = .ok (.ldc2_w 150, 3) := by decide +kernel
theorem dX10_read_13 : decode cX10_read 13 = .ok (.invokestatic 73, 3) := by decide +kernel
theorem dX10_read_16 : decode cX10_read 16 = .ok (.ifCond .ne 6, 3) := by decide +kernel
theorem dX10_read_19 : decode cX10_read 19 = .ok (.bipush (-2), 2) := by decide +kernel
theorem dX10_read_21 : decode cX10_read 21 = .ok (.ireturn, 1) := by decide +kernel
theorem dX10_read_22 : decode cX10_read 22 = .ok (.aload_n 0, 1) := by decide +kernel
theorem dX10_read_23 : decode cX10_read 23 = .ok (.getfield 7, 3) := by decide +kernel
theorem dX10_read_26 : decode cX10_read 26 = .ok (.iload_n 1, 1) := by decide +kernel
theorem dX10_read_27 : decode cX10_read 27 = .ok (.iaload, 1) := by decide +kernel
theorem dX10_read_28 : decode cX10_read 28 = .ok (.ifCond .ge 9, 3) := by decide +kernel
theorem dX10_read_31 : decode cX10_read 31 = .ok (.aload_n 0, 1) := by decide +kernel
theorem dX10_read_32 : decode cX10_read 32 = .ok (.iconst 1, 1) := by decide +kernel
theorem dX10_read_33 : decode cX10_read 33 = .ok (.invokevirtual 89, 3) := by decide +kernel
theorem dX10_read_36 : decode cX10_read 36 = .ok (.ireturn, 1) := by decide +kernel
theorem dX10_read_37 : decode cX10_read 37 = .ok (.iconst 0, 1) := by decide +kernel
theorem dX10_read_38 : decode cX10_read 38 = .ok (.istore_n 3, 1) := by decide +kernel
theorem dX10_read_39 : decode cX10_read 39 = .ok (.iload_n 3, 1) := by decide +kernel
theorem dX10_read_40 : decode cX10_read 40 = .ok (.aload_n 0, 1) := by decide +kernel
theorem dX10_read_41 : decode cX10_read 41 = .ok (.getfield 13, 3) := by decide +kernel
theorem dX10_read_44 : decode cX10_read 44 = .ok (.iload_n 1, 1) := by decide +kernel
theorem dX10_read_45 : decode cX10_read 45 = .ok (.iaload, 1) := by decide +kernel
theorem dX10_read_46 : decode cX10_read 46 = .ok (.if_icmp .ge 29, 3) := by decide +kernel
theorem dX10_read_49 : decode cX10_read 49 = .ok (.aload_n 0, 1) := by decide +kernel
theorem dX10_read_50 : decode cX10_read 50 = .ok (.iload_n 2, 1) := by decide +kernel
theorem dX10_read_51 : decode cX10_read 51 = .ok (.iload_n 3, 1) := by decide +kernel
theorem dX10_read_52 : decode cX10_read 52 = .ok (.aload_n 0, 1) := by decide +kernel
theorem dX10_read_53 : decode cX10_read 53 = .ok (.getfield 16, 3) := by decide +kernel
theorem dX10_read_56 : decode cX10_read 56 = .ok (.bipush 60, 2) := by decide +kernel
theorem dX10_read_58 : decode cX10_read 58 = .ok (.iload_n 1, 1) := by decide +kernel
theorem dX10_read_59 : decode cX10_read 59 = .ok (.imul, 1) := by decide +kernel
theorem dX10_read_60 : decode cX10_read 60 = .ok (.iload_n 3, 1) := by decide +kernel
theorem dX10_read_61 : decode cX10_read 61 = .ok (.iadd, 1) := by decide +kernel
theorem dX10_read_62 : decode cX10_read 62 = .ok (.iaload, 1) := by decide +kernel
theorem dX10_read_63 : decode cX10_read 63 = .ok (.invokevirtual 155, 3) := by decide +kernel
theorem dX10_read_66 : decode cX10_read 66 = .ok (.ifCond .lt 9, 3) := by decide +kernel
theorem dX10_read_69 : decode cX10_read 69 = .ok (.iinc 3 1, 3) := by decide +kernel
theorem dX10_read_72 : decode cX10_read 72 = .ok (.goto (-33), 3) := by decide +kernel
theorem dX10_read_75 : decode cX10_read 75 = .ok (.iload_n 3, 1) := by decide +kernel
theorem dX10_read_76 : decode cX10_read 76 = .ok (.ireturn, 1) := by decide +kernel
theorem dX10_stroke_0 : decode cX10_stroke 0 = .ok (.iload_n 1, 1) := by decide +kernel
theorem dX10_stroke_1 : decode cX10_stroke 1 = .ok (.invokestatic 143, 3) := by decide +kernel
theorem dX10_stroke_4 : decode cX10_stroke 4 = .ok (.ifCond .eq 10, 3) := by decide +kernel
theorem dX10_stroke_7 : decode cX10_stroke 7 = .ok (.iload_n 2, 1) := by decide +kernel
theorem dX10_stroke_8 : decode cX10_stroke 8 = .ok (.invokestatic 152, 3) := by decide +kernel
theorem dX10_stroke_11 : decode cX10_stroke 11 = .ok (.ifCond .ne 6, 3) := by decide +kernel
theorem dX10_stroke_14 : decode cX10_stroke 14 = .ok (.bipush (-2), 2) := by decide +kernel
theorem dX10_stroke_16 : decode cX10_stroke 16 = .ok (.ireturn, 1) := by decide +kernel
theorem dX10_stroke_17 : decode cX10_stroke 17 = .ok (.aload_n 0, 1) := by decide +kernel
theorem dX10_stroke_18 : decode cX10_stroke 18 = .ok (.getfield 158, 3) := by decide +kernel
theorem dX10_stroke_21 : decode cX10_stroke 21 = .ok (.bipush 40, 2) := by decide +kernel
theorem dX10_stroke_23 : decode cX10_stroke 23 = .ok (.if_icmp .ne 6, 3) := by decide +kernel
theorem dX10_stroke_26 : decode cX10_stroke 26 = .ok (.bipush (-4), 2) := by decide +kernel
theorem dX10_stroke_28 : decode cX10_stroke 28 = .ok (.ireturn, 1) := by decide +kernel
theorem dX10_stroke_29 : decode cX10_stroke 29 = .ok (.aload_n 0, 1) := by decide +kernel
theorem dX10_stroke_30 : decode cX10_stroke 30 = .ok (.getfield 50, 3) := by decide +kernel
theorem dX10_stroke_33 : decode cX10_stroke 33 = .ok (.iconst 2, 1) := by decide +kernel
theorem dX10_stroke_34 : decode cX10_stroke 34 = .ok (.aload_n 0, 1) := by decide +kernel
theorem dX10_stroke_35 : decode cX10_stroke 35 = .ok (.getfield 158, 3) := by decide +kernel
theorem dX10_stroke_38 : decode cX10_stroke 38 = .ok (.imul, 1) := by decide +kernel
theorem dX10_stroke_39 : decode cX10_stroke 39 = .ok (.iload_n 1, 1) := by decide +kernel
theorem dX10_stroke_40 : decode cX10_stroke 40 = .ok (.iastore, 1) := by decide +kernel
theorem dX10_stroke_41 : decode cX10_stroke 41 = .ok (.aload_n 0, 1) := by decide +kernel
theorem dX10_stroke_42 : decode cX10_stroke 42 = .ok (.getfield 50, 3) := by decide +kernel
theorem dX10_stroke_45 : decode cX10_stroke 45 = .ok (.iconst 2, 1) := by decide +kernel
theorem dX10_stroke_46 : decode cX10_stroke 46 = .ok (.aload_n 0, 1) := by decide +kernel
theorem dX10_stroke_47 : decode cX10_stroke 47 = .ok (.getfield 158, 3) := by decide +kernel
theorem dX10_stroke_50 : decode cX10_stroke 50 = .ok (.imul, 1) := by decide +kernel
theorem dX10_stroke_51 : decode cX10_stroke 51 = .ok (.iconst 1, 1) := by decide +kernel
theorem dX10_stroke_52 : decode cX10_stroke 52 = .ok (.iadd, 1) := by decide +kernel
theorem dX10_stroke_53 : decode cX10_stroke 53 = .ok (.iload_n 2, 1) := by decide +kernel
theorem dX10_stroke_54 : decode cX10_stroke 54 = .ok (.iastore, 1) := by decide +kernel
theorem dX10_stroke_55 : decode cX10_stroke 55 = .ok (.aload_n 0, 1) := by decide +kernel
theorem dX10_stroke_56 : decode cX10_stroke 56 = .ok (.dup, 1) := by decide +kernel
theorem dX10_stroke_57 : decode cX10_stroke 57 = .ok (.getfield 158, 3) := by decide +kernel
theorem dX10_stroke_60 : decode cX10_stroke 60 = .ok (.iconst 1, 1) := by decide +kernel
theorem dX10_stroke_61 : decode cX10_stroke 61 = .ok (.iadd, 1) := by decide +kernel
theorem dX10_stroke_62 : decode cX10_stroke 62 = .ok (.putfield 158, 3) := by decide +kernel
theorem dX10_stroke_65 : decode cX10_stroke 65 = .ok (.aload_n 0, 1) := by decide +kernel
theorem dX10_stroke_66 : decode cX10_stroke 66 = .ok (.getfield 158, 3) := by decide +kernel
theorem dX10_stroke_69 : decode cX10_stroke 69 = .ok (.ireturn, 1) := by decide +kernel
theorem dX10_back_0 : decode cX10_back 0 = .ok (.aload_n 0, 1) := by decide +kernel
theorem dX10_back_1 : decode cX10_back 1 = .ok (.getfield 158, 3) := by decide +kernel
theorem dX10_back_4 : decode cX10_back 4 = .ok (.ifCond .ne 6, 3) := by decide +kernel
theorem dX10_back_7 : decode cX10_back 7 = .ok (.bipush (-3), 2) := by decide +kernel
theorem dX10_back_9 : decode cX10_back 9 = .ok (.ireturn, 1) := by decide +kernel
theorem dX10_back_10 : decode cX10_back 10 = .ok (.aload_n 0, 1) := by decide +kernel
theorem dX10_back_11 : decode cX10_back 11 = .ok (.dup, 1) := by decide +kernel
theorem dX10_back_12 : decode cX10_back 12 = .ok (.getfield 158, 3) := by decide +kernel
theorem dX10_back_15 : decode cX10_back 15 = .ok (.iconst 1, 1) := by decide +kernel
theorem dX10_back_16 : decode cX10_back 16 = .ok (.isub, 1) := by decide +kernel
theorem dX10_back_17 : decode cX10_back 17 = .ok (.putfield 158, 3) := by decide +kernel
theorem dX10_back_20 : decode cX10_back 20 = .ok (.aload_n 0, 1) := by decide +kernel
theorem dX10_back_21 : decode cX10_back 21 = .ok (.getfield 158, 3) := by decide +kernel
theorem dX10_back_24 : decode cX10_back 24 = .ok (.ireturn, 1) := by decide +kernel
theorem dX10_scrapes_0 : decode cX10_scrapes 0 = .ok (.aload_n 0, 1) := by decide +kernel
theorem dX10_scrapes_1 : decode cX10_scrapes 1 = .ok (.invokevirtual 134, 3) := by decide +kernel
theorem dX10_scrapes_4 : decode cX10_scrapes 4 = .ok (.pop, 1) := by decide +kernel
theorem dX10_scrapes_5 : decode cX10_scrapes 5 = .ok (.aload_n 0, 1) := by decide +kernel
theorem dX10_scrapes_6 : decode cX10_scrapes 6 = .ok (.invokevirtual 138, 3) := by decide +kernel
theorem dX10_scrapes_9 : decode cX10_scrapes 9 = .ok (.pop, 1) := by decide +kernel
theorem dX10_scrapes_10 : decode cX10_scrapes 10 = .ok (.iconst 0, 1) := by decide +kernel
theorem dX10_scrapes_11 : decode cX10_scrapes 11 = .ok (.istore_n 2, 1) := by decide +kernel
theorem dX10_scrapes_12 : decode cX10_scrapes 12 = .ok (.iload_n 2, 1) := by decide +kernel
theorem dX10_scrapes_13 : decode cX10_scrapes 13 = .ok (.bipush 32, 2) := by decide +kernel
theorem dX10_scrapes_15 : decode cX10_scrapes 15 = .ok (.if_icmp .ge 21, 3) := by decide +kernel
theorem dX10_scrapes_18 : decode cX10_scrapes 18 = .ok (.aload_n 0, 1) := by decide +kernel
theorem dX10_scrapes_19 : decode cX10_scrapes 19 = .ok (.getfield 35, 3) := by decide +kernel
theorem dX10_scrapes_22 : decode cX10_scrapes 22 = .ok (.iload_n 2, 1) := by decide +kernel
theorem dX10_scrapes_23 : decode cX10_scrapes 23 = .ok (.aload_n 0, 1) := by decide +kernel
theorem dX10_scrapes_24 : decode cX10_scrapes 24 = .ok (.getfield 32, 3) := by decide +kernel
theorem dX10_scrapes_27 : decode cX10_scrapes 27 = .ok (.iload_n 2, 1) := by decide +kernel
theorem dX10_scrapes_28 : decode cX10_scrapes 28 = .ok (.iaload, 1) := by decide +kernel
theorem dX10_scrapes_29 : decode cX10_scrapes 29 = .ok (.iastore, 1) := by decide +kernel
theorem dX10_scrapes_30 : decode cX10_scrapes 30 = .ok (.iinc 2 1, 3) := by decide +kernel
theorem dX10_scrapes_33 : decode cX10_scrapes 33 = .ok (.goto (-21), 3) := by decide +kernel
theorem dX10_scrapes_36 : decode cX10_scrapes 36 = .ok (.iconst 0, 1) := by decide +kernel
theorem dX10_scrapes_37 : decode cX10_scrapes 37 = .ok (.istore_n 2, 1) := by decide +kernel
theorem dX10_scrapes_38 : decode cX10_scrapes 38 = .ok (.iload_n 2, 1) := by decide +kernel
theorem dX10_scrapes_39 : decode cX10_scrapes 39 = .ok (.iconst 4, 1) := by decide +kernel
theorem dX10_scrapes_40 : decode cX10_scrapes 40 = .ok (.if_icmp .ge 21, 3) := by decide +kernel
theorem dX10_scrapes_43 : decode cX10_scrapes 43 = .ok (.aload_n 0, 1) := by decide +kernel
theorem dX10_scrapes_44 : decode cX10_scrapes 44 = .ok (.getfield 53, 3) := by decide +kernel
theorem dX10_scrapes_47 : decode cX10_scrapes 47 = .ok (.iload_n 2, 1) := by decide +kernel
theorem dX10_scrapes_48 : decode cX10_scrapes 48 = .ok (.aload_n 0, 1) := by decide +kernel
theorem dX10_scrapes_49 : decode cX10_scrapes 49 = .ok (.getfield 44, 3) := by decide +kernel
theorem dX10_scrapes_52 : decode cX10_scrapes 52 = .ok (.iload_n 2, 1) := by decide +kernel
theorem dX10_scrapes_53 : decode cX10_scrapes 53 = .ok (.iaload, 1) := by decide +kernel
theorem dX10_scrapes_54 : decode cX10_scrapes 54 = .ok (.iastore, 1) := by decide +kernel
theorem dX10_scrapes_55 : decode cX10_scrapes 55 = .ok (.iinc 2 1, 3) := by decide +kernel
theorem dX10_scrapes_58 : decode cX10_scrapes 58 = .ok (.goto (-20), 3) := by decide +kernel
theorem dX10_scrapes_61 : decode cX10_scrapes 61 = .ok (.aload_n 0, 1) := by decide +kernel
theorem dX10_scrapes_62 : decode cX10_scrapes 62 = .ok (.iconst 0, 1) := by decide +kernel
theorem dX10_scrapes_63 : decode cX10_scrapes 63 = .ok (.putfield 161, 3) := by decide +kernel
theorem dX10_scrapes_66 : decode cX10_scrapes 66 = .ok (.aload_n 0, 1) := by decide +kernel
theorem dX10_scrapes_67 : decode cX10_scrapes 67 = .ok (.iconst 0, 1) := by decide +kernel
theorem dX10_scrapes_68 : decode cX10_scrapes 68 = .ok (.putfield 164, 3) := by decide +kernel
theorem dX10_scrapes_71 : decode cX10_scrapes 71 = .ok (.aload_n 0, 1) := by decide +kernel
theorem dX10_scrapes_72 : decode cX10_scrapes 72 = .ok (.iconst (-1), 1) := by decide +kernel
theorem dX10_scrapes_73 : decode cX10_scrapes 73 = .ok (.putfield 167, 3) := by decide +kernel
theorem dX10_scrapes_76 : decode cX10_scrapes 76 = .ok (.iconst 0, 1) := by decide +kernel
theorem dX10_scrapes_77 : decode cX10_scrapes 77 = .ok (.istore_n 2, 1) := by decide +kernel
theorem dX10_scrapes_78 : decode cX10_scrapes 78 = .ok (.iload_n 2, 1) := by decide +kernel
theorem dX10_scrapes_79 : decode cX10_scrapes 79 = .ok (.iload_n 1, 1) := by decide +kernel
theorem dX10_scrapes_80 : decode cX10_scrapes 80 = .ok (.if_icmp .ge 136, 3) := by decide +kernel
theorem dX10_scrapes_83 : decode cX10_scrapes 83 = .ok (.aload_n 0, 1) := by decide +kernel
theorem dX10_scrapes_84 : decode cX10_scrapes 84 = .ok (.getfield 50, 3) := by decide +kernel
theorem dX10_scrapes_87 : decode cX10_scrapes 87 = .ok (.iconst 2, 1) := by decide +kernel
theorem dX10_scrapes_88 : decode cX10_scrapes 88 = .ok (.iload_n 2, 1) := by decide +kernel
theorem dX10_scrapes_89 : decode cX10_scrapes 89 = .ok (.imul, 1) := by decide +kernel
theorem dX10_scrapes_90 : decode cX10_scrapes 90 = .ok (.iaload, 1) := by decide +kernel
theorem dX10_scrapes_91 : decode cX10_scrapes 91 = .ok (.istore_n 3, 1) := by decide +kernel
theorem dX10_scrapes_92 : decode cX10_scrapes 92 = .ok (.aload_n 0, 1) := by decide +kernel
theorem dX10_scrapes_93 : decode cX10_scrapes 93 = .ok (.getfield 50, 3) := by decide +kernel
theorem dX10_scrapes_96 : decode cX10_scrapes 96 = .ok (.iconst 2, 1) := by decide +kernel
theorem dX10_scrapes_97 : decode cX10_scrapes 97 = .ok (.iload_n 2, 1) := by decide +kernel
theorem dX10_scrapes_98 : decode cX10_scrapes 98 = .ok (.imul, 1) := by decide +kernel
theorem dX10_scrapes_99 : decode cX10_scrapes 99 = .ok (.iconst 1, 1) := by decide +kernel
theorem dX10_scrapes_100 : decode cX10_scrapes 100 = .ok (.iadd, 1) := by decide +kernel
theorem dX10_scrapes_101 : decode cX10_scrapes 101 = .ok (.iaload, 1) := by decide +kernel
theorem dX10_scrapes_102 : decode cX10_scrapes 102 = .ok (.istore 4, 2) := by decide +kernel
theorem dX10_scrapes_104 : decode cX10_scrapes 104 = .ok (.aload_n 0, 1) := by decide +kernel
theorem dX10_scrapes_105 : decode cX10_scrapes 105 = .ok (.getfield 35, 3) := by decide +kernel
theorem dX10_scrapes_108 : decode cX10_scrapes 108 = .ok (.iload 4, 2) := by decide +kernel
theorem dX10_scrapes_110 : decode cX10_scrapes 110 = .ok (.iaload, 1) := by decide +kernel
theorem dX10_scrapes_111 : decode cX10_scrapes 111 = .ok (.ifCond .le 79, 3) := by decide +kernel
theorem dX10_scrapes_114 : decode cX10_scrapes 114 = .ok (.aload_n 0, 1) := by decide +kernel
theorem dX10_scrapes_115 : decode cX10_scrapes 115 = .ok (.getfield 53, 3) := by decide +kernel
theorem dX10_scrapes_118 : decode cX10_scrapes 118 = .ok (.iload_n 3, 1) := by decide +kernel
theorem dX10_scrapes_119 : decode cX10_scrapes 119 = .ok (.iaload, 1) := by decide +kernel
theorem dX10_scrapes_120 : decode cX10_scrapes 120 = .ok (.aload_n 0, 1) := by decide +kernel
theorem dX10_scrapes_121 : decode cX10_scrapes 121 = .ok (.getfield 35, 3) := by decide +kernel
theorem dX10_scrapes_124 : decode cX10_scrapes 124 = .ok (.iload 4, 2) := by decide +kernel
theorem dX10_scrapes_126 : decode cX10_scrapes 126 = .ok (.iaload, 1) := by decide +kernel
theorem dX10_scrapes_127 : decode cX10_scrapes 127 = .ok (.if_icmp .lt 63, 3) := by decide +kernel
theorem dX10_scrapes_130 : decode cX10_scrapes 130 = .ok (.aload_n 0, 1) := by decide +kernel
theorem dX10_scrapes_131 : decode cX10_scrapes 131 = .ok (.dup, 1) := by decide +kernel
theorem dX10_scrapes_132 : decode cX10_scrapes 132 = .ok (.getfield 161, 3) := by decide +kernel
theorem dX10_scrapes_135 : decode cX10_scrapes 135 = .ok (.aload_n 0, 1) := by decide +kernel
theorem dX10_scrapes_136 : decode cX10_scrapes 136 = .ok (.getfield 35, 3) := by decide +kernel
theorem dX10_scrapes_139 : decode cX10_scrapes 139 = .ok (.iload 4, 2) := by decide +kernel
theorem dX10_scrapes_141 : decode cX10_scrapes 141 = .ok (.iaload, 1) := by decide +kernel
theorem dX10_scrapes_142 : decode cX10_scrapes 142 = .ok (.aload_n 0, 1) := by decide +kernel
theorem dX10_scrapes_143 : decode cX10_scrapes 143 = .ok (.getfield 41, 3) := by decide +kernel
theorem dX10_scrapes_146 : decode cX10_scrapes 146 = .ok (.iload_n 3, 1) := by decide +kernel
theorem dX10_scrapes_147 : decode cX10_scrapes 147 = .ok (.iaload, 1) := by decide +kernel
theorem dX10_scrapes_148 : decode cX10_scrapes 148 = .ok (.imul, 1) := by decide +kernel
theorem dX10_scrapes_149 : decode cX10_scrapes 149 = .ok (.iadd, 1) := by decide +kernel
theorem dX10_scrapes_150 : decode cX10_scrapes 150 = .ok (.putfield 161, 3) := by decide +kernel
theorem dX10_scrapes_153 : decode cX10_scrapes 153 = .ok (.aload_n 0, 1) := by decide +kernel
theorem dX10_scrapes_154 : decode cX10_scrapes 154 = .ok (.getfield 53, 3) := by decide +kernel
theorem dX10_scrapes_157 : decode cX10_scrapes 157 = .ok (.iload_n 3, 1) := by decide +kernel
theorem dX10_scrapes_158 : decode cX10_scrapes 158 = .ok (.dup2, 1) := by decide +kernel
theorem dX10_scrapes_159 : decode cX10_scrapes 159 = .ok (.iaload, 1) := by decide +kernel
theorem dX10_scrapes_160 : decode cX10_scrapes 160 = .ok (.aload_n 0, 1) := by decide +kernel
theorem dX10_scrapes_161 : decode cX10_scrapes 161 = .ok (.getfield 35, 3) := by decide +kernel
theorem dX10_scrapes_164 : decode cX10_scrapes 164 = .ok (.iload 4, 2) := by decide +kernel
theorem dX10_scrapes_166 : decode cX10_scrapes 166 = .ok (.iaload, 1) := by decide +kernel
theorem dX10_scrapes_167 : decode cX10_scrapes 167 = .ok (.isub, 1) := by decide +kernel
theorem dX10_scrapes_168 : decode cX10_scrapes 168 = .ok (.iastore, 1) := by decide +kernel
theorem dX10_scrapes_169 : decode cX10_scrapes 169 = .ok (.aload_n 0, 1) := by decide +kernel
theorem dX10_scrapes_170 : decode cX10_scrapes 170 = .ok (.getfield 35, 3) := by decide +kernel
theorem dX10_scrapes_173 : decode cX10_scrapes 173 = .ok (.iload 4, 2) := by decide +kernel
theorem dX10_scrapes_175 : decode cX10_scrapes 175 = .ok (.iconst 0, 1) := by decide +kernel
theorem dX10_scrapes_176 : decode cX10_scrapes 176 = .ok (.iastore, 1) := by decide +kernel
theorem dX10_scrapes_177 : decode cX10_scrapes 177 = .ok (.aload_n 0, 1) := by decide +kernel
theorem dX10_scrapes_178 : decode cX10_scrapes 178 = .ok (.dup, 1) := by decide +kernel
theorem dX10_scrapes_179 : decode cX10_scrapes 179 = .ok (.getfield 164, 3) := by decide +kernel
theorem dX10_scrapes_182 : decode cX10_scrapes 182 = .ok (.iconst 1, 1) := by decide +kernel
theorem dX10_scrapes_183 : decode cX10_scrapes 183 = .ok (.iadd, 1) := by decide +kernel
theorem dX10_scrapes_184 : decode cX10_scrapes 184 = .ok (.putfield 164, 3) := by decide +kernel
theorem dX10_scrapes_187 : decode cX10_scrapes 187 = .ok (.goto 23, 3) := by decide +kernel
theorem dX10_scrapes_190 : decode cX10_scrapes 190 = .ok (.aload_n 0, 1) := by decide +kernel
theorem dX10_scrapes_191 : decode cX10_scrapes 191 = .ok (.aload_n 0, 1) := by decide +kernel
theorem dX10_scrapes_192 : decode cX10_scrapes 192 = .ok (.getfield 167, 3) := by decide +kernel
theorem dX10_scrapes_195 : decode cX10_scrapes 195 = .ok (.iconst (-1), 1) := by decide +kernel
theorem dX10_scrapes_196 : decode cX10_scrapes 196 = .ok (.if_icmp .ne 7, 3) := by decide +kernel
theorem dX10_scrapes_199 : decode cX10_scrapes 199 = .ok (.iload_n 2, 1) := by decide +kernel
theorem dX10_scrapes_200 : decode cX10_scrapes 200 = .ok (.goto 7, 3) := by decide +kernel
theorem dX10_scrapes_203 : decode cX10_scrapes 203 = .ok (.aload_n 0, 1) := by decide +kernel
theorem dX10_scrapes_204 : decode cX10_scrapes 204 = .ok (.getfield 167, 3) := by decide +kernel
theorem dX10_scrapes_207 : decode cX10_scrapes 207 = .ok (.putfield 167, 3) := by decide +kernel
theorem dX10_scrapes_210 : decode cX10_scrapes 210 = .ok (.iinc 2 1, 3) := by decide +kernel
theorem dX10_scrapes_213 : decode cX10_scrapes 213 = .ok (.goto (-135), 3) := by decide +kernel
theorem dX10_scrapes_216 : decode cX10_scrapes 216 = .ok (.return_, 1) := by decide +kernel
theorem dX10_scrapesAll_0 : decode cX10_scrapesAll 0 = .ok (.aload_n 0, 1) := by decide +kernel
theorem dX10_scrapesAll_1 : decode cX10_scrapesAll 1 = .ok (.aload_n 0, 1) := by decide +kernel
theorem dX10_scrapesAll_2 : decode cX10_scrapesAll 2 = .ok (.getfield 158, 3) := by decide +kernel
theorem dX10_scrapesAll_5 : decode cX10_scrapesAll 5 = .ok (.invokevirtual 170, 3) := by decide +kernel
theorem dX10_scrapesAll_8 : decode cX10_scrapesAll 8 = .ok (.return_, 1) := by decide +kernel
theorem dX10_judged_0 : decode cX10_judged 0 = .ok (.aload_n 0, 1) := by decide +kernel
theorem dX10_judged_1 : decode cX10_judged 1 = .ok (.invokevirtual 174, 3) := by decide +kernel
theorem dX10_judged_4 : decode cX10_judged 4 = .ok (.aload_n 0, 1) := by decide +kernel
theorem dX10_judged_5 : decode cX10_judged 5 = .ok (.getfield 167, 3) := by decide +kernel
theorem dX10_judged_8 : decode cX10_judged 8 = .ok (.ireturn, 1) := by decide +kernel
theorem dX10_thick_0 : decode cX10_thick 0 = .ok (.iload_n 1, 1) := by decide +kernel
theorem dX10_thick_1 : decode cX10_thick 1 = .ok (.i2l, 1) := by decide +kernel
theorem dX10_thick_2 : decode cX10_thick 2 = .ok (.lconst 0, 1) := by decide +kernel
theorem dX10_thick_3 : decode cX10_thick 3 = .ok (.aload_n 0, 1) := by decide +kernel
theorem dX10_thick_4 : decode cX10_thick 4 = .ok (.getfield 158, 3) := by decide +kernel
theorem dX10_thick_7 : decode cX10_thick 7 = .ok (.i2l, 1) := by decide +kernel
theorem dX10_thick_8 : decode cX10_thick 8 = .ok (.invokestatic 73, 3) := by decide +kernel
theorem dX10_thick_11 : decode cX10_thick 11 = .ok (.ifCond .eq 10, 3) := by decide +kernel
theorem dX10_thick_14 : decode cX10_thick 14 = .ok (.iload_n 2, 1) := by decide +kernel
theorem dX10_thick_15 : decode cX10_thick 15 = .ok (.invokestatic 152, 3) := by decide +kernel
theorem dX10_thick_18 : decode cX10_thick 18 = .ok (.ifCond .ne 6, 3) := by decide +kernel
theorem dX10_thick_21 : decode cX10_thick 21 = .ok (.bipush (-2), 2) := by decide +kernel
theorem dX10_thick_23 : decode cX10_thick 23 = .ok (.ireturn, 1) := by decide +kernel
theorem dX10_thick_24 : decode cX10_thick 24 = .ok (.aload_n 0, 1) := by decide +kernel
theorem dX10_thick_25 : decode cX10_thick 25 = .ok (.iload_n 1, 1) := by decide +kernel
theorem dX10_thick_26 : decode cX10_thick 26 = .ok (.invokevirtual 170, 3) := by decide +kernel
theorem dX10_thick_29 : decode cX10_thick 29 = .ok (.aload_n 0, 1) := by decide +kernel
theorem dX10_thick_30 : decode cX10_thick 30 = .ok (.getfield 28, 3) := by decide +kernel
theorem dX10_thick_33 : decode cX10_thick 33 = .ok (.iload_n 2, 1) := by decide +kernel
theorem dX10_thick_34 : decode cX10_thick 34 = .ok (.baload, 1) := by decide +kernel
theorem dX10_thick_35 : decode cX10_thick 35 = .ok (.ifCond .eq 12, 3) := by decide +kernel
theorem dX10_thick_38 : decode cX10_thick 38 = .ok (.aload_n 0, 1) := by decide +kernel
theorem dX10_thick_39 : decode cX10_thick 39 = .ok (.getfield 35, 3) := by decide +kernel
theorem dX10_thick_42 : decode cX10_thick 42 = .ok (.iload_n 2, 1) := by decide +kernel
theorem dX10_thick_43 : decode cX10_thick 43 = .ok (.iaload, 1) := by decide +kernel
theorem dX10_thick_44 : decode cX10_thick 44 = .ok (.goto 5, 3) := by decide +kernel
theorem dX10_thick_47 : decode cX10_thick 47 = .ok (.bipush (-2), 2) := by decide +kernel
theorem dX10_thick_49 : decode cX10_thick 49 = .ok (.ireturn, 1) := by decide +kernel
theorem dX10_riskOf_0 : decode cX10_riskOf 0 = .ok (.iconst 0, 1) := by decide +kernel
theorem dX10_riskOf_1 : decode cX10_riskOf 1 = .ok (.istore_n 2, 1) := by decide +kernel
theorem dX10_riskOf_2 : decode cX10_riskOf 2 = .ok (.iconst 0, 1) := by decide +kernel
theorem dX10_riskOf_3 : decode cX10_riskOf 3 = .ok (.istore_n 3, 1) := by decide +kernel
theorem dX10_riskOf_4 : decode cX10_riskOf 4 = .ok (.iload_n 3, 1) := by decide +kernel
theorem dX10_riskOf_5 : decode cX10_riskOf 5 = .ok (.bipush 32, 2) := by decide +kernel
theorem dX10_riskOf_7 : decode cX10_riskOf 7 = .ok (.if_icmp .ge 41, 3) := by decide +kernel
theorem dX10_riskOf_10 : decode cX10_riskOf 10 = .ok (.iload_n 2, 1) := by decide +kernel
theorem dX10_riskOf_11 : decode cX10_riskOf 11 = .ok (.aload_n 0, 1) := by decide +kernel
theorem dX10_riskOf_12 : decode cX10_riskOf 12 = .ok (.getfield 35, 3) := by decide +kernel
theorem dX10_riskOf_15 : decode cX10_riskOf 15 = .ok (.iload_n 3, 1) := by decide +kernel
theorem dX10_riskOf_16 : decode cX10_riskOf 16 = .ok (.iaload, 1) := by decide +kernel
theorem dX10_riskOf_17 : decode cX10_riskOf 17 = .ok (.ifCond .le 22, 3) := by decide +kernel
theorem dX10_riskOf_20 : decode cX10_riskOf 20 = .ok (.aload_n 0, 1) := by decide +kernel
theorem dX10_riskOf_21 : decode cX10_riskOf 21 = .ok (.getfield 47, 3) := by decide +kernel
theorem dX10_riskOf_24 : decode cX10_riskOf 24 = .ok (.bipush 32, 2) := by decide +kernel
theorem dX10_riskOf_26 : decode cX10_riskOf 26 = .ok (.aload_n 0, 1) := by decide +kernel
theorem dX10_riskOf_27 : decode cX10_riskOf 27 = .ok (.getfield 38, 3) := by decide +kernel
theorem dX10_riskOf_30 : decode cX10_riskOf 30 = .ok (.iload_n 1, 1) := by decide +kernel
theorem dX10_riskOf_31 : decode cX10_riskOf 31 = .ok (.iaload, 1) := by decide +kernel
theorem dX10_riskOf_32 : decode cX10_riskOf 32 = .ok (.imul, 1) := by decide +kernel
theorem dX10_riskOf_33 : decode cX10_riskOf 33 = .ok (.iload_n 3, 1) := by decide +kernel
theorem dX10_riskOf_34 : decode cX10_riskOf 34 = .ok (.iadd, 1) := by decide +kernel
theorem dX10_riskOf_35 : decode cX10_riskOf 35 = .ok (.iaload, 1) := by decide +kernel
theorem dX10_riskOf_36 : decode cX10_riskOf 36 = .ok (.goto 4, 3) := by decide +kernel
theorem dX10_riskOf_39 : decode cX10_riskOf 39 = .ok (.iconst 0, 1) := by decide +kernel
theorem dX10_riskOf_40 : decode cX10_riskOf 40 = .ok (.iadd, 1) := by decide +kernel
theorem dX10_riskOf_41 : decode cX10_riskOf 41 = .ok (.istore_n 2, 1) := by decide +kernel
theorem dX10_riskOf_42 : decode cX10_riskOf 42 = .ok (.iinc 3 1, 3) := by decide +kernel
theorem dX10_riskOf_45 : decode cX10_riskOf 45 = .ok (.goto (-41), 3) := by decide +kernel
theorem dX10_riskOf_48 : decode cX10_riskOf 48 = .ok (.iload_n 2, 1) := by decide +kernel
theorem dX10_riskOf_49 : decode cX10_riskOf 49 = .ok (.ireturn, 1) := by decide +kernel
theorem dX10_riskOfRoad_0 : decode cX10_riskOfRoad 0 = .ok (.iconst 0, 1) := by decide +kernel
theorem dX10_riskOfRoad_1 : decode cX10_riskOfRoad 1 = .ok (.istore_n 1, 1) := by decide +kernel
theorem dX10_riskOfRoad_2 : decode cX10_riskOfRoad 2 = .ok (.iconst 0, 1) := by decide +kernel
theorem dX10_riskOfRoad_3 : decode cX10_riskOfRoad 3 = .ok (.istore_n 2, 1) := by decide +kernel
theorem dX10_riskOfRoad_4 : decode cX10_riskOfRoad 4 = .ok (.iload_n 2, 1) := by decide +kernel
theorem dX10_riskOfRoad_5 : decode cX10_riskOfRoad 5 = .ok (.aload_n 0, 1) := by decide +kernel
theorem dX10_riskOfRoad_6 : decode cX10_riskOfRoad 6 = .ok (.getfield 128, 3) := by decide +kernel
theorem dX10_riskOfRoad_9 : decode cX10_riskOfRoad 9 = .ok (.if_icmp .ge 17, 3) := by decide +kernel
theorem dX10_riskOfRoad_12 : decode cX10_riskOfRoad 12 = .ok (.iload_n 1, 1) := by decide +kernel
theorem dX10_riskOfRoad_13 : decode cX10_riskOfRoad 13 = .ok (.aload_n 0, 1) := by decide +kernel
theorem dX10_riskOfRoad_14 : decode cX10_riskOfRoad 14 = .ok (.iload_n 2, 1) := by decide +kernel
theorem dX10_riskOfRoad_15 : decode cX10_riskOfRoad 15 = .ok (.invokevirtual 177, 3) := by decide +kernel
theorem dX10_riskOfRoad_18 : decode cX10_riskOfRoad 18 = .ok (.iadd, 1) := by decide +kernel
theorem dX10_riskOfRoad_19 : decode cX10_riskOfRoad 19 = .ok (.istore_n 1, 1) := by decide +kernel
theorem dX10_riskOfRoad_20 : decode cX10_riskOfRoad 20 = .ok (.iinc 2 1, 3) := by decide +kernel
theorem dX10_riskOfRoad_23 : decode cX10_riskOfRoad 23 = .ok (.goto (-19), 3) := by decide +kernel
theorem dX10_riskOfRoad_26 : decode cX10_riskOfRoad 26 = .ok (.iload_n 1, 1) := by decide +kernel
theorem dX10_riskOfRoad_27 : decode cX10_riskOfRoad 27 = .ok (.ireturn, 1) := by decide +kernel
theorem dX10_clear_0 : decode cX10_clear 0 = .ok (.iconst 0, 1) := by decide +kernel
theorem dX10_clear_1 : decode cX10_clear 1 = .ok (.istore_n 1, 1) := by decide +kernel
theorem dX10_clear_2 : decode cX10_clear 2 = .ok (.iconst 0, 1) := by decide +kernel
theorem dX10_clear_3 : decode cX10_clear 3 = .ok (.istore_n 2, 1) := by decide +kernel
theorem dX10_clear_4 : decode cX10_clear 4 = .ok (.iload_n 2, 1) := by decide +kernel
theorem dX10_clear_5 : decode cX10_clear 5 = .ok (.bipush 32, 2) := by decide +kernel
theorem dX10_clear_7 : decode cX10_clear 7 = .ok (.if_icmp .ge 35, 3) := by decide +kernel
theorem dX10_clear_10 : decode cX10_clear 10 = .ok (.iload_n 1, 1) := by decide +kernel
theorem dX10_clear_11 : decode cX10_clear 11 = .ok (.aload_n 0, 1) := by decide +kernel
theorem dX10_clear_12 : decode cX10_clear 12 = .ok (.getfield 28, 3) := by decide +kernel
theorem dX10_clear_15 : decode cX10_clear 15 = .ok (.iload_n 2, 1) := by decide +kernel
theorem dX10_clear_16 : decode cX10_clear 16 = .ok (.baload, 1) := by decide +kernel
theorem dX10_clear_17 : decode cX10_clear 17 = .ok (.ifCond .eq 16, 3) := by decide +kernel
theorem dX10_clear_20 : decode cX10_clear 20 = .ok (.aload_n 0, 1) := by decide +kernel
theorem dX10_clear_21 : decode cX10_clear 21 = .ok (.getfield 35, 3) := by decide +kernel
theorem dX10_clear_24 : decode cX10_clear 24 = .ok (.iload_n 2, 1) := by decide +kernel
theorem dX10_clear_25 : decode cX10_clear 25 = .ok (.iaload, 1) := by decide +kernel
theorem dX10_clear_26 : decode cX10_clear 26 = .ok (.ifCond .ne 7, 3) := by decide +kernel
theorem dX10_clear_29 : decode cX10_clear 29 = .ok (.iconst 1, 1) := by decide +kernel
theorem dX10_clear_30 : decode cX10_clear 30 = .ok (.goto 4, 3) := by decide +kernel
theorem dX10_clear_33 : decode cX10_clear 33 = .ok (.iconst 0, 1) := by decide +kernel
theorem dX10_clear_34 : decode cX10_clear 34 = .ok (.iadd, 1) := by decide +kernel
theorem dX10_clear_35 : decode cX10_clear 35 = .ok (.istore_n 1, 1) := by decide +kernel
theorem dX10_clear_36 : decode cX10_clear 36 = .ok (.iinc 2 1, 3) := by decide +kernel
theorem dX10_clear_39 : decode cX10_clear 39 = .ok (.goto (-35), 3) := by decide +kernel
theorem dX10_clear_42 : decode cX10_clear 42 = .ok (.iload_n 1, 1) := by decide +kernel
theorem dX10_clear_43 : decode cX10_clear 43 = .ok (.ireturn, 1) := by decide +kernel
theorem dX10_stateOf_0 : decode cX10_stateOf 0 = .ok (.aload_n 0, 1) := by decide +kernel
theorem dX10_stateOf_1 : decode cX10_stateOf 1 = .ok (.iload_n 1, 1) := by decide +kernel
theorem dX10_stateOf_2 : decode cX10_stateOf 2 = .ok (.invokevirtual 170, 3) := by decide +kernel
theorem dX10_stateOf_5 : decode cX10_stateOf 5 = .ok (.iload_n 2, 1) := by decide +kernel
theorem dX10_stateOf_6 : decode cX10_stateOf 6 = .ok (.ifCond .ne 10, 3) := by decide +kernel
theorem dX10_stateOf_9 : decode cX10_stateOf 9 = .ok (.aload_n 0, 1) := by decide +kernel
theorem dX10_stateOf_10 : decode cX10_stateOf 10 = .ok (.getfield 161, 3) := by decide +kernel
theorem dX10_stateOf_13 : decode cX10_stateOf 13 = .ok (.goto 19, 3) := by decide +kernel
theorem dX10_stateOf_16 : decode cX10_stateOf 16 = .ok (.iload_n 2, 1) := by decide +kernel
theorem dX10_stateOf_17 : decode cX10_stateOf 17 = .ok (.iconst 1, 1) := by decide +kernel
theorem dX10_stateOf_18 : decode cX10_stateOf 18 = .ok (.if_icmp .ne 10, 3) := by decide +kernel
theorem dX10_stateOf_21 : decode cX10_stateOf 21 = .ok (.aload_n 0, 1) := by decide +kernel
theorem dX10_stateOf_22 : decode cX10_stateOf 22 = .ok (.invokevirtual 180, 3) := by decide +kernel
theorem dX10_stateOf_25 : decode cX10_stateOf 25 = .ok (.goto 7, 3) := by decide +kernel
theorem dX10_stateOf_28 : decode cX10_stateOf 28 = .ok (.aload_n 0, 1) := by decide +kernel
theorem dX10_stateOf_29 : decode cX10_stateOf 29 = .ok (.invokevirtual 183, 3) := by decide +kernel
theorem dX10_stateOf_32 : decode cX10_stateOf 32 = .ok (.ireturn, 1) := by decide +kernel
theorem dX10_state_0 : decode cX10_state 0 = .ok (.iload_n 1, 1) := by decide +kernel
theorem dX10_state_1 : decode cX10_state 1 = .ok (.i2l, 1) := by decide +kernel
theorem dX10_state_2 : decode cX10_state 2 = .ok (.lconst 0, 1) := by decide +kernel
theorem dX10_state_3 : decode cX10_state 3 = .ok (.aload_n 0, 1) := by decide +kernel
theorem dX10_state_4 : decode cX10_state 4 = .ok (.getfield 158, 3) := by decide +kernel
theorem dX10_state_7 : decode cX10_state 7 = .ok (.i2l, 1) := by decide +kernel
theorem dX10_state_8 : decode cX10_state 8 = .ok (.invokestatic 73, 3) := by decide +kernel
theorem dX10_state_11 : decode cX10_state 11 = .ok (.ifCond .eq 24, 3) := by decide +kernel
theorem dX10_state_14 : decode cX10_state 14 = .ok (.iload_n 2, 1) := by decide +kernel
theorem dX10_state_15 : decode cX10_state 15 = .ok (.i2l, 1) := by decide +kernel
theorem dX10_state_16 : decode cX10_state 16 = .ok (.lconst 0, 1) := by decide +kernel
theorem dX10_state_17 : decode cX10_state 17 = .ok (.ldc2_w 87, 3) := by decide +kernel
theorem dX10_state_20 : decode cX10_state 20 = .ok (.invokestatic 73, 3) := by decide +kernel
theorem dX10_state_23 : decode cX10_state 23 = .ok (.ifCond .eq 12, 3) := by decide +kernel
theorem dX10_state_26 : decode cX10_state 26 = .ok (.aload_n 0, 1) := by decide +kernel
theorem dX10_state_27 : decode cX10_state 27 = .ok (.iload_n 1, 1) := by decide +kernel
theorem dX10_state_28 : decode cX10_state 28 = .ok (.iload_n 2, 1) := by decide +kernel
theorem dX10_state_29 : decode cX10_state 29 = .ok (.invokevirtual 186, 3) := by decide +kernel
theorem dX10_state_32 : decode cX10_state 32 = .ok (.goto 5, 3) := by decide +kernel
theorem dX10_state_35 : decode cX10_state 35 = .ok (.bipush (-2), 2) := by decide +kernel
theorem dX10_state_37 : decode cX10_state 37 = .ok (.ireturn, 1) := by decide +kernel
theorem dX10_left_0 : decode cX10_left 0 = .ok (.aload_n 0, 1) := by decide +kernel
theorem dX10_left_1 : decode cX10_left 1 = .ok (.invokevirtual 174, 3) := by decide +kernel
theorem dX10_left_4 : decode cX10_left 4 = .ok (.iload_n 1, 1) := by decide +kernel
theorem dX10_left_5 : decode cX10_left 5 = .ok (.invokestatic 143, 3) := by decide +kernel
theorem dX10_left_8 : decode cX10_left 8 = .ok (.ifCond .eq 12, 3) := by decide +kernel
theorem dX10_left_11 : decode cX10_left 11 = .ok (.aload_n 0, 1) := by decide +kernel
theorem dX10_left_12 : decode cX10_left 12 = .ok (.getfield 53, 3) := by decide +kernel
theorem dX10_left_15 : decode cX10_left 15 = .ok (.iload_n 1, 1) := by decide +kernel
theorem dX10_left_16 : decode cX10_left 16 = .ok (.iaload, 1) := by decide +kernel
theorem dX10_left_17 : decode cX10_left 17 = .ok (.goto 5, 3) := by decide +kernel
theorem dX10_left_20 : decode cX10_left 20 = .ok (.bipush (-2), 2) := by decide +kernel
theorem dX10_left_22 : decode cX10_left 22 = .ok (.ireturn, 1) := by decide +kernel
theorem dX10_risk_0 : decode cX10_risk 0 = .ok (.aload_n 0, 1) := by decide +kernel
theorem dX10_risk_1 : decode cX10_risk 1 = .ok (.invokevirtual 174, 3) := by decide +kernel
theorem dX10_risk_4 : decode cX10_risk 4 = .ok (.iload_n 1, 1) := by decide +kernel
theorem dX10_risk_5 : decode cX10_risk 5 = .ok (.i2l, 1) := by decide +kernel
theorem dX10_risk_6 : decode cX10_risk 6 = .ok (.lconst 0, 1) := by decide +kernel
theorem dX10_risk_7 : decode cX10_risk 7 = .ok (.aload_n 0, 1) := by decide +kernel
theorem dX10_risk_8 : decode cX10_risk 8 = .ok (.getfield 128, 3) := by decide +kernel
theorem dX10_risk_11 : decode cX10_risk 11 = .ok (.iconst 1, 1) := by decide +kernel
theorem dX10_risk_12 : decode cX10_risk 12 = .ok (.isub, 1) := by decide +kernel
theorem dX10_risk_13 : decode cX10_risk 13 = .ok (.i2l, 1) := by decide +kernel
theorem dX10_risk_14 : decode cX10_risk 14 = .ok (.invokestatic 73, 3) := by decide +kernel
theorem dX10_risk_17 : decode cX10_risk 17 = .ok (.ifCond .eq 11, 3) := by decide +kernel
theorem dX10_risk_20 : decode cX10_risk 20 = .ok (.aload_n 0, 1) := by decide +kernel
theorem dX10_risk_21 : decode cX10_risk 21 = .ok (.iload_n 1, 1) := by decide +kernel
theorem dX10_risk_22 : decode cX10_risk 22 = .ok (.invokevirtual 177, 3) := by decide +kernel
theorem dX10_risk_25 : decode cX10_risk 25 = .ok (.goto 5, 3) := by decide +kernel
theorem dX10_risk_28 : decode cX10_risk 28 = .ok (.bipush (-2), 2) := by decide +kernel
theorem dX10_risk_30 : decode cX10_risk 30 = .ok (.ireturn, 1) := by decide +kernel
theorem dX10_allOf_0 : decode cX10_allOf 0 = .ok (.iconst 0, 1) := by decide +kernel
theorem dX10_allOf_1 : decode cX10_allOf 1 = .ok (.istore_n 2, 1) := by decide +kernel
theorem dX10_allOf_2 : decode cX10_allOf 2 = .ok (.iconst 0, 1) := by decide +kernel
theorem dX10_allOf_3 : decode cX10_allOf 3 = .ok (.istore_n 3, 1) := by decide +kernel
theorem dX10_allOf_4 : decode cX10_allOf 4 = .ok (.iload_n 3, 1) := by decide +kernel
theorem dX10_allOf_5 : decode cX10_allOf 5 = .ok (.bipush 32, 2) := by decide +kernel
theorem dX10_allOf_7 : decode cX10_allOf 7 = .ok (.if_icmp .ge 25, 3) := by decide +kernel
theorem dX10_allOf_10 : decode cX10_allOf 10 = .ok (.iload_n 2, 1) := by decide +kernel
theorem dX10_allOf_11 : decode cX10_allOf 11 = .ok (.aload_n 0, 1) := by decide +kernel
theorem dX10_allOf_12 : decode cX10_allOf 12 = .ok (.getfield 35, 3) := by decide +kernel
theorem dX10_allOf_15 : decode cX10_allOf 15 = .ok (.iload_n 3, 1) := by decide +kernel
theorem dX10_allOf_16 : decode cX10_allOf 16 = .ok (.iaload, 1) := by decide +kernel
theorem dX10_allOf_17 : decode cX10_allOf 17 = .ok (.aload_n 0, 1) := by decide +kernel
theorem dX10_allOf_18 : decode cX10_allOf 18 = .ok (.getfield 41, 3) := by decide +kernel
theorem dX10_allOf_21 : decode cX10_allOf 21 = .ok (.iload_n 1, 1) := by decide +kernel
theorem dX10_allOf_22 : decode cX10_allOf 22 = .ok (.iaload, 1) := by decide +kernel
theorem dX10_allOf_23 : decode cX10_allOf 23 = .ok (.imul, 1) := by decide +kernel
theorem dX10_allOf_24 : decode cX10_allOf 24 = .ok (.iadd, 1) := by decide +kernel
theorem dX10_allOf_25 : decode cX10_allOf 25 = .ok (.istore_n 2, 1) := by decide +kernel
theorem dX10_allOf_26 : decode cX10_allOf 26 = .ok (.iinc 3 1, 3) := by decide +kernel
theorem dX10_allOf_29 : decode cX10_allOf 29 = .ok (.goto (-25), 3) := by decide +kernel
theorem dX10_allOf_32 : decode cX10_allOf 32 = .ok (.iload_n 2, 1) := by decide +kernel
theorem dX10_allOf_33 : decode cX10_allOf 33 = .ok (.ireturn, 1) := by decide +kernel
theorem dX10_all_0 : decode cX10_all 0 = .ok (.aload_n 0, 1) := by decide +kernel
theorem dX10_all_1 : decode cX10_all 1 = .ok (.invokevirtual 174, 3) := by decide +kernel
theorem dX10_all_4 : decode cX10_all 4 = .ok (.iload_n 1, 1) := by decide +kernel
theorem dX10_all_5 : decode cX10_all 5 = .ok (.invokestatic 143, 3) := by decide +kernel
theorem dX10_all_8 : decode cX10_all 8 = .ok (.ifCond .eq 11, 3) := by decide +kernel
theorem dX10_all_11 : decode cX10_all 11 = .ok (.aload_n 0, 1) := by decide +kernel
theorem dX10_all_12 : decode cX10_all 12 = .ok (.iload_n 1, 1) := by decide +kernel
theorem dX10_all_13 : decode cX10_all 13 = .ok (.invokevirtual 189, 3) := by decide +kernel
theorem dX10_all_16 : decode cX10_all 16 = .ok (.goto 5, 3) := by decide +kernel
theorem dX10_all_19 : decode cX10_all 19 = .ok (.bipush (-2), 2) := by decide +kernel
theorem dX10_all_21 : decode cX10_all 21 = .ok (.ireturn, 1) := by decide +kernel
theorem dX10_findParts_0 : decode cX10_findParts 0 = .ok (.iconst 0, 1) := by decide +kernel
theorem dX10_findParts_1 : decode cX10_findParts 1 = .ok (.istore_n 1, 1) := by decide +kernel
theorem dX10_findParts_2 : decode cX10_findParts 2 = .ok (.iload_n 1, 1) := by decide +kernel
theorem dX10_findParts_3 : decode cX10_findParts 3 = .ok (.bipush 32, 2) := by decide +kernel
theorem dX10_findParts_5 : decode cX10_findParts 5 = .ok (.if_icmp .ge 66, 3) := by decide +kernel
theorem dX10_findParts_8 : decode cX10_findParts 8 = .ok (.aload_n 0, 1) := by decide +kernel
theorem dX10_findParts_9 : decode cX10_findParts 9 = .ok (.getfield 59, 3) := by decide +kernel
theorem dX10_findParts_12 : decode cX10_findParts 12 = .ok (.iload_n 1, 1) := by decide +kernel
theorem dX10_findParts_13 : decode cX10_findParts 13 = .ok (.iconst 0, 1) := by decide +kernel
theorem dX10_findParts_14 : decode cX10_findParts 14 = .ok (.iastore, 1) := by decide +kernel
theorem dX10_findParts_15 : decode cX10_findParts 15 = .ok (.iconst 0, 1) := by decide +kernel
theorem dX10_findParts_16 : decode cX10_findParts 16 = .ok (.istore_n 2, 1) := by decide +kernel
theorem dX10_findParts_17 : decode cX10_findParts 17 = .ok (.iload_n 2, 1) := by decide +kernel
theorem dX10_findParts_18 : decode cX10_findParts 18 = .ok (.aload_n 0, 1) := by decide +kernel
theorem dX10_findParts_19 : decode cX10_findParts 19 = .ok (.getfield 128, 3) := by decide +kernel
theorem dX10_findParts_22 : decode cX10_findParts 22 = .ok (.if_icmp .ge 43, 3) := by decide +kernel
theorem dX10_findParts_25 : decode cX10_findParts 25 = .ok (.aload_n 0, 1) := by decide +kernel
theorem dX10_findParts_26 : decode cX10_findParts 26 = .ok (.getfield 35, 3) := by decide +kernel
theorem dX10_findParts_29 : decode cX10_findParts 29 = .ok (.iload_n 1, 1) := by decide +kernel
theorem dX10_findParts_30 : decode cX10_findParts 30 = .ok (.iaload, 1) := by decide +kernel
theorem dX10_findParts_31 : decode cX10_findParts 31 = .ok (.ifCond .le 34, 3) := by decide +kernel
theorem dX10_findParts_34 : decode cX10_findParts 34 = .ok (.aload_n 0, 1) := by decide +kernel
theorem dX10_findParts_35 : decode cX10_findParts 35 = .ok (.getfield 59, 3) := by decide +kernel
theorem dX10_findParts_38 : decode cX10_findParts 38 = .ok (.iload_n 1, 1) := by decide +kernel
theorem dX10_findParts_39 : decode cX10_findParts 39 = .ok (.dup2, 1) := by decide +kernel
theorem dX10_findParts_40 : decode cX10_findParts 40 = .ok (.iaload, 1) := by decide +kernel
theorem dX10_findParts_41 : decode cX10_findParts 41 = .ok (.aload_n 0, 1) := by decide +kernel
theorem dX10_findParts_42 : decode cX10_findParts 42 = .ok (.getfield 47, 3) := by decide +kernel
theorem dX10_findParts_45 : decode cX10_findParts 45 = .ok (.bipush 32, 2) := by decide +kernel
theorem dX10_findParts_47 : decode cX10_findParts 47 = .ok (.aload_n 0, 1) := by decide +kernel
theorem dX10_findParts_48 : decode cX10_findParts 48 = .ok (.getfield 38, 3) := by decide +kernel
theorem dX10_findParts_51 : decode cX10_findParts 51 = .ok (.iload_n 2, 1) := by decide +kernel
theorem dX10_findParts_52 : decode cX10_findParts 52 = .ok (.iaload, 1) := by decide +kernel
theorem dX10_findParts_53 : decode cX10_findParts 53 = .ok (.imul, 1) := by decide +kernel
theorem dX10_findParts_54 : decode cX10_findParts 54 = .ok (.iload_n 1, 1) := by decide +kernel
theorem dX10_findParts_55 : decode cX10_findParts 55 = .ok (.iadd, 1) := by decide +kernel
theorem dX10_findParts_56 : decode cX10_findParts 56 = .ok (.iaload, 1) := by decide +kernel
theorem dX10_findParts_57 : decode cX10_findParts 57 = .ok (.iadd, 1) := by decide +kernel
theorem dX10_findParts_58 : decode cX10_findParts 58 = .ok (.iastore, 1) := by decide +kernel
theorem dX10_findParts_59 : decode cX10_findParts 59 = .ok (.iinc 2 1, 3) := by decide +kernel
theorem dX10_findParts_62 : decode cX10_findParts 62 = .ok (.goto (-45), 3) := by decide +kernel
theorem dX10_findParts_65 : decode cX10_findParts 65 = .ok (.iinc 1 1, 3) := by decide +kernel
theorem dX10_findParts_68 : decode cX10_findParts 68 = .ok (.goto (-66), 3) := by decide +kernel
theorem dX10_findParts_71 : decode cX10_findParts 71 = .ok (.return_, 1) := by decide +kernel
theorem dX10_findFirst_0 : decode cX10_findFirst 0 = .ok (.aload_n 0, 1) := by decide +kernel
theorem dX10_findFirst_1 : decode cX10_findFirst 1 = .ok (.invokevirtual 192, 3) := by decide +kernel
theorem dX10_findFirst_4 : decode cX10_findFirst 4 = .ok (.iconst 0, 1) := by decide +kernel
theorem dX10_findFirst_5 : decode cX10_findFirst 5 = .ok (.istore_n 2, 1) := by decide +kernel
theorem dX10_findFirst_6 : decode cX10_findFirst 6 = .ok (.iconst 0, 1) := by decide +kernel
theorem dX10_findFirst_7 : decode cX10_findFirst 7 = .ok (.istore_n 3, 1) := by decide +kernel
theorem dX10_findFirst_8 : decode cX10_findFirst 8 = .ok (.iconst 1, 1) := by decide +kernel
theorem dX10_findFirst_9 : decode cX10_findFirst 9 = .ok (.istore 4, 2) := by decide +kernel
theorem dX10_findFirst_11 : decode cX10_findFirst 11 = .ok (.iload 4, 2) := by decide +kernel
theorem dX10_findFirst_13 : decode cX10_findFirst 13 = .ok (.ifCond .eq 166, 3) := by decide +kernel
theorem dX10_findFirst_16 : decode cX10_findFirst 16 = .ok (.iconst (-1), 1) := by decide +kernel
theorem dX10_findFirst_17 : decode cX10_findFirst 17 = .ok (.istore 5, 2) := by decide +kernel
theorem dX10_findFirst_19 : decode cX10_findFirst 19 = .ok (.iconst 0, 1) := by decide +kernel
theorem dX10_findFirst_20 : decode cX10_findFirst 20 = .ok (.istore 6, 2) := by decide +kernel
theorem dX10_findFirst_22 : decode cX10_findFirst 22 = .ok (.iload 6, 2) := by decide +kernel
theorem dX10_findFirst_24 : decode cX10_findFirst 24 = .ok (.bipush 32, 2) := by decide +kernel
theorem dX10_findFirst_26 : decode cX10_findFirst 26 = .ok (.if_icmp .ge 114, 3) := by decide +kernel
theorem dX10_findFirst_29 : decode cX10_findFirst 29 = .ok (.aload_n 0, 1) := by decide +kernel
theorem dX10_findFirst_30 : decode cX10_findFirst 30 = .ok (.getfield 59, 3) := by decide +kernel
theorem dX10_findFirst_33 : decode cX10_findFirst 33 = .ok (.iload 6, 2) := by decide +kernel
theorem dX10_findFirst_35 : decode cX10_findFirst 35 = .ok (.iaload, 1) := by decide +kernel
theorem dX10_findFirst_36 : decode cX10_findFirst 36 = .ok (.ifCond .le 16, 3) := by decide +kernel
theorem dX10_findFirst_39 : decode cX10_findFirst 39 = .ok (.iload_n 3, 1) := by decide +kernel
theorem dX10_findFirst_40 : decode cX10_findFirst 40 = .ok (.iload 6, 2) := by decide +kernel
theorem dX10_findFirst_42 : decode cX10_findFirst 42 = .ok (.invokestatic 195, 3) := by decide +kernel
theorem dX10_findFirst_45 : decode cX10_findFirst 45 = .ok (.ifCond .ne 7, 3) := by decide +kernel
theorem dX10_findFirst_48 : decode cX10_findFirst 48 = .ok (.iconst 1, 1) := by decide +kernel
theorem dX10_findFirst_49 : decode cX10_findFirst 49 = .ok (.goto 4, 3) := by decide +kernel
theorem dX10_findFirst_52 : decode cX10_findFirst 52 = .ok (.iconst 0, 1) := by decide +kernel
theorem dX10_findFirst_53 : decode cX10_findFirst 53 = .ok (.istore 7, 2) := by decide +kernel
theorem dX10_findFirst_55 : decode cX10_findFirst 55 = .ok (.iload 5, 2) := by decide +kernel
theorem dX10_findFirst_57 : decode cX10_findFirst 57 = .ok (.iconst (-1), 1) := by decide +kernel
theorem dX10_findFirst_58 : decode cX10_findFirst 58 = .ok (.if_icmp .eq 50, 3) := by decide +kernel
theorem dX10_findFirst_61 : decode cX10_findFirst 61 = .ok (.aload_n 0, 1) := by decide +kernel
theorem dX10_findFirst_62 : decode cX10_findFirst 62 = .ok (.getfield 59, 3) := by decide +kernel
theorem dX10_findFirst_65 : decode cX10_findFirst 65 = .ok (.iload 6, 2) := by decide +kernel
theorem dX10_findFirst_67 : decode cX10_findFirst 67 = .ok (.iaload, 1) := by decide +kernel
theorem dX10_findFirst_68 : decode cX10_findFirst 68 = .ok (.aload_n 0, 1) := by decide +kernel
theorem dX10_findFirst_69 : decode cX10_findFirst 69 = .ok (.getfield 35, 3) := by decide +kernel
theorem dX10_findFirst_72 : decode cX10_findFirst 72 = .ok (.iload 5, 2) := by decide +kernel
theorem dX10_findFirst_74 : decode cX10_findFirst 74 = .ok (.iaload, 1) := by decide +kernel
theorem dX10_findFirst_75 : decode cX10_findFirst 75 = .ok (.aload_n 0, 1) := by decide +kernel
theorem dX10_findFirst_76 : decode cX10_findFirst 76 = .ok (.getfield 41, 3) := by decide +kernel
theorem dX10_findFirst_79 : decode cX10_findFirst 79 = .ok (.iload_n 1, 1) := by decide +kernel
theorem dX10_findFirst_80 : decode cX10_findFirst 80 = .ok (.iaload, 1) := by decide +kernel
theorem dX10_findFirst_81 : decode cX10_findFirst 81 = .ok (.imul, 1) := by decide +kernel
theorem dX10_findFirst_82 : decode cX10_findFirst 82 = .ok (.imul, 1) := by decide +kernel
theorem dX10_findFirst_83 : decode cX10_findFirst 83 = .ok (.aload_n 0, 1) := by decide +kernel
theorem dX10_findFirst_84 : decode cX10_findFirst 84 = .ok (.getfield 59, 3) := by decide +kernel
theorem dX10_findFirst_87 : decode cX10_findFirst 87 = .ok (.iload 5, 2) := by decide +kernel
theorem dX10_findFirst_89 : decode cX10_findFirst 89 = .ok (.iaload, 1) := by decide +kernel
theorem dX10_findFirst_90 : decode cX10_findFirst 90 = .ok (.aload_n 0, 1) := by decide +kernel
theorem dX10_findFirst_91 : decode cX10_findFirst 91 = .ok (.getfield 35, 3) := by decide +kernel
theorem dX10_findFirst_94 : decode cX10_findFirst 94 = .ok (.iload 6, 2) := by decide +kernel
theorem dX10_findFirst_96 : decode cX10_findFirst 96 = .ok (.iaload, 1) := by decide +kernel
theorem dX10_findFirst_97 : decode cX10_findFirst 97 = .ok (.aload_n 0, 1) := by decide +kernel
theorem dX10_findFirst_98 : decode cX10_findFirst 98 = .ok (.getfield 41, 3) := by decide +kernel
theorem dX10_findFirst_101 : decode cX10_findFirst 101 = .ok (.iload_n 1, 1) := by decide +kernel
theorem dX10_findFirst_102 : decode cX10_findFirst 102 = .ok (.iaload, 1) := by decide +kernel
theorem dX10_findFirst_103 : decode cX10_findFirst 103 = .ok (.imul, 1) := by decide +kernel
theorem dX10_findFirst_104 : decode cX10_findFirst 104 = .ok (.imul, 1) := by decide +kernel
theorem dX10_findFirst_105 : decode cX10_findFirst 105 = .ok (.if_icmp .le 7, 3) := by decide +kernel
theorem dX10_findFirst_108 : decode cX10_findFirst 108 = .ok (.iconst 1, 1) := by decide +kernel
theorem dX10_findFirst_109 : decode cX10_findFirst 109 = .ok (.goto 4, 3) := by decide +kernel
theorem dX10_findFirst_112 : decode cX10_findFirst 112 = .ok (.iconst 0, 1) := by decide +kernel
theorem dX10_findFirst_113 : decode cX10_findFirst 113 = .ok (.istore 8, 2) := by decide +kernel
theorem dX10_findFirst_115 : decode cX10_findFirst 115 = .ok (.iload 7, 2) := by decide +kernel
theorem dX10_findFirst_117 : decode cX10_findFirst 117 = .ok (.ifCond .eq 13, 3) := by decide +kernel
theorem dX10_findFirst_120 : decode cX10_findFirst 120 = .ok (.iload 8, 2) := by decide +kernel
theorem dX10_findFirst_122 : decode cX10_findFirst 122 = .ok (.ifCond .eq 8, 3) := by decide +kernel
theorem dX10_findFirst_125 : decode cX10_findFirst 125 = .ok (.iload 6, 2) := by decide +kernel
theorem dX10_findFirst_127 : decode cX10_findFirst 127 = .ok (.goto 5, 3) := by decide +kernel
theorem dX10_findFirst_130 : decode cX10_findFirst 130 = .ok (.iload 5, 2) := by decide +kernel
theorem dX10_findFirst_132 : decode cX10_findFirst 132 = .ok (.istore 5, 2) := by decide +kernel
theorem dX10_findFirst_134 : decode cX10_findFirst 134 = .ok (.iinc 6 1, 3) := by decide +kernel
theorem dX10_findFirst_137 : decode cX10_findFirst 137 = .ok (.goto (-115), 3) := by decide +kernel
theorem dX10_findFirst_140 : decode cX10_findFirst 140 = .ok (.iload 5, 2) := by decide +kernel
theorem dX10_findFirst_142 : decode cX10_findFirst 142 = .ok (.iconst (-1), 1) := by decide +kernel
theorem dX10_findFirst_143 : decode cX10_findFirst 143 = .ok (.if_icmp .eq 7, 3) := by decide +kernel
theorem dX10_findFirst_146 : decode cX10_findFirst 146 = .ok (.iconst 1, 1) := by decide +kernel
theorem dX10_findFirst_147 : decode cX10_findFirst 147 = .ok (.goto 4, 3) := by decide +kernel
theorem dX10_findFirst_150 : decode cX10_findFirst 150 = .ok (.iconst 0, 1) := by decide +kernel
theorem dX10_findFirst_151 : decode cX10_findFirst 151 = .ok (.istore 4, 2) := by decide +kernel
theorem dX10_findFirst_153 : decode cX10_findFirst 153 = .ok (.iload 4, 2) := by decide +kernel
theorem dX10_findFirst_155 : decode cX10_findFirst 155 = .ok (.ifCond .eq 21, 3) := by decide +kernel
theorem dX10_findFirst_158 : decode cX10_findFirst 158 = .ok (.aload_n 0, 1) := by decide +kernel
theorem dX10_findFirst_159 : decode cX10_findFirst 159 = .ok (.getfield 56, 3) := by decide +kernel
theorem dX10_findFirst_162 : decode cX10_findFirst 162 = .ok (.iload_n 2, 1) := by decide +kernel
theorem dX10_findFirst_163 : decode cX10_findFirst 163 = .ok (.iload 5, 2) := by decide +kernel
theorem dX10_findFirst_165 : decode cX10_findFirst 165 = .ok (.iastore, 1) := by decide +kernel
theorem dX10_findFirst_166 : decode cX10_findFirst 166 = .ok (.iload_n 3, 1) := by decide +kernel
theorem dX10_findFirst_167 : decode cX10_findFirst 167 = .ok (.iconst 1, 1) := by decide +kernel
theorem dX10_findFirst_168 : decode cX10_findFirst 168 = .ok (.iload 5, 2) := by decide +kernel
theorem dX10_findFirst_170 : decode cX10_findFirst 170 = .ok (.ishl, 1) := by decide +kernel
theorem dX10_findFirst_171 : decode cX10_findFirst 171 = .ok (.ior, 1) := by decide +kernel
theorem dX10_findFirst_172 : decode cX10_findFirst 172 = .ok (.istore_n 3, 1) := by decide +kernel
theorem dX10_findFirst_173 : decode cX10_findFirst 173 = .ok (.iinc 2 1, 3) := by decide +kernel
theorem dX10_findFirst_176 : decode cX10_findFirst 176 = .ok (.goto (-165), 3) := by decide +kernel
theorem dX10_findFirst_179 : decode cX10_findFirst 179 = .ok (.iload_n 2, 1) := by decide +kernel
theorem dX10_findFirst_180 : decode cX10_findFirst 180 = .ok (.ireturn, 1) := by decide +kernel
theorem dX10_firstOf_0 : decode cX10_firstOf 0 = .ok (.aload_n 0, 1) := by decide +kernel
theorem dX10_firstOf_1 : decode cX10_firstOf 1 = .ok (.iload_n 1, 1) := by decide +kernel
theorem dX10_firstOf_2 : decode cX10_firstOf 2 = .ok (.invokevirtual 199, 3) := by decide +kernel
theorem dX10_firstOf_5 : decode cX10_firstOf 5 = .ok (.istore_n 3, 1) := by decide +kernel
theorem dX10_firstOf_6 : decode cX10_firstOf 6 = .ok (.iload_n 2, 1) := by decide +kernel
theorem dX10_firstOf_7 : decode cX10_firstOf 7 = .ok (.iconst (-1), 1) := by decide +kernel
theorem dX10_firstOf_8 : decode cX10_firstOf 8 = .ok (.if_icmp .ne 7, 3) := by decide +kernel
theorem dX10_firstOf_11 : decode cX10_firstOf 11 = .ok (.iload_n 3, 1) := by decide +kernel
theorem dX10_firstOf_12 : decode cX10_firstOf 12 = .ok (.goto 18, 3) := by decide +kernel
theorem dX10_firstOf_15 : decode cX10_firstOf 15 = .ok (.iload_n 2, 1) := by decide +kernel
theorem dX10_firstOf_16 : decode cX10_firstOf 16 = .ok (.iload_n 3, 1) := by decide +kernel
theorem dX10_firstOf_17 : decode cX10_firstOf 17 = .ok (.if_icmp .ge 12, 3) := by decide +kernel
theorem dX10_firstOf_20 : decode cX10_firstOf 20 = .ok (.aload_n 0, 1) := by decide +kernel
theorem dX10_firstOf_21 : decode cX10_firstOf 21 = .ok (.getfield 56, 3) := by decide +kernel
theorem dX10_firstOf_24 : decode cX10_firstOf 24 = .ok (.iload_n 2, 1) := by decide +kernel
theorem dX10_firstOf_25 : decode cX10_firstOf 25 = .ok (.iaload, 1) := by decide +kernel
theorem dX10_firstOf_26 : decode cX10_firstOf 26 = .ok (.goto 4, 3) := by decide +kernel
theorem dX10_firstOf_29 : decode cX10_firstOf 29 = .ok (.iconst (-1), 1) := by decide +kernel
theorem dX10_firstOf_30 : decode cX10_firstOf 30 = .ok (.ireturn, 1) := by decide +kernel
theorem dX10_first_0 : decode cX10_first 0 = .ok (.aload_n 0, 1) := by decide +kernel
theorem dX10_first_1 : decode cX10_first 1 = .ok (.invokevirtual 174, 3) := by decide +kernel
theorem dX10_first_4 : decode cX10_first 4 = .ok (.iload_n 1, 1) := by decide +kernel
theorem dX10_first_5 : decode cX10_first 5 = .ok (.invokestatic 143, 3) := by decide +kernel
theorem dX10_first_8 : decode cX10_first 8 = .ok (.ifCond .eq 26, 3) := by decide +kernel
theorem dX10_first_11 : decode cX10_first 11 = .ok (.iload_n 2, 1) := by decide +kernel
theorem dX10_first_12 : decode cX10_first 12 = .ok (.i2l, 1) := by decide +kernel
theorem dX10_first_13 : decode cX10_first 13 = .ok (.ldc2_w 202, 3) := by decide +kernel
theorem dX10_first_16 : decode cX10_first 16 = .ok (.ldc2_w 141, 3) := by decide +kernel
theorem dX10_first_19 : decode cX10_first 19 = .ok (.invokestatic 73, 3) := by decide +kernel
theorem dX10_first_22 : decode cX10_first 22 = .ok (.ifCond .eq 12, 3) := by decide +kernel
theorem dX10_first_25 : decode cX10_first 25 = .ok (.aload_n 0, 1) := by decide +kernel
theorem dX10_first_26 : decode cX10_first 26 = .ok (.iload_n 1, 1) := by decide +kernel
theorem dX10_first_27 : decode cX10_first 27 = .ok (.iload_n 2, 1) := by decide +kernel
theorem dX10_first_28 : decode cX10_first 28 = .ok (.invokevirtual 204, 3) := by decide +kernel
theorem dX10_first_31 : decode cX10_first 31 = .ok (.goto 5, 3) := by decide +kernel
theorem dX10_first_34 : decode cX10_first 34 = .ok (.bipush (-2), 2) := by decide +kernel
theorem dX10_first_36 : decode cX10_first 36 = .ok (.ireturn, 1) := by decide +kernel
theorem dX10_stopOf_0 : decode cX10_stopOf 0 = .ok (.aload_n 0, 1) := by decide +kernel
theorem dX10_stopOf_1 : decode cX10_stopOf 1 = .ok (.iload_n 1, 1) := by decide +kernel
theorem dX10_stopOf_2 : decode cX10_stopOf 2 = .ok (.invokevirtual 199, 3) := by decide +kernel
theorem dX10_stopOf_5 : decode cX10_stopOf 5 = .ok (.istore 5, 2) := by decide +kernel
theorem dX10_stopOf_7 : decode cX10_stopOf 7 = .ok (.aload_n 0, 1) := by decide +kernel
theorem dX10_stopOf_8 : decode cX10_stopOf 8 = .ok (.invokevirtual 180, 3) := by decide +kernel
theorem dX10_stopOf_11 : decode cX10_stopOf 11 = .ok (.istore 6, 2) := by decide +kernel
theorem dX10_stopOf_13 : decode cX10_stopOf 13 = .ok (.iconst 0, 1) := by decide +kernel
theorem dX10_stopOf_14 : decode cX10_stopOf 14 = .ok (.istore 7, 2) := by decide +kernel
theorem dX10_stopOf_16 : decode cX10_stopOf 16 = .ok (.iconst 0, 1) := by decide +kernel
theorem dX10_stopOf_17 : decode cX10_stopOf 17 = .ok (.istore 8, 2) := by decide +kernel
theorem dX10_stopOf_19 : decode cX10_stopOf 19 = .ok (.iload_n 3, 1) := by decide +kernel
theorem dX10_stopOf_20 : decode cX10_stopOf 20 = .ok (.iload 6, 2) := by decide +kernel
theorem dX10_stopOf_22 : decode cX10_stopOf 22 = .ok (.imul, 1) := by decide +kernel
theorem dX10_stopOf_23 : decode cX10_stopOf 23 = .ok (.istore 9, 2) := by decide +kernel
theorem dX10_stopOf_25 : decode cX10_stopOf 25 = .ok (.iconst 0, 1) := by decide +kernel
theorem dX10_stopOf_26 : decode cX10_stopOf 26 = .ok (.istore 10, 2) := by decide +kernel
theorem dX10_stopOf_28 : decode cX10_stopOf 28 = .ok (.iload 10, 2) := by decide +kernel
theorem dX10_stopOf_30 : decode cX10_stopOf 30 = .ok (.iload 5, 2) := by decide +kernel
theorem dX10_stopOf_32 : decode cX10_stopOf 32 = .ok (.if_icmp .ge 88, 3) := by decide +kernel
theorem dX10_stopOf_35 : decode cX10_stopOf 35 = .ok (.iload 6, 2) := by decide +kernel
theorem dX10_stopOf_37 : decode cX10_stopOf 37 = .ok (.aload_n 0, 1) := by decide +kernel
theorem dX10_stopOf_38 : decode cX10_stopOf 38 = .ok (.getfield 59, 3) := by decide +kernel
theorem dX10_stopOf_41 : decode cX10_stopOf 41 = .ok (.aload_n 0, 1) := by decide +kernel
theorem dX10_stopOf_42 : decode cX10_stopOf 42 = .ok (.getfield 56, 3) := by decide +kernel
theorem dX10_stopOf_45 : decode cX10_stopOf 45 = .ok (.iload 10, 2) := by decide +kernel
theorem dX10_stopOf_47 : decode cX10_stopOf 47 = .ok (.iaload, 1) := by decide +kernel
theorem dX10_stopOf_48 : decode cX10_stopOf 48 = .ok (.iaload, 1) := by decide +kernel
theorem dX10_stopOf_49 : decode cX10_stopOf 49 = .ok (.isub, 1) := by decide +kernel
theorem dX10_stopOf_50 : decode cX10_stopOf 50 = .ok (.istore 6, 2) := by decide +kernel
theorem dX10_stopOf_52 : decode cX10_stopOf 52 = .ok (.iload 7, 2) := by decide +kernel
theorem dX10_stopOf_54 : decode cX10_stopOf 54 = .ok (.aload_n 0, 1) := by decide +kernel
theorem dX10_stopOf_55 : decode cX10_stopOf 55 = .ok (.getfield 35, 3) := by decide +kernel
theorem dX10_stopOf_58 : decode cX10_stopOf 58 = .ok (.aload_n 0, 1) := by decide +kernel
theorem dX10_stopOf_59 : decode cX10_stopOf 59 = .ok (.getfield 56, 3) := by decide +kernel
theorem dX10_stopOf_62 : decode cX10_stopOf 62 = .ok (.iload 10, 2) := by decide +kernel
theorem dX10_stopOf_64 : decode cX10_stopOf 64 = .ok (.iaload, 1) := by decide +kernel
theorem dX10_stopOf_65 : decode cX10_stopOf 65 = .ok (.iaload, 1) := by decide +kernel
theorem dX10_stopOf_66 : decode cX10_stopOf 66 = .ok (.aload_n 0, 1) := by decide +kernel
theorem dX10_stopOf_67 : decode cX10_stopOf 67 = .ok (.getfield 41, 3) := by decide +kernel
theorem dX10_stopOf_70 : decode cX10_stopOf 70 = .ok (.iload_n 1, 1) := by decide +kernel
theorem dX10_stopOf_71 : decode cX10_stopOf 71 = .ok (.iaload, 1) := by decide +kernel
theorem dX10_stopOf_72 : decode cX10_stopOf 72 = .ok (.imul, 1) := by decide +kernel
theorem dX10_stopOf_73 : decode cX10_stopOf 73 = .ok (.iadd, 1) := by decide +kernel
theorem dX10_stopOf_74 : decode cX10_stopOf 74 = .ok (.istore 7, 2) := by decide +kernel
theorem dX10_stopOf_76 : decode cX10_stopOf 76 = .ok (.iload_n 2, 1) := by decide +kernel
theorem dX10_stopOf_77 : decode cX10_stopOf 77 = .ok (.iload 7, 2) := by decide +kernel
theorem dX10_stopOf_79 : decode cX10_stopOf 79 = .ok (.imul, 1) := by decide +kernel
theorem dX10_stopOf_80 : decode cX10_stopOf 80 = .ok (.iload_n 3, 1) := by decide +kernel
theorem dX10_stopOf_81 : decode cX10_stopOf 81 = .ok (.iload 6, 2) := by decide +kernel
theorem dX10_stopOf_83 : decode cX10_stopOf 83 = .ok (.imul, 1) := by decide +kernel
theorem dX10_stopOf_84 : decode cX10_stopOf 84 = .ok (.iadd, 1) := by decide +kernel
theorem dX10_stopOf_85 : decode cX10_stopOf 85 = .ok (.istore 11, 2) := by decide +kernel
theorem dX10_stopOf_87 : decode cX10_stopOf 87 = .ok (.iload 11, 2) := by decide +kernel
theorem dX10_stopOf_89 : decode cX10_stopOf 89 = .ok (.iload 9, 2) := by decide +kernel
theorem dX10_stopOf_91 : decode cX10_stopOf 91 = .ok (.if_icmp .ge 10, 3) := by decide +kernel
theorem dX10_stopOf_94 : decode cX10_stopOf 94 = .ok (.iload 10, 2) := by decide +kernel
theorem dX10_stopOf_96 : decode cX10_stopOf 96 = .ok (.iconst 1, 1) := by decide +kernel
theorem dX10_stopOf_97 : decode cX10_stopOf 97 = .ok (.iadd, 1) := by decide +kernel
theorem dX10_stopOf_98 : decode cX10_stopOf 98 = .ok (.goto 5, 3) := by decide +kernel
theorem dX10_stopOf_101 : decode cX10_stopOf 101 = .ok (.iload 8, 2) := by decide +kernel
theorem dX10_stopOf_103 : decode cX10_stopOf 103 = .ok (.istore 8, 2) := by decide +kernel
theorem dX10_stopOf_105 : decode cX10_stopOf 105 = .ok (.iload 11, 2) := by decide +kernel
theorem dX10_stopOf_107 : decode cX10_stopOf 107 = .ok (.iload 9, 2) := by decide +kernel
theorem dX10_stopOf_109 : decode cX10_stopOf 109 = .ok (.invokestatic 207, 3) := by decide +kernel
theorem dX10_stopOf_112 : decode cX10_stopOf 112 = .ok (.istore 9, 2) := by decide +kernel
theorem dX10_stopOf_114 : decode cX10_stopOf 114 = .ok (.iinc 10 1, 3) := by decide +kernel
theorem dX10_stopOf_117 : decode cX10_stopOf 117 = .ok (.goto (-89), 3) := by decide +kernel
theorem dX10_stopOf_120 : decode cX10_stopOf 120 = .ok (.iload 4, 2) := by decide +kernel
theorem dX10_stopOf_122 : decode cX10_stopOf 122 = .ok (.ifCond .ne 8, 3) := by decide +kernel
theorem dX10_stopOf_125 : decode cX10_stopOf 125 = .ok (.iload 8, 2) := by decide +kernel
theorem dX10_stopOf_127 : decode cX10_stopOf 127 = .ok (.goto 5, 3) := by decide +kernel
theorem dX10_stopOf_130 : decode cX10_stopOf 130 = .ok (.iload 9, 2) := by decide +kernel
theorem dX10_stopOf_132 : decode cX10_stopOf 132 = .ok (.ireturn, 1) := by decide +kernel
theorem dX10_stop_0 : decode cX10_stop 0 = .ok (.aload_n 0, 1) := by decide +kernel
theorem dX10_stop_1 : decode cX10_stop 1 = .ok (.invokevirtual 174, 3) := by decide +kernel
theorem dX10_stop_4 : decode cX10_stop 4 = .ok (.iload_n 1, 1) := by decide +kernel
theorem dX10_stop_5 : decode cX10_stop 5 = .ok (.invokestatic 143, 3) := by decide +kernel
theorem dX10_stop_8 : decode cX10_stop 8 = .ok (.ifCond .eq 47, 3) := by decide +kernel
theorem dX10_stop_11 : decode cX10_stop 11 = .ok (.iload_n 2, 1) := by decide +kernel
theorem dX10_stop_12 : decode cX10_stop 12 = .ok (.i2l, 1) := by decide +kernel
theorem dX10_stop_13 : decode cX10_stop 13 = .ok (.lconst 0, 1) := by decide +kernel
theorem dX10_stop_14 : decode cX10_stop 14 = .ok (.ldc2_w 148, 3) := by decide +kernel
theorem dX10_stop_17 : decode cX10_stop 17 = .ok (.invokestatic 73, 3) := by decide +kernel
theorem dX10_stop_20 : decode cX10_stop 20 = .ok (.ifCond .eq 35, 3) := by decide +kernel
theorem dX10_stop_23 : decode cX10_stop 23 = .ok (.iload_n 3, 1) := by decide +kernel
theorem dX10_stop_24 : decode cX10_stop 24 = .ok (.i2l, 1) := by decide +kernel
theorem dX10_stop_25 : decode cX10_stop 25 = .ok (.lconst 0, 1) := by decide +kernel
theorem dX10_stop_26 : decode cX10_stop 26 = .ok (.ldc2_w 148, 3) := by decide +kernel
theorem dX10_stop_29 : decode cX10_stop 29 = .ok (.invokestatic 73, 3) := by decide +kernel
theorem dX10_stop_32 : decode cX10_stop 32 = .ok (.ifCond .eq 23, 3) := by decide +kernel
theorem dX10_stop_35 : decode cX10_stop 35 = .ok (.iload 4, 2) := by decide +kernel
theorem dX10_stop_37 : decode cX10_stop 37 = .ok (.invokestatic 102, 3) := by decide +kernel
theorem dX10_stop_40 : decode cX10_stop 40 = .ok (.ifCond .eq 15, 3) := by decide +kernel
theorem dX10_stop_43 : decode cX10_stop 43 = .ok (.aload_n 0, 1) := by decide +kernel
theorem dX10_stop_44 : decode cX10_stop 44 = .ok (.iload_n 1, 1) := by decide +kernel
theorem dX10_stop_45 : decode cX10_stop 45 = .ok (.iload_n 2, 1) := by decide +kernel
theorem dX10_stop_46 : decode cX10_stop 46 = .ok (.iload_n 3, 1) := by decide +kernel
theorem dX10_stop_47 : decode cX10_stop 47 = .ok (.iload 4, 2) := by decide +kernel
theorem dX10_stop_49 : decode cX10_stop 49 = .ok (.invokevirtual 210, 3) := by decide +kernel
theorem dX10_stop_52 : decode cX10_stop 52 = .ok (.goto 5, 3) := by decide +kernel
theorem dX10_stop_55 : decode cX10_stop 55 = .ok (.bipush (-2), 2) := by decide +kernel
theorem dX10_stop_57 : decode cX10_stop 57 = .ok (.ireturn, 1) := by decide +kernel
theorem dX10_thickest_0 : decode cX10_thickest 0 = .ok (.iconst (-1), 1) := by decide +kernel
theorem dX10_thickest_1 : decode cX10_thickest 1 = .ok (.istore 4, 2) := by decide +kernel
theorem dX10_thickest_3 : decode cX10_thickest 3 = .ok (.iconst 0, 1) := by decide +kernel
theorem dX10_thickest_4 : decode cX10_thickest 4 = .ok (.istore 5, 2) := by decide +kernel
theorem dX10_thickest_6 : decode cX10_thickest 6 = .ok (.iload 5, 2) := by decide +kernel
theorem dX10_thickest_8 : decode cX10_thickest 8 = .ok (.bipush 32, 2) := by decide +kernel
theorem dX10_thickest_10 : decode cX10_thickest 10 = .ok (.if_icmp .ge 75, 3) := by decide +kernel
theorem dX10_thickest_13 : decode cX10_thickest 13 = .ok (.iload_n 3, 1) := by decide +kernel
theorem dX10_thickest_14 : decode cX10_thickest 14 = .ok (.iload 5, 2) := by decide +kernel
theorem dX10_thickest_16 : decode cX10_thickest 16 = .ok (.invokestatic 195, 3) := by decide +kernel
theorem dX10_thickest_19 : decode cX10_thickest 19 = .ok (.ifCond .ne 20, 3) := by decide +kernel
theorem dX10_thickest_22 : decode cX10_thickest 22 = .ok (.aload_n 0, 1) := by decide +kernel
theorem dX10_thickest_23 : decode cX10_thickest 23 = .ok (.getfield 35, 3) := by decide +kernel
theorem dX10_thickest_26 : decode cX10_thickest 26 = .ok (.iload 5, 2) := by decide +kernel
theorem dX10_thickest_28 : decode cX10_thickest 28 = .ok (.iaload, 1) := by decide +kernel
theorem dX10_thickest_29 : decode cX10_thickest 29 = .ok (.iload_n 1, 1) := by decide +kernel
theorem dX10_thickest_30 : decode cX10_thickest 30 = .ok (.iload_n 2, 1) := by decide +kernel
theorem dX10_thickest_31 : decode cX10_thickest 31 = .ok (.idiv, 1) := by decide +kernel
theorem dX10_thickest_32 : decode cX10_thickest 32 = .ok (.if_icmp .le 7, 3) := by decide +kernel
theorem dX10_thickest_35 : decode cX10_thickest 35 = .ok (.iconst 1, 1) := by decide +kernel
theorem dX10_thickest_36 : decode cX10_thickest 36 = .ok (.goto 4, 3) := by decide +kernel
theorem dX10_thickest_39 : decode cX10_thickest 39 = .ok (.iconst 0, 1) := by decide +kernel
theorem dX10_thickest_40 : decode cX10_thickest 40 = .ok (.istore 6, 2) := by decide +kernel
theorem dX10_thickest_42 : decode cX10_thickest 42 = .ok (.iload 6, 2) := by decide +kernel
theorem dX10_thickest_44 : decode cX10_thickest 44 = .ok (.ifCond .eq 31, 3) := by decide +kernel
theorem dX10_thickest_47 : decode cX10_thickest 47 = .ok (.iload 4, 2) := by decide +kernel
theorem dX10_thickest_49 : decode cX10_thickest 49 = .ok (.iconst (-1), 1) := by decide +kernel
theorem dX10_thickest_50 : decode cX10_thickest 50 = .ok (.if_icmp .eq 20, 3) := by decide +kernel
theorem dX10_thickest_53 : decode cX10_thickest 53 = .ok (.aload_n 0, 1) := by decide +kernel
theorem dX10_thickest_54 : decode cX10_thickest 54 = .ok (.getfield 35, 3) := by decide +kernel
theorem dX10_thickest_57 : decode cX10_thickest 57 = .ok (.iload 5, 2) := by decide +kernel
theorem dX10_thickest_59 : decode cX10_thickest 59 = .ok (.iaload, 1) := by decide +kernel
theorem dX10_thickest_60 : decode cX10_thickest 60 = .ok (.aload_n 0, 1) := by decide +kernel
theorem dX10_thickest_61 : decode cX10_thickest 61 = .ok (.getfield 35, 3) := by decide +kernel
theorem dX10_thickest_64 : decode cX10_thickest 64 = .ok (.iload 4, 2) := by decide +kernel
theorem dX10_thickest_66 : decode cX10_thickest 66 = .ok (.iaload, 1) := by decide +kernel
theorem dX10_thickest_67 : decode cX10_thickest 67 = .ok (.if_icmp .le 8, 3) := by decide +kernel
theorem dX10_thickest_70 : decode cX10_thickest 70 = .ok (.iload 5, 2) := by decide +kernel
theorem dX10_thickest_72 : decode cX10_thickest 72 = .ok (.goto 5, 3) := by decide +kernel
theorem dX10_thickest_75 : decode cX10_thickest 75 = .ok (.iload 4, 2) := by decide +kernel
theorem dX10_thickest_77 : decode cX10_thickest 77 = .ok (.istore 4, 2) := by decide +kernel
theorem dX10_thickest_79 : decode cX10_thickest 79 = .ok (.iinc 5 1, 3) := by decide +kernel
theorem dX10_thickest_82 : decode cX10_thickest 82 = .ok (.goto (-76), 3) := by decide +kernel
theorem dX10_thickest_85 : decode cX10_thickest 85 = .ok (.iload 4, 2) := by decide +kernel
theorem dX10_thickest_87 : decode cX10_thickest 87 = .ok (.ireturn, 1) := by decide +kernel
theorem dX10_warmOf_0 : decode cX10_warmOf 0 = .ok (.iconst 0, 1) := by decide +kernel
theorem dX10_warmOf_1 : decode cX10_warmOf 1 = .ok (.istore 4, 2) := by decide +kernel
theorem dX10_warmOf_3 : decode cX10_warmOf 3 = .ok (.iconst 0, 1) := by decide +kernel
theorem dX10_warmOf_4 : decode cX10_warmOf 4 = .ok (.istore 5, 2) := by decide +kernel
theorem dX10_warmOf_6 : decode cX10_warmOf 6 = .ok (.aload_n 0, 1) := by decide +kernel
theorem dX10_warmOf_7 : decode cX10_warmOf 7 = .ok (.iconst 0, 1) := by decide +kernel
theorem dX10_warmOf_8 : decode cX10_warmOf 8 = .ok (.iload_n 1, 1) := by decide +kernel
theorem dX10_warmOf_9 : decode cX10_warmOf 9 = .ok (.iconst 0, 1) := by decide +kernel
theorem dX10_warmOf_10 : decode cX10_warmOf 10 = .ok (.invokevirtual 214, 3) := by decide +kernel
theorem dX10_warmOf_13 : decode cX10_warmOf 13 = .ok (.istore 6, 2) := by decide +kernel
theorem dX10_warmOf_15 : decode cX10_warmOf 15 = .ok (.iload 6, 2) := by decide +kernel
theorem dX10_warmOf_17 : decode cX10_warmOf 17 = .ok (.iconst (-1), 1) := by decide +kernel
theorem dX10_warmOf_18 : decode cX10_warmOf 18 = .ok (.if_icmp .eq 79, 3) := by decide +kernel
theorem dX10_warmOf_21 : decode cX10_warmOf 21 = .ok (.iload_n 1, 1) := by decide +kernel
theorem dX10_warmOf_22 : decode cX10_warmOf 22 = .ok (.aload_n 0, 1) := by decide +kernel
theorem dX10_warmOf_23 : decode cX10_warmOf 23 = .ok (.getfield 35, 3) := by decide +kernel
theorem dX10_warmOf_26 : decode cX10_warmOf 26 = .ok (.iload 6, 2) := by decide +kernel
theorem dX10_warmOf_28 : decode cX10_warmOf 28 = .ok (.iaload, 1) := by decide +kernel
theorem dX10_warmOf_29 : decode cX10_warmOf 29 = .ok (.imul, 1) := by decide +kernel
theorem dX10_warmOf_30 : decode cX10_warmOf 30 = .ok (.istore 7, 2) := by decide +kernel
theorem dX10_warmOf_32 : decode cX10_warmOf 32 = .ok (.iload 4, 2) := by decide +kernel
theorem dX10_warmOf_34 : decode cX10_warmOf 34 = .ok (.aload_n 0, 1) := by decide +kernel
theorem dX10_warmOf_35 : decode cX10_warmOf 35 = .ok (.getfield 41, 3) := by decide +kernel
theorem dX10_warmOf_38 : decode cX10_warmOf 38 = .ok (.iload_n 2, 1) := by decide +kernel
theorem dX10_warmOf_39 : decode cX10_warmOf 39 = .ok (.iaload, 1) := by decide +kernel
theorem dX10_warmOf_40 : decode cX10_warmOf 40 = .ok (.aload_n 0, 1) := by decide +kernel
theorem dX10_warmOf_41 : decode cX10_warmOf 41 = .ok (.getfield 35, 3) := by decide +kernel
theorem dX10_warmOf_44 : decode cX10_warmOf 44 = .ok (.iload 6, 2) := by decide +kernel
theorem dX10_warmOf_46 : decode cX10_warmOf 46 = .ok (.iaload, 1) := by decide +kernel
theorem dX10_warmOf_47 : decode cX10_warmOf 47 = .ok (.iload 4, 2) := by decide +kernel
theorem dX10_warmOf_49 : decode cX10_warmOf 49 = .ok (.iload_n 1, 1) := by decide +kernel
theorem dX10_warmOf_50 : decode cX10_warmOf 50 = .ok (.idiv, 1) := by decide +kernel
theorem dX10_warmOf_51 : decode cX10_warmOf 51 = .ok (.isub, 1) := by decide +kernel
theorem dX10_warmOf_52 : decode cX10_warmOf 52 = .ok (.imul, 1) := by decide +kernel
theorem dX10_warmOf_53 : decode cX10_warmOf 53 = .ok (.iadd, 1) := by decide +kernel
theorem dX10_warmOf_54 : decode cX10_warmOf 54 = .ok (.istore 8, 2) := by decide +kernel
theorem dX10_warmOf_56 : decode cX10_warmOf 56 = .ok (.iload_n 3, 1) := by decide +kernel
theorem dX10_warmOf_57 : decode cX10_warmOf 57 = .ok (.ifCond .eq 10, 3) := by decide +kernel
theorem dX10_warmOf_60 : decode cX10_warmOf 60 = .ok (.iload 7, 2) := by decide +kernel
theorem dX10_warmOf_62 : decode cX10_warmOf 62 = .ok (.iload 8, 2) := by decide +kernel
theorem dX10_warmOf_64 : decode cX10_warmOf 64 = .ok (.if_icmp .gt 6, 3) := by decide +kernel
theorem dX10_warmOf_67 : decode cX10_warmOf 67 = .ok (.iload 7, 2) := by decide +kernel
theorem dX10_warmOf_69 : decode cX10_warmOf 69 = .ok (.ireturn, 1) := by decide +kernel
theorem dX10_warmOf_70 : decode cX10_warmOf 70 = .ok (.iload 5, 2) := by decide +kernel
theorem dX10_warmOf_72 : decode cX10_warmOf 72 = .ok (.iconst 1, 1) := by decide +kernel
theorem dX10_warmOf_73 : decode cX10_warmOf 73 = .ok (.iload 6, 2) := by decide +kernel
theorem dX10_warmOf_75 : decode cX10_warmOf 75 = .ok (.ishl, 1) := by decide +kernel
theorem dX10_warmOf_76 : decode cX10_warmOf 76 = .ok (.ior, 1) := by decide +kernel
theorem dX10_warmOf_77 : decode cX10_warmOf 77 = .ok (.istore 5, 2) := by decide +kernel
theorem dX10_warmOf_79 : decode cX10_warmOf 79 = .ok (.iload 8, 2) := by decide +kernel
theorem dX10_warmOf_81 : decode cX10_warmOf 81 = .ok (.istore 4, 2) := by decide +kernel
theorem dX10_warmOf_83 : decode cX10_warmOf 83 = .ok (.aload_n 0, 1) := by decide +kernel
theorem dX10_warmOf_84 : decode cX10_warmOf 84 = .ok (.iload 4, 2) := by decide +kernel
theorem dX10_warmOf_86 : decode cX10_warmOf 86 = .ok (.iload_n 1, 1) := by decide +kernel
theorem dX10_warmOf_87 : decode cX10_warmOf 87 = .ok (.iload 5, 2) := by decide +kernel
theorem dX10_warmOf_89 : decode cX10_warmOf 89 = .ok (.invokevirtual 214, 3) := by decide +kernel
theorem dX10_warmOf_92 : decode cX10_warmOf 92 = .ok (.istore 6, 2) := by decide +kernel
theorem dX10_warmOf_94 : decode cX10_warmOf 94 = .ok (.goto (-79), 3) := by decide +kernel
theorem dX10_warmOf_97 : decode cX10_warmOf 97 = .ok (.iload 4, 2) := by decide +kernel
theorem dX10_warmOf_99 : decode cX10_warmOf 99 = .ok (.ireturn, 1) := by decide +kernel
theorem dX10_warm_0 : decode cX10_warm 0 = .ok (.aload_n 0, 1) := by decide +kernel
theorem dX10_warm_1 : decode cX10_warm 1 = .ok (.invokevirtual 174, 3) := by decide +kernel
theorem dX10_warm_4 : decode cX10_warm 4 = .ok (.iload_n 1, 1) := by decide +kernel
theorem dX10_warm_5 : decode cX10_warm 5 = .ok (.i2l, 1) := by decide +kernel
theorem dX10_warm_6 : decode cX10_warm 6 = .ok (.lconst 1, 1) := by decide +kernel
theorem dX10_warm_7 : decode cX10_warm 7 = .ok (.ldc2_w 146, 3) := by decide +kernel
theorem dX10_warm_10 : decode cX10_warm 10 = .ok (.invokestatic 73, 3) := by decide +kernel
theorem dX10_warm_13 : decode cX10_warm 13 = .ok (.ifCond .eq 27, 3) := by decide +kernel
theorem dX10_warm_16 : decode cX10_warm 16 = .ok (.iload_n 2, 1) := by decide +kernel
theorem dX10_warm_17 : decode cX10_warm 17 = .ok (.invokestatic 143, 3) := by decide +kernel
theorem dX10_warm_20 : decode cX10_warm 20 = .ok (.ifCond .eq 20, 3) := by decide +kernel
theorem dX10_warm_23 : decode cX10_warm 23 = .ok (.iload_n 3, 1) := by decide +kernel
theorem dX10_warm_24 : decode cX10_warm 24 = .ok (.invokestatic 102, 3) := by decide +kernel
theorem dX10_warm_27 : decode cX10_warm 27 = .ok (.ifCond .eq 13, 3) := by decide +kernel
theorem dX10_warm_30 : decode cX10_warm 30 = .ok (.aload_n 0, 1) := by decide +kernel
theorem dX10_warm_31 : decode cX10_warm 31 = .ok (.iload_n 1, 1) := by decide +kernel
theorem dX10_warm_32 : decode cX10_warm 32 = .ok (.iload_n 2, 1) := by decide +kernel
theorem dX10_warm_33 : decode cX10_warm 33 = .ok (.iload_n 3, 1) := by decide +kernel
theorem dX10_warm_34 : decode cX10_warm 34 = .ok (.invokevirtual 217, 3) := by decide +kernel
theorem dX10_warm_37 : decode cX10_warm 37 = .ok (.goto 5, 3) := by decide +kernel
theorem dX10_warm_40 : decode cX10_warm 40 = .ok (.bipush (-2), 2) := by decide +kernel
theorem dX10_warm_42 : decode cX10_warm 42 = .ok (.ireturn, 1) := by decide +kernel
theorem dX10_crack_0 : decode cX10_crack 0 = .ok (.iload_n 1, 1) := by decide +kernel
theorem dX10_crack_1 : decode cX10_crack 1 = .ok (.i2l, 1) := by decide +kernel
theorem dX10_crack_2 : decode cX10_crack 2 = .ok (.ldc2_w 202, 3) := by decide +kernel
theorem dX10_crack_5 : decode cX10_crack 5 = .ok (.ldc2_w 148, 3) := by decide +kernel
theorem dX10_crack_8 : decode cX10_crack 8 = .ok (.invokestatic 73, 3) := by decide +kernel
theorem dX10_crack_11 : decode cX10_crack 11 = .ok (.ifCond .eq 15, 3) := by decide +kernel
theorem dX10_crack_14 : decode cX10_crack 14 = .ok (.iload_n 2, 1) := by decide +kernel
theorem dX10_crack_15 : decode cX10_crack 15 = .ok (.i2l, 1) := by decide +kernel
theorem dX10_crack_16 : decode cX10_crack 16 = .ok (.lconst 0, 1) := by decide +kernel
theorem dX10_crack_17 : decode cX10_crack 17 = .ok (.ldc2_w 220, 3) := by decide +kernel
theorem dX10_crack_20 : decode cX10_crack 20 = .ok (.invokestatic 73, 3) := by decide +kernel
theorem dX10_crack_23 : decode cX10_crack 23 = .ok (.ifCond .ne 8, 3) := by decide +kernel
theorem dX10_crack_26 : decode cX10_crack 26 = .ok (.bipush (-2), 2) := by decide +kernel
theorem dX10_crack_28 : decode cX10_crack 28 = .ok (.goto 28, 3) := by decide +kernel
theorem dX10_crack_31 : decode cX10_crack 31 = .ok (.iload_n 1, 1) := by decide +kernel
theorem dX10_crack_32 : decode cX10_crack 32 = .ok (.iconst (-1), 1) := by decide +kernel
theorem dX10_crack_33 : decode cX10_crack 33 = .ok (.if_icmp .ne 10, 3) := by decide +kernel
theorem dX10_crack_36 : decode cX10_crack 36 = .ok (.bipush 40, 2) := by decide +kernel
theorem dX10_crack_38 : decode cX10_crack 38 = .ok (.iload_n 2, 1) := by decide +kernel
theorem dX10_crack_39 : decode cX10_crack 39 = .ok (.isub, 1) := by decide +kernel
theorem dX10_crack_40 : decode cX10_crack 40 = .ok (.goto 16, 3) := by decide +kernel
theorem dX10_crack_43 : decode cX10_crack 43 = .ok (.iload_n 1, 1) := by decide +kernel
theorem dX10_crack_44 : decode cX10_crack 44 = .ok (.iload_n 2, 1) := by decide +kernel
theorem dX10_crack_45 : decode cX10_crack 45 = .ok (.iadd, 1) := by decide +kernel
theorem dX10_crack_46 : decode cX10_crack 46 = .ok (.bipush 40, 2) := by decide +kernel
theorem dX10_crack_48 : decode cX10_crack 48 = .ok (.if_icmp .le 7, 3) := by decide +kernel
theorem dX10_crack_51 : decode cX10_crack 51 = .ok (.iconst 1, 1) := by decide +kernel
theorem dX10_crack_52 : decode cX10_crack 52 = .ok (.goto 4, 3) := by decide +kernel
theorem dX10_crack_55 : decode cX10_crack 55 = .ok (.iconst 0, 1) := by decide +kernel
theorem dX10_crack_56 : decode cX10_crack 56 = .ok (.ireturn, 1) := by decide +kernel
theorem dX10_meltsOf_0 : decode cX10_meltsOf 0 = .ok (.iload_n 1, 1) := by decide +kernel
theorem dX10_meltsOf_1 : decode cX10_meltsOf 1 = .ok (.bipush 10, 2) := by decide +kernel
theorem dX10_meltsOf_3 : decode cX10_meltsOf 3 = .ok (.idiv, 1) := by decide +kernel
theorem dX10_meltsOf_4 : decode cX10_meltsOf 4 = .ok (.istore_n 3, 1) := by decide +kernel
theorem dX10_meltsOf_5 : decode cX10_meltsOf 5 = .ok (.iload_n 2, 1) := by decide +kernel
theorem dX10_meltsOf_6 : decode cX10_meltsOf 6 = .ok (.istore 4, 2) := by decide +kernel
theorem dX10_meltsOf_8 : decode cX10_meltsOf 8 = .ok (.iconst 0, 1) := by decide +kernel
theorem dX10_meltsOf_9 : decode cX10_meltsOf 9 = .ok (.istore 5, 2) := by decide +kernel
theorem dX10_meltsOf_11 : decode cX10_meltsOf 11 = .ok (.iconst 0, 1) := by decide +kernel
theorem dX10_meltsOf_12 : decode cX10_meltsOf 12 = .ok (.istore 6, 2) := by decide +kernel
theorem dX10_meltsOf_14 : decode cX10_meltsOf 14 = .ok (.iload_n 3, 1) := by decide +kernel
theorem dX10_meltsOf_15 : decode cX10_meltsOf 15 = .ok (.ifCond .le 7, 3) := by decide +kernel
theorem dX10_meltsOf_18 : decode cX10_meltsOf 18 = .ok (.iconst 1, 1) := by decide +kernel
theorem dX10_meltsOf_19 : decode cX10_meltsOf 19 = .ok (.goto 4, 3) := by decide +kernel
theorem dX10_meltsOf_22 : decode cX10_meltsOf 22 = .ok (.iconst 0, 1) := by decide +kernel
theorem dX10_meltsOf_23 : decode cX10_meltsOf 23 = .ok (.istore 7, 2) := by decide +kernel
theorem dX10_meltsOf_25 : decode cX10_meltsOf 25 = .ok (.iload 7, 2) := by decide +kernel
theorem dX10_meltsOf_27 : decode cX10_meltsOf 27 = .ok (.ifCond .eq 171, 3) := by decide +kernel
theorem dX10_meltsOf_30 : decode cX10_meltsOf 30 = .ok (.iconst (-1), 1) := by decide +kernel
theorem dX10_meltsOf_31 : decode cX10_meltsOf 31 = .ok (.istore 8, 2) := by decide +kernel
theorem dX10_meltsOf_33 : decode cX10_meltsOf 33 = .ok (.iconst 0, 1) := by decide +kernel
theorem dX10_meltsOf_34 : decode cX10_meltsOf 34 = .ok (.istore 9, 2) := by decide +kernel
theorem dX10_meltsOf_36 : decode cX10_meltsOf 36 = .ok (.iload 9, 2) := by decide +kernel
theorem dX10_meltsOf_38 : decode cX10_meltsOf 38 = .ok (.bipush 32, 2) := by decide +kernel
theorem dX10_meltsOf_40 : decode cX10_meltsOf 40 = .ok (.if_icmp .ge 61, 3) := by decide +kernel
theorem dX10_meltsOf_43 : decode cX10_meltsOf 43 = .ok (.aload_n 0, 1) := by decide +kernel
theorem dX10_meltsOf_44 : decode cX10_meltsOf 44 = .ok (.getfield 35, 3) := by decide +kernel
theorem dX10_meltsOf_47 : decode cX10_meltsOf 47 = .ok (.iload 9, 2) := by decide +kernel
theorem dX10_meltsOf_49 : decode cX10_meltsOf 49 = .ok (.iaload, 1) := by decide +kernel
theorem dX10_meltsOf_50 : decode cX10_meltsOf 50 = .ok (.ifCond .le 41, 3) := by decide +kernel
theorem dX10_meltsOf_53 : decode cX10_meltsOf 53 = .ok (.iload 6, 2) := by decide +kernel
theorem dX10_meltsOf_55 : decode cX10_meltsOf 55 = .ok (.iload 9, 2) := by decide +kernel
theorem dX10_meltsOf_57 : decode cX10_meltsOf 57 = .ok (.invokestatic 195, 3) := by decide +kernel
theorem dX10_meltsOf_60 : decode cX10_meltsOf 60 = .ok (.ifCond .ne 31, 3) := by decide +kernel
theorem dX10_meltsOf_63 : decode cX10_meltsOf 63 = .ok (.iload 8, 2) := by decide +kernel
theorem dX10_meltsOf_65 : decode cX10_meltsOf 65 = .ok (.iconst (-1), 1) := by decide +kernel
theorem dX10_meltsOf_66 : decode cX10_meltsOf 66 = .ok (.if_icmp .eq 20, 3) := by decide +kernel
theorem dX10_meltsOf_69 : decode cX10_meltsOf 69 = .ok (.aload_n 0, 1) := by decide +kernel
theorem dX10_meltsOf_70 : decode cX10_meltsOf 70 = .ok (.getfield 35, 3) := by decide +kernel
theorem dX10_meltsOf_73 : decode cX10_meltsOf 73 = .ok (.iload 9, 2) := by decide +kernel
theorem dX10_meltsOf_75 : decode cX10_meltsOf 75 = .ok (.iaload, 1) := by decide +kernel
theorem dX10_meltsOf_76 : decode cX10_meltsOf 76 = .ok (.aload_n 0, 1) := by decide +kernel
theorem dX10_meltsOf_77 : decode cX10_meltsOf 77 = .ok (.getfield 35, 3) := by decide +kernel
theorem dX10_meltsOf_80 : decode cX10_meltsOf 80 = .ok (.iload 8, 2) := by decide +kernel
theorem dX10_meltsOf_82 : decode cX10_meltsOf 82 = .ok (.iaload, 1) := by decide +kernel
theorem dX10_meltsOf_83 : decode cX10_meltsOf 83 = .ok (.if_icmp .ge 8, 3) := by decide +kernel
theorem dX10_meltsOf_86 : decode cX10_meltsOf 86 = .ok (.iload 9, 2) := by decide +kernel
theorem dX10_meltsOf_88 : decode cX10_meltsOf 88 = .ok (.goto 5, 3) := by decide +kernel
theorem dX10_meltsOf_91 : decode cX10_meltsOf 91 = .ok (.iload 8, 2) := by decide +kernel
theorem dX10_meltsOf_93 : decode cX10_meltsOf 93 = .ok (.istore 8, 2) := by decide +kernel
theorem dX10_meltsOf_95 : decode cX10_meltsOf 95 = .ok (.iinc 9 1, 3) := by decide +kernel
theorem dX10_meltsOf_98 : decode cX10_meltsOf 98 = .ok (.goto (-62), 3) := by decide +kernel
theorem dX10_meltsOf_101 : decode cX10_meltsOf 101 = .ok (.iload 8, 2) := by decide +kernel
theorem dX10_meltsOf_103 : decode cX10_meltsOf 103 = .ok (.iconst (-1), 1) := by decide +kernel
theorem dX10_meltsOf_104 : decode cX10_meltsOf 104 = .ok (.if_icmp .ne 7, 3) := by decide +kernel
theorem dX10_meltsOf_107 : decode cX10_meltsOf 107 = .ok (.iconst 0, 1) := by decide +kernel
theorem dX10_meltsOf_108 : decode cX10_meltsOf 108 = .ok (.goto 16, 3) := by decide +kernel
theorem dX10_meltsOf_111 : decode cX10_meltsOf 111 = .ok (.aload_n 0, 1) := by decide +kernel
theorem dX10_meltsOf_112 : decode cX10_meltsOf 112 = .ok (.getfield 35, 3) := by decide +kernel
theorem dX10_meltsOf_115 : decode cX10_meltsOf 115 = .ok (.iload 8, 2) := by decide +kernel
theorem dX10_meltsOf_117 : decode cX10_meltsOf 117 = .ok (.iaload, 1) := by decide +kernel
theorem dX10_meltsOf_118 : decode cX10_meltsOf 118 = .ok (.iload_n 3, 1) := by decide +kernel
theorem dX10_meltsOf_119 : decode cX10_meltsOf 119 = .ok (.iadd, 1) := by decide +kernel
theorem dX10_meltsOf_120 : decode cX10_meltsOf 120 = .ok (.iconst 1, 1) := by decide +kernel
theorem dX10_meltsOf_121 : decode cX10_meltsOf 121 = .ok (.isub, 1) := by decide +kernel
theorem dX10_meltsOf_122 : decode cX10_meltsOf 122 = .ok (.iload_n 3, 1) := by decide +kernel
theorem dX10_meltsOf_123 : decode cX10_meltsOf 123 = .ok (.idiv, 1) := by decide +kernel
theorem dX10_meltsOf_124 : decode cX10_meltsOf 124 = .ok (.istore 9, 2) := by decide +kernel
theorem dX10_meltsOf_126 : decode cX10_meltsOf 126 = .ok (.iload 8, 2) := by decide +kernel
theorem dX10_meltsOf_128 : decode cX10_meltsOf 128 = .ok (.iconst (-1), 1) := by decide +kernel
theorem dX10_meltsOf_129 : decode cX10_meltsOf 129 = .ok (.if_icmp .eq 14, 3) := by decide +kernel
theorem dX10_meltsOf_132 : decode cX10_meltsOf 132 = .ok (.iload 9, 2) := by decide +kernel
theorem dX10_meltsOf_134 : decode cX10_meltsOf 134 = .ok (.iload 4, 2) := by decide +kernel
theorem dX10_meltsOf_136 : decode cX10_meltsOf 136 = .ok (.if_icmp .gt 7, 3) := by decide +kernel
theorem dX10_meltsOf_139 : decode cX10_meltsOf 139 = .ok (.iconst 1, 1) := by decide +kernel
theorem dX10_meltsOf_140 : decode cX10_meltsOf 140 = .ok (.goto 4, 3) := by decide +kernel
theorem dX10_meltsOf_143 : decode cX10_meltsOf 143 = .ok (.iconst 0, 1) := by decide +kernel
theorem dX10_meltsOf_144 : decode cX10_meltsOf 144 = .ok (.istore 7, 2) := by decide +kernel
theorem dX10_meltsOf_146 : decode cX10_meltsOf 146 = .ok (.iload 6, 2) := by decide +kernel
theorem dX10_meltsOf_148 : decode cX10_meltsOf 148 = .ok (.iload 7, 2) := by decide +kernel
theorem dX10_meltsOf_150 : decode cX10_meltsOf 150 = .ok (.ifCond .eq 10, 3) := by decide +kernel
theorem dX10_meltsOf_153 : decode cX10_meltsOf 153 = .ok (.iconst 1, 1) := by decide +kernel
theorem dX10_meltsOf_154 : decode cX10_meltsOf 154 = .ok (.iload 8, 2) := by decide +kernel
theorem dX10_meltsOf_156 : decode cX10_meltsOf 156 = .ok (.ishl, 1) := by decide +kernel
theorem dX10_meltsOf_157 : decode cX10_meltsOf 157 = .ok (.goto 4, 3) := by decide +kernel
theorem dX10_meltsOf_160 : decode cX10_meltsOf 160 = .ok (.iconst 0, 1) := by decide +kernel
theorem dX10_meltsOf_161 : decode cX10_meltsOf 161 = .ok (.ior, 1) := by decide +kernel
theorem dX10_meltsOf_162 : decode cX10_meltsOf 162 = .ok (.istore 6, 2) := by decide +kernel
theorem dX10_meltsOf_164 : decode cX10_meltsOf 164 = .ok (.iload 4, 2) := by decide +kernel
theorem dX10_meltsOf_166 : decode cX10_meltsOf 166 = .ok (.iload 7, 2) := by decide +kernel
theorem dX10_meltsOf_168 : decode cX10_meltsOf 168 = .ok (.ifCond .eq 8, 3) := by decide +kernel
theorem dX10_meltsOf_171 : decode cX10_meltsOf 171 = .ok (.iload 9, 2) := by decide +kernel
theorem dX10_meltsOf_173 : decode cX10_meltsOf 173 = .ok (.goto 4, 3) := by decide +kernel
theorem dX10_meltsOf_176 : decode cX10_meltsOf 176 = .ok (.iconst 0, 1) := by decide +kernel
theorem dX10_meltsOf_177 : decode cX10_meltsOf 177 = .ok (.isub, 1) := by decide +kernel
theorem dX10_meltsOf_178 : decode cX10_meltsOf 178 = .ok (.istore 4, 2) := by decide +kernel
theorem dX10_meltsOf_180 : decode cX10_meltsOf 180 = .ok (.iload 5, 2) := by decide +kernel
theorem dX10_meltsOf_182 : decode cX10_meltsOf 182 = .ok (.iload 7, 2) := by decide +kernel
theorem dX10_meltsOf_184 : decode cX10_meltsOf 184 = .ok (.ifCond .eq 7, 3) := by decide +kernel
theorem dX10_meltsOf_187 : decode cX10_meltsOf 187 = .ok (.iconst 1, 1) := by decide +kernel
theorem dX10_meltsOf_188 : decode cX10_meltsOf 188 = .ok (.goto 4, 3) := by decide +kernel
theorem dX10_meltsOf_191 : decode cX10_meltsOf 191 = .ok (.iconst 0, 1) := by decide +kernel
theorem dX10_meltsOf_192 : decode cX10_meltsOf 192 = .ok (.iadd, 1) := by decide +kernel
theorem dX10_meltsOf_193 : decode cX10_meltsOf 193 = .ok (.istore 5, 2) := by decide +kernel
theorem dX10_meltsOf_195 : decode cX10_meltsOf 195 = .ok (.goto (-170), 3) := by decide +kernel
theorem dX10_meltsOf_198 : decode cX10_meltsOf 198 = .ok (.iload 5, 2) := by decide +kernel
theorem dX10_meltsOf_200 : decode cX10_meltsOf 200 = .ok (.ireturn, 1) := by decide +kernel
theorem dX10_melts_0 : decode cX10_melts 0 = .ok (.iload_n 1, 1) := by decide +kernel
theorem dX10_melts_1 : decode cX10_melts 1 = .ok (.i2l, 1) := by decide +kernel
theorem dX10_melts_2 : decode cX10_melts 2 = .ok (.lconst 0, 1) := by decide +kernel
theorem dX10_melts_3 : decode cX10_melts 3 = .ok (.ldc2_w 148, 3) := by decide +kernel
theorem dX10_melts_6 : decode cX10_melts 6 = .ok (.invokestatic 73, 3) := by decide +kernel
theorem dX10_melts_9 : decode cX10_melts 9 = .ok (.ifCond .eq 27, 3) := by decide +kernel
theorem dX10_melts_12 : decode cX10_melts 12 = .ok (.iload_n 2, 1) := by decide +kernel
theorem dX10_melts_13 : decode cX10_melts 13 = .ok (.i2l, 1) := by decide +kernel
theorem dX10_melts_14 : decode cX10_melts 14 = .ok (.lconst 0, 1) := by decide +kernel
theorem dX10_melts_15 : decode cX10_melts 15 = .ok (.ldc2_w 220, 3) := by decide +kernel
theorem dX10_melts_18 : decode cX10_melts 18 = .ok (.invokestatic 73, 3) := by decide +kernel
theorem dX10_melts_21 : decode cX10_melts 21 = .ok (.ifCond .eq 15, 3) := by decide +kernel
theorem dX10_melts_24 : decode cX10_melts 24 = .ok (.iload_n 3, 1) := by decide +kernel
theorem dX10_melts_25 : decode cX10_melts 25 = .ok (.i2l, 1) := by decide +kernel
theorem dX10_melts_26 : decode cX10_melts 26 = .ok (.lconst 0, 1) := by decide +kernel
theorem dX10_melts_27 : decode cX10_melts 27 = .ok (.ldc2_w 148, 3) := by decide +kernel
theorem dX10_melts_30 : decode cX10_melts 30 = .ok (.invokestatic 73, 3) := by decide +kernel
theorem dX10_melts_33 : decode cX10_melts 33 = .ok (.ifCond .ne 6, 3) := by decide +kernel
theorem dX10_melts_36 : decode cX10_melts 36 = .ok (.bipush (-2), 2) := by decide +kernel
theorem dX10_melts_38 : decode cX10_melts 38 = .ok (.ireturn, 1) := by decide +kernel
theorem dX10_melts_39 : decode cX10_melts 39 = .ok (.aload_n 0, 1) := by decide +kernel
theorem dX10_melts_40 : decode cX10_melts 40 = .ok (.invokevirtual 174, 3) := by decide +kernel
theorem dX10_melts_43 : decode cX10_melts 43 = .ok (.iload_n 1, 1) := by decide +kernel
theorem dX10_melts_44 : decode cX10_melts 44 = .ok (.iload_n 2, 1) := by decide +kernel
theorem dX10_melts_45 : decode cX10_melts 45 = .ok (.iadd, 1) := by decide +kernel
theorem dX10_melts_46 : decode cX10_melts 46 = .ok (.bipush 40, 2) := by decide +kernel
theorem dX10_melts_48 : decode cX10_melts 48 = .ok (.if_icmp .le 8, 3) := by decide +kernel
theorem dX10_melts_51 : decode cX10_melts 51 = .ok (.bipush (-3), 2) := by decide +kernel
theorem dX10_melts_53 : decode cX10_melts 53 = .ok (.goto 9, 3) := by decide +kernel
theorem dX10_melts_56 : decode cX10_melts 56 = .ok (.aload_n 0, 1) := by decide +kernel
theorem dX10_melts_57 : decode cX10_melts 57 = .ok (.iload_n 1, 1) := by decide +kernel
theorem dX10_melts_58 : decode cX10_melts 58 = .ok (.iload_n 3, 1) := by decide +kernel
theorem dX10_melts_59 : decode cX10_melts 59 = .ok (.invokevirtual 222, 3) := by decide +kernel
theorem dX10_melts_62 : decode cX10_melts 62 = .ok (.ireturn, 1) := by decide +kernel
theorem dX10_againOf_0 : decode cX10_againOf 0 = .ok (.iconst 0, 1) := by decide +kernel
theorem dX10_againOf_1 : decode cX10_againOf 1 = .ok (.istore 4, 2) := by decide +kernel
theorem dX10_againOf_3 : decode cX10_againOf 3 = .ok (.iconst (-1), 1) := by decide +kernel
theorem dX10_againOf_4 : decode cX10_againOf 4 = .ok (.istore 5, 2) := by decide +kernel
theorem dX10_againOf_6 : decode cX10_againOf 6 = .ok (.iconst (-1), 1) := by decide +kernel
theorem dX10_againOf_7 : decode cX10_againOf 7 = .ok (.istore 6, 2) := by decide +kernel
theorem dX10_againOf_9 : decode cX10_againOf 9 = .ok (.iconst 0, 1) := by decide +kernel
theorem dX10_againOf_10 : decode cX10_againOf 10 = .ok (.istore 7, 2) := by decide +kernel
theorem dX10_againOf_12 : decode cX10_againOf 12 = .ok (.iload 7, 2) := by decide +kernel
theorem dX10_againOf_14 : decode cX10_againOf 14 = .ok (.bipush 120, 2) := by decide +kernel
theorem dX10_againOf_16 : decode cX10_againOf 16 = .ok (.if_icmp .gt 69, 3) := by decide +kernel
theorem dX10_againOf_19 : decode cX10_againOf 19 = .ok (.iload 4, 2) := by decide +kernel
theorem dX10_againOf_21 : decode cX10_againOf 21 = .ok (.iload_n 0, 1) := by decide +kernel
theorem dX10_againOf_22 : decode cX10_againOf 22 = .ok (.iadd, 1) := by decide +kernel
theorem dX10_againOf_23 : decode cX10_againOf 23 = .ok (.iload 7, 2) := by decide +kernel
theorem dX10_againOf_25 : decode cX10_againOf 25 = .ok (.iload_n 2, 1) := by decide +kernel
theorem dX10_againOf_26 : decode cX10_againOf 26 = .ok (.if_icmp .lt 7, 3) := by decide +kernel
theorem dX10_againOf_29 : decode cX10_againOf 29 = .ok (.iload_n 1, 1) := by decide +kernel
theorem dX10_againOf_30 : decode cX10_againOf 30 = .ok (.goto 4, 3) := by decide +kernel
theorem dX10_againOf_33 : decode cX10_againOf 33 = .ok (.iconst 0, 1) := by decide +kernel
theorem dX10_againOf_34 : decode cX10_againOf 34 = .ok (.isub, 1) := by decide +kernel
theorem dX10_againOf_35 : decode cX10_againOf 35 = .ok (.iconst 0, 1) := by decide +kernel
theorem dX10_againOf_36 : decode cX10_againOf 36 = .ok (.invokestatic 225, 3) := by decide +kernel
theorem dX10_againOf_39 : decode cX10_againOf 39 = .ok (.istore 4, 2) := by decide +kernel
theorem dX10_againOf_41 : decode cX10_againOf 41 = .ok (.iload 4, 2) := by decide +kernel
theorem dX10_againOf_43 : decode cX10_againOf 43 = .ok (.bipush 10, 2) := by decide +kernel
theorem dX10_againOf_45 : decode cX10_againOf 45 = .ok (.if_icmp .le 14, 3) := by decide +kernel
theorem dX10_againOf_48 : decode cX10_againOf 48 = .ok (.iload 5, 2) := by decide +kernel
theorem dX10_againOf_50 : decode cX10_againOf 50 = .ok (.iconst (-1), 1) := by decide +kernel
theorem dX10_againOf_51 : decode cX10_againOf 51 = .ok (.if_icmp .ne 8, 3) := by decide +kernel
theorem dX10_againOf_54 : decode cX10_againOf 54 = .ok (.iload 7, 2) := by decide +kernel
theorem dX10_againOf_56 : decode cX10_againOf 56 = .ok (.goto 5, 3) := by decide +kernel
theorem dX10_againOf_59 : decode cX10_againOf 59 = .ok (.iload 5, 2) := by decide +kernel
theorem dX10_againOf_61 : decode cX10_againOf 61 = .ok (.istore 5, 2) := by decide +kernel
theorem dX10_againOf_63 : decode cX10_againOf 63 = .ok (.iload 4, 2) := by decide +kernel
theorem dX10_againOf_65 : decode cX10_againOf 65 = .ok (.bipush 10, 2) := by decide +kernel
theorem dX10_againOf_67 : decode cX10_againOf 67 = .ok (.if_icmp .le 8, 3) := by decide +kernel
theorem dX10_againOf_70 : decode cX10_againOf 70 = .ok (.iload 7, 2) := by decide +kernel
theorem dX10_againOf_72 : decode cX10_againOf 72 = .ok (.goto 5, 3) := by decide +kernel
theorem dX10_againOf_75 : decode cX10_againOf 75 = .ok (.iload 6, 2) := by decide +kernel
theorem dX10_againOf_77 : decode cX10_againOf 77 = .ok (.istore 6, 2) := by decide +kernel
theorem dX10_againOf_79 : decode cX10_againOf 79 = .ok (.iinc 7 1, 3) := by decide +kernel
theorem dX10_againOf_82 : decode cX10_againOf 82 = .ok (.goto (-70), 3) := by decide +kernel
theorem dX10_againOf_85 : decode cX10_againOf 85 = .ok (.iload_n 3, 1) := by decide +kernel
theorem dX10_againOf_86 : decode cX10_againOf 86 = .ok (.ifCond .ne 8, 3) := by decide +kernel
theorem dX10_againOf_89 : decode cX10_againOf 89 = .ok (.iload 5, 2) := by decide +kernel
theorem dX10_againOf_91 : decode cX10_againOf 91 = .ok (.goto 18, 3) := by decide +kernel
theorem dX10_againOf_94 : decode cX10_againOf 94 = .ok (.iload 6, 2) := by decide +kernel
theorem dX10_againOf_96 : decode cX10_againOf 96 = .ok (.bipush 120, 2) := by decide +kernel
theorem dX10_againOf_98 : decode cX10_againOf 98 = .ok (.if_icmp .ne 7, 3) := by decide +kernel
theorem dX10_againOf_101 : decode cX10_againOf 101 = .ok (.iconst (-1), 1) := by decide +kernel
theorem dX10_againOf_102 : decode cX10_againOf 102 = .ok (.goto 7, 3) := by decide +kernel
theorem dX10_againOf_105 : decode cX10_againOf 105 = .ok (.iload 6, 2) := by decide +kernel
theorem dX10_againOf_107 : decode cX10_againOf 107 = .ok (.iconst 1, 1) := by decide +kernel
theorem dX10_againOf_108 : decode cX10_againOf 108 = .ok (.iadd, 1) := by decide +kernel
theorem dX10_againOf_109 : decode cX10_againOf 109 = .ok (.ireturn, 1) := by decide +kernel
theorem dX10_again_0 : decode cX10_again 0 = .ok (.iload_n 1, 1) := by decide +kernel
theorem dX10_again_1 : decode cX10_again 1 = .ok (.i2l, 1) := by decide +kernel
theorem dX10_again_2 : decode cX10_again 2 = .ok (.lconst 1, 1) := by decide +kernel
theorem dX10_again_3 : decode cX10_again 3 = .ok (.ldc2_w 228, 3) := by decide +kernel
theorem dX10_again_6 : decode cX10_again 6 = .ok (.invokestatic 73, 3) := by decide +kernel
theorem dX10_again_9 : decode cX10_again 9 = .ok (.ifCond .eq 46, 3) := by decide +kernel
theorem dX10_again_12 : decode cX10_again 12 = .ok (.iload_n 2, 1) := by decide +kernel
theorem dX10_again_13 : decode cX10_again 13 = .ok (.i2l, 1) := by decide +kernel
theorem dX10_again_14 : decode cX10_again 14 = .ok (.lconst 0, 1) := by decide +kernel
theorem dX10_again_15 : decode cX10_again 15 = .ok (.ldc2_w 119, 3) := by decide +kernel
theorem dX10_again_18 : decode cX10_again 18 = .ok (.invokestatic 73, 3) := by decide +kernel
theorem dX10_again_21 : decode cX10_again 21 = .ok (.ifCond .eq 34, 3) := by decide +kernel
theorem dX10_again_24 : decode cX10_again 24 = .ok (.iload_n 3, 1) := by decide +kernel
theorem dX10_again_25 : decode cX10_again 25 = .ok (.i2l, 1) := by decide +kernel
theorem dX10_again_26 : decode cX10_again 26 = .ok (.lconst 0, 1) := by decide +kernel
theorem dX10_again_27 : decode cX10_again 27 = .ok (.ldc2_w 146, 3) := by decide +kernel
theorem dX10_again_30 : decode cX10_again 30 = .ok (.invokestatic 73, 3) := by decide +kernel
theorem dX10_again_33 : decode cX10_again 33 = .ok (.ifCond .eq 22, 3) := by decide +kernel
theorem dX10_again_36 : decode cX10_again 36 = .ok (.iload 4, 2) := by decide +kernel
theorem dX10_again_38 : decode cX10_again 38 = .ok (.invokestatic 102, 3) := by decide +kernel
theorem dX10_again_41 : decode cX10_again 41 = .ok (.ifCond .eq 14, 3) := by decide +kernel
theorem dX10_again_44 : decode cX10_again 44 = .ok (.iload_n 1, 1) := by decide +kernel
theorem dX10_again_45 : decode cX10_again 45 = .ok (.iload_n 2, 1) := by decide +kernel
theorem dX10_again_46 : decode cX10_again 46 = .ok (.iload_n 3, 1) := by decide +kernel
theorem dX10_again_47 : decode cX10_again 47 = .ok (.iload 4, 2) := by decide +kernel
theorem dX10_again_49 : decode cX10_again 49 = .ok (.invokestatic 230, 3) := by decide +kernel
theorem dX10_again_52 : decode cX10_again 52 = .ok (.goto 5, 3) := by decide +kernel
theorem dX10_again_55 : decode cX10_again 55 = .ok (.bipush (-2), 2) := by decide +kernel
theorem dX10_again_57 : decode cX10_again 57 = .ok (.ireturn, 1) := by decide +kernel
theorem dX10_nightOf_0 : decode cX10_nightOf 0 = .ok (.bipush 6, 2) := by decide +kernel
theorem dX10_nightOf_2 : decode cX10_nightOf 2 = .ok (.iconst 4, 1) := by decide +kernel
theorem dX10_nightOf_3 : decode cX10_nightOf 3 = .ok (.iload_n 0, 1) := by decide +kernel
theorem dX10_nightOf_4 : decode cX10_nightOf 4 = .ok (.imul, 1) := by decide +kernel
theorem dX10_nightOf_5 : decode cX10_nightOf 5 = .ok (.isub, 1) := by decide +kernel
theorem dX10_nightOf_6 : decode cX10_nightOf 6 = .ok (.iload_n 1, 1) := by decide +kernel
theorem dX10_nightOf_7 : decode cX10_nightOf 7 = .ok (.isub, 1) := by decide +kernel
theorem dX10_nightOf_8 : decode cX10_nightOf 8 = .ok (.iconst 0, 1) := by decide +kernel
theorem dX10_nightOf_9 : decode cX10_nightOf 9 = .ok (.invokestatic 225, 3) := by decide +kernel
theorem dX10_nightOf_12 : decode cX10_nightOf 12 = .ok (.istore_n 3, 1) := by decide +kernel
theorem dX10_nightOf_13 : decode cX10_nightOf 13 = .ok (.iload_n 2, 1) := by decide +kernel
theorem dX10_nightOf_14 : decode cX10_nightOf 14 = .ok (.iconst 1, 1) := by decide +kernel
theorem dX10_nightOf_15 : decode cX10_nightOf 15 = .ok (.if_icmp .ne 11, 3) := by decide +kernel
theorem dX10_nightOf_18 : decode cX10_nightOf 18 = .ok (.iload_n 3, 1) := by decide +kernel
theorem dX10_nightOf_19 : decode cX10_nightOf 19 = .ok (.iload_n 3, 1) := by decide +kernel
theorem dX10_nightOf_20 : decode cX10_nightOf 20 = .ok (.iconst 2, 1) := by decide +kernel
theorem dX10_nightOf_21 : decode cX10_nightOf 21 = .ok (.idiv, 1) := by decide +kernel
theorem dX10_nightOf_22 : decode cX10_nightOf 22 = .ok (.isub, 1) := by decide +kernel
theorem dX10_nightOf_23 : decode cX10_nightOf 23 = .ok (.goto 4, 3) := by decide +kernel
theorem dX10_nightOf_26 : decode cX10_nightOf 26 = .ok (.iload_n 3, 1) := by decide +kernel
theorem dX10_nightOf_27 : decode cX10_nightOf 27 = .ok (.ireturn, 1) := by decide +kernel
theorem dX10_isNight_0 : decode cX10_isNight 0 = .ok (.iload_n 0, 1) := by decide +kernel
theorem dX10_isNight_1 : decode cX10_isNight 1 = .ok (.i2l, 1) := by decide +kernel
theorem dX10_isNight_2 : decode cX10_isNight 2 = .ok (.lconst 0, 1) := by decide +kernel
theorem dX10_isNight_3 : decode cX10_isNight 3 = .ok (.ldc2_w 81, 3) := by decide +kernel
theorem dX10_isNight_6 : decode cX10_isNight 6 = .ok (.invokestatic 73, 3) := by decide +kernel
theorem dX10_isNight_9 : decode cX10_isNight 9 = .ok (.ifCond .eq 14, 3) := by decide +kernel
theorem dX10_isNight_12 : decode cX10_isNight 12 = .ok (.iload_n 1, 1) := by decide +kernel
theorem dX10_isNight_13 : decode cX10_isNight 13 = .ok (.invokestatic 102, 3) := by decide +kernel
theorem dX10_isNight_16 : decode cX10_isNight 16 = .ok (.ifCond .eq 7, 3) := by decide +kernel
theorem dX10_isNight_19 : decode cX10_isNight 19 = .ok (.iconst 1, 1) := by decide +kernel
theorem dX10_isNight_20 : decode cX10_isNight 20 = .ok (.goto 4, 3) := by decide +kernel
theorem dX10_isNight_23 : decode cX10_isNight 23 = .ok (.iconst 0, 1) := by decide +kernel
theorem dX10_isNight_24 : decode cX10_isNight 24 = .ok (.ireturn, 1) := by decide +kernel
theorem dX10_night_0 : decode cX10_night 0 = .ok (.iload_n 1, 1) := by decide +kernel
theorem dX10_night_1 : decode cX10_night 1 = .ok (.invokestatic 102, 3) := by decide +kernel
theorem dX10_night_4 : decode cX10_night 4 = .ok (.ifCond .eq 20, 3) := by decide +kernel
theorem dX10_night_7 : decode cX10_night 7 = .ok (.iload_n 2, 1) := by decide +kernel
theorem dX10_night_8 : decode cX10_night 8 = .ok (.iload_n 3, 1) := by decide +kernel
theorem dX10_night_9 : decode cX10_night 9 = .ok (.invokestatic 233, 3) := by decide +kernel
theorem dX10_night_12 : decode cX10_night 12 = .ok (.ifCond .eq 12, 3) := by decide +kernel
theorem dX10_night_15 : decode cX10_night 15 = .ok (.iload_n 1, 1) := by decide +kernel
theorem dX10_night_16 : decode cX10_night 16 = .ok (.iload_n 2, 1) := by decide +kernel
theorem dX10_night_17 : decode cX10_night 17 = .ok (.iload_n 3, 1) := by decide +kernel
theorem dX10_night_18 : decode cX10_night 18 = .ok (.invokestatic 236, 3) := by decide +kernel
theorem dX10_night_21 : decode cX10_night 21 = .ok (.goto 5, 3) := by decide +kernel
theorem dX10_night_24 : decode cX10_night 24 = .ok (.bipush (-2), 2) := by decide +kernel
theorem dX10_night_26 : decode cX10_night 26 = .ok (.ireturn, 1) := by decide +kernel
theorem dX10_part_0 : decode cX10_part 0 = .ok (.lload_n 0, 1) := by decide +kernel
theorem dX10_part_1 : decode cX10_part 1 = .ok (.lstore 5, 2) := by decide +kernel
theorem dX10_part_3 : decode cX10_part 3 = .ok (.lload_n 2, 1) := by decide +kernel
theorem dX10_part_4 : decode cX10_part 4 = .ok (.lstore 7, 2) := by decide +kernel
theorem dX10_part_6 : decode cX10_part 6 = .ok (.lload 7, 2) := by decide +kernel
theorem dX10_part_8 : decode cX10_part 8 = .ok (.lconst 0, 1) := by decide +kernel
theorem dX10_part_9 : decode cX10_part 9 = .ok (.lcmp, 1) := by decide +kernel
theorem dX10_part_10 : decode cX10_part 10 = .ok (.ifCond .eq 21, 3) := by decide +kernel
theorem dX10_part_13 : decode cX10_part 13 = .ok (.lload 5, 2) := by decide +kernel
theorem dX10_part_15 : decode cX10_part 15 = .ok (.lload 7, 2) := by decide +kernel
theorem dX10_part_17 : decode cX10_part 17 = .ok (.lrem, 1) := by decide +kernel
theorem dX10_part_18 : decode cX10_part 18 = .ok (.lstore 9, 2) := by decide +kernel
theorem dX10_part_20 : decode cX10_part 20 = .ok (.lload 7, 2) := by decide +kernel
theorem dX10_part_22 : decode cX10_part 22 = .ok (.lstore 5, 2) := by decide +kernel
theorem dX10_part_24 : decode cX10_part 24 = .ok (.lload 9, 2) := by decide +kernel
theorem dX10_part_26 : decode cX10_part 26 = .ok (.lstore 7, 2) := by decide +kernel
theorem dX10_part_28 : decode cX10_part 28 = .ok (.goto (-22), 3) := by decide +kernel
theorem dX10_part_31 : decode cX10_part 31 = .ok (.iload 4, 2) := by decide +kernel
theorem dX10_part_33 : decode cX10_part 33 = .ok (.ifCond .ne 7, 3) := by decide +kernel
theorem dX10_part_36 : decode cX10_part 36 = .ok (.lload_n 0, 1) := by decide +kernel
theorem dX10_part_37 : decode cX10_part 37 = .ok (.goto 4, 3) := by decide +kernel
theorem dX10_part_40 : decode cX10_part 40 = .ok (.lload_n 2, 1) := by decide +kernel
theorem dX10_part_41 : decode cX10_part 41 = .ok (.lload 5, 2) := by decide +kernel
theorem dX10_part_43 : decode cX10_part 43 = .ok (.ldiv, 1) := by decide +kernel
theorem dX10_part_44 : decode cX10_part 44 = .ok (.lreturn, 1) := by decide +kernel
theorem dX10_tonightBy_0 : decode cX10_tonightBy 0 = .ok (.aload_n 0, 1) := by decide +kernel
theorem dX10_tonightBy_1 : decode cX10_tonightBy 1 = .ok (.getfield 107, 3) := by decide +kernel
theorem dX10_tonightBy_4 : decode cX10_tonightBy 4 = .ok (.aload_n 0, 1) := by decide +kernel
theorem dX10_tonightBy_5 : decode cX10_tonightBy 5 = .ok (.getfield 41, 3) := by decide +kernel
theorem dX10_tonightBy_8 : decode cX10_tonightBy 8 = .ok (.iload 4, 2) := by decide +kernel
theorem dX10_tonightBy_10 : decode cX10_tonightBy 10 = .ok (.iaload, 1) := by decide +kernel
theorem dX10_tonightBy_11 : decode cX10_tonightBy 11 = .ok (.imul, 1) := by decide +kernel
theorem dX10_tonightBy_12 : decode cX10_tonightBy 12 = .ok (.iload_n 1, 1) := by decide +kernel
theorem dX10_tonightBy_13 : decode cX10_tonightBy 13 = .ok (.iconst 0, 1) := by decide +kernel
theorem dX10_tonightBy_14 : decode cX10_tonightBy 14 = .ok (.iload_n 2, 1) := by decide +kernel
theorem dX10_tonightBy_15 : decode cX10_tonightBy 15 = .ok (.iload_n 3, 1) := by decide +kernel
theorem dX10_tonightBy_16 : decode cX10_tonightBy 16 = .ok (.invokestatic 236, 3) := by decide +kernel
theorem dX10_tonightBy_19 : decode cX10_tonightBy 19 = .ok (.imul, 1) := by decide +kernel
theorem dX10_tonightBy_20 : decode cX10_tonightBy 20 = .ok (.bipush 16, 2) := by decide +kernel
theorem dX10_tonightBy_22 : decode cX10_tonightBy 22 = .ok (.iload_n 1, 1) := by decide +kernel
theorem dX10_tonightBy_23 : decode cX10_tonightBy 23 = .ok (.isub, 1) := by decide +kernel
theorem dX10_tonightBy_24 : decode cX10_tonightBy 24 = .ok (.iconst 1, 1) := by decide +kernel
theorem dX10_tonightBy_25 : decode cX10_tonightBy 25 = .ok (.iload_n 2, 1) := by decide +kernel
theorem dX10_tonightBy_26 : decode cX10_tonightBy 26 = .ok (.iload_n 3, 1) := by decide +kernel
theorem dX10_tonightBy_27 : decode cX10_tonightBy 27 = .ok (.invokestatic 236, 3) := by decide +kernel
theorem dX10_tonightBy_30 : decode cX10_tonightBy 30 = .ok (.imul, 1) := by decide +kernel
theorem dX10_tonightBy_31 : decode cX10_tonightBy 31 = .ok (.iadd, 1) := by decide +kernel
theorem dX10_tonightBy_32 : decode cX10_tonightBy 32 = .ok (.imul, 1) := by decide +kernel
theorem dX10_tonightBy_33 : decode cX10_tonightBy 33 = .ok (.ireturn, 1) := by decide +kernel
theorem dX10_tonight_0 : decode cX10_tonight 0 = .ok (.aload_n 0, 1) := by decide +kernel
theorem dX10_tonight_1 : decode cX10_tonight 1 = .ok (.invokevirtual 134, 3) := by decide +kernel
theorem dX10_tonight_4 : decode cX10_tonight 4 = .ok (.pop, 1) := by decide +kernel
theorem dX10_tonight_5 : decode cX10_tonight 5 = .ok (.iload_n 1, 1) := by decide +kernel
theorem dX10_tonight_6 : decode cX10_tonight 6 = .ok (.i2l, 1) := by decide +kernel
theorem dX10_tonight_7 : decode cX10_tonight 7 = .ok (.lconst 0, 1) := by decide +kernel
theorem dX10_tonight_8 : decode cX10_tonight 8 = .ok (.ldc2_w 239, 3) := by decide +kernel
theorem dX10_tonight_11 : decode cX10_tonight 11 = .ok (.invokestatic 73, 3) := by decide +kernel
theorem dX10_tonight_14 : decode cX10_tonight 14 = .ok (.ifCond .eq 31, 3) := by decide +kernel
theorem dX10_tonight_17 : decode cX10_tonight 17 = .ok (.iload_n 2, 1) := by decide +kernel
theorem dX10_tonight_18 : decode cX10_tonight 18 = .ok (.iload_n 3, 1) := by decide +kernel
theorem dX10_tonight_19 : decode cX10_tonight 19 = .ok (.invokestatic 233, 3) := by decide +kernel
theorem dX10_tonight_22 : decode cX10_tonight 22 = .ok (.ifCond .eq 23, 3) := by decide +kernel
theorem dX10_tonight_25 : decode cX10_tonight 25 = .ok (.iload 4, 2) := by decide +kernel
theorem dX10_tonight_27 : decode cX10_tonight 27 = .ok (.invokestatic 143, 3) := by decide +kernel
theorem dX10_tonight_30 : decode cX10_tonight 30 = .ok (.ifCond .eq 15, 3) := by decide +kernel
theorem dX10_tonight_33 : decode cX10_tonight 33 = .ok (.iload 5, 2) := by decide +kernel
theorem dX10_tonight_35 : decode cX10_tonight 35 = .ok (.invokestatic 102, 3) := by decide +kernel
theorem dX10_tonight_38 : decode cX10_tonight 38 = .ok (.ifCond .eq 7, 3) := by decide +kernel
theorem dX10_tonight_41 : decode cX10_tonight 41 = .ok (.iconst 1, 1) := by decide +kernel
theorem dX10_tonight_42 : decode cX10_tonight 42 = .ok (.goto 4, 3) := by decide +kernel
theorem dX10_tonight_45 : decode cX10_tonight 45 = .ok (.iconst 0, 1) := by decide +kernel
theorem dX10_tonight_46 : decode cX10_tonight 46 = .ok (.istore 6, 2) := by decide +kernel
theorem dX10_tonight_48 : decode cX10_tonight 48 = .ok (.iload 6, 2) := by decide +kernel
theorem dX10_tonight_50 : decode cX10_tonight 50 = .ok (.ifCond .eq 24, 3) := by decide +kernel
theorem dX10_tonight_53 : decode cX10_tonight 53 = .ok (.aload_n 0, 1) := by decide +kernel
theorem dX10_tonight_54 : decode cX10_tonight 54 = .ok (.iload_n 1, 1) := by decide +kernel
theorem dX10_tonight_55 : decode cX10_tonight 55 = .ok (.iload_n 2, 1) := by decide +kernel
theorem dX10_tonight_56 : decode cX10_tonight 56 = .ok (.iload_n 3, 1) := by decide +kernel
theorem dX10_tonight_57 : decode cX10_tonight 57 = .ok (.iload 4, 2) := by decide +kernel
theorem dX10_tonight_59 : decode cX10_tonight 59 = .ok (.invokevirtual 241, 3) := by decide +kernel
theorem dX10_tonight_62 : decode cX10_tonight 62 = .ok (.i2l, 1) := by decide +kernel
theorem dX10_tonight_63 : decode cX10_tonight 63 = .ok (.ldc2_w 239, 3) := by decide +kernel
theorem dX10_tonight_66 : decode cX10_tonight 66 = .ok (.iload 5, 2) := by decide +kernel
theorem dX10_tonight_68 : decode cX10_tonight 68 = .ok (.invokestatic 244, 3) := by decide +kernel
theorem dX10_tonight_71 : decode cX10_tonight 71 = .ok (.goto 8, 3) := by decide +kernel
theorem dX10_tonight_74 : decode cX10_tonight 74 = .ok (.bipush (-2), 2) := by decide +kernel
theorem dX10_tonight_76 : decode cX10_tonight 76 = .ok (.invokestatic 248, 3) := by decide +kernel
theorem dX10_tonight_79 : decode cX10_tonight 79 = .ok (.lreturn, 1) := by decide +kernel
theorem dX10_cover_0 : decode cX10_cover 0 = .ok (.aload_n 0, 1) := by decide +kernel
theorem dX10_cover_1 : decode cX10_cover 1 = .ok (.invokevirtual 134, 3) := by decide +kernel
theorem dX10_cover_4 : decode cX10_cover 4 = .ok (.pop, 1) := by decide +kernel
theorem dX10_cover_5 : decode cX10_cover 5 = .ok (.iload_n 1, 1) := by decide +kernel
theorem dX10_cover_6 : decode cX10_cover 6 = .ok (.i2l, 1) := by decide +kernel
theorem dX10_cover_7 : decode cX10_cover 7 = .ok (.lconst 0, 1) := by decide +kernel
theorem dX10_cover_8 : decode cX10_cover 8 = .ok (.ldc2_w 239, 3) := by decide +kernel
theorem dX10_cover_11 : decode cX10_cover 11 = .ok (.invokestatic 73, 3) := by decide +kernel
theorem dX10_cover_14 : decode cX10_cover 14 = .ok (.ifCond .eq 44, 3) := by decide +kernel
theorem dX10_cover_17 : decode cX10_cover 17 = .ok (.iload_n 2, 1) := by decide +kernel
theorem dX10_cover_18 : decode cX10_cover 18 = .ok (.i2l, 1) := by decide +kernel
theorem dX10_cover_19 : decode cX10_cover 19 = .ok (.lconst 0, 1) := by decide +kernel
theorem dX10_cover_20 : decode cX10_cover 20 = .ok (.ldc2_w 252, 3) := by decide +kernel
theorem dX10_cover_23 : decode cX10_cover 23 = .ok (.invokestatic 73, 3) := by decide +kernel
theorem dX10_cover_26 : decode cX10_cover 26 = .ok (.ifCond .eq 32, 3) := by decide +kernel
theorem dX10_cover_29 : decode cX10_cover 29 = .ok (.iload_n 3, 1) := by decide +kernel
theorem dX10_cover_30 : decode cX10_cover 30 = .ok (.i2l, 1) := by decide +kernel
theorem dX10_cover_31 : decode cX10_cover 31 = .ok (.lconst 0, 1) := by decide +kernel
theorem dX10_cover_32 : decode cX10_cover 32 = .ok (.ldc2_w 239, 3) := by decide +kernel
theorem dX10_cover_35 : decode cX10_cover 35 = .ok (.invokestatic 73, 3) := by decide +kernel
theorem dX10_cover_38 : decode cX10_cover 38 = .ok (.ifCond .eq 20, 3) := by decide +kernel
theorem dX10_cover_41 : decode cX10_cover 41 = .ok (.iload 4, 2) := by decide +kernel
theorem dX10_cover_43 : decode cX10_cover 43 = .ok (.i2l, 1) := by decide +kernel
theorem dX10_cover_44 : decode cX10_cover 44 = .ok (.lconst 0, 1) := by decide +kernel
theorem dX10_cover_45 : decode cX10_cover 45 = .ok (.ldc2_w 252, 3) := by decide +kernel
theorem dX10_cover_48 : decode cX10_cover 48 = .ok (.invokestatic 73, 3) := by decide +kernel
theorem dX10_cover_51 : decode cX10_cover 51 = .ok (.ifCond .eq 7, 3) := by decide +kernel
theorem dX10_cover_54 : decode cX10_cover 54 = .ok (.iconst 1, 1) := by decide +kernel
theorem dX10_cover_55 : decode cX10_cover 55 = .ok (.goto 4, 3) := by decide +kernel
theorem dX10_cover_58 : decode cX10_cover 58 = .ok (.iconst 0, 1) := by decide +kernel
theorem dX10_cover_59 : decode cX10_cover 59 = .ok (.istore 5, 2) := by decide +kernel
theorem dX10_cover_61 : decode cX10_cover 61 = .ok (.iload 5, 2) := by decide +kernel
theorem dX10_cover_63 : decode cX10_cover 63 = .ok (.ifCond .ne 8, 3) := by decide +kernel
theorem dX10_cover_66 : decode cX10_cover 66 = .ok (.bipush (-2), 2) := by decide +kernel
theorem dX10_cover_68 : decode cX10_cover 68 = .ok (.goto 28, 3) := by decide +kernel
theorem dX10_cover_71 : decode cX10_cover 71 = .ok (.bipush 16, 2) := by decide +kernel
theorem dX10_cover_73 : decode cX10_cover 73 = .ok (.iload_n 2, 1) := by decide +kernel
theorem dX10_cover_74 : decode cX10_cover 74 = .ok (.imul, 1) := by decide +kernel
theorem dX10_cover_75 : decode cX10_cover 75 = .ok (.iload 4, 2) := by decide +kernel
theorem dX10_cover_77 : decode cX10_cover 77 = .ok (.iload_n 3, 1) := by decide +kernel
theorem dX10_cover_78 : decode cX10_cover 78 = .ok (.imul, 1) := by decide +kernel
theorem dX10_cover_79 : decode cX10_cover 79 = .ok (.iadd, 1) := by decide +kernel
theorem dX10_cover_80 : decode cX10_cover 80 = .ok (.aload_n 0, 1) := by decide +kernel
theorem dX10_cover_81 : decode cX10_cover 81 = .ok (.iload_n 1, 1) := by decide +kernel
theorem dX10_cover_82 : decode cX10_cover 82 = .ok (.iconst 0, 1) := by decide +kernel
theorem dX10_cover_83 : decode cX10_cover 83 = .ok (.iconst 0, 1) := by decide +kernel
theorem dX10_cover_84 : decode cX10_cover 84 = .ok (.iconst 0, 1) := by decide +kernel
theorem dX10_cover_85 : decode cX10_cover 85 = .ok (.invokevirtual 241, 3) := by decide +kernel
theorem dX10_cover_88 : decode cX10_cover 88 = .ok (.if_icmp .ge 7, 3) := by decide +kernel
theorem dX10_cover_91 : decode cX10_cover 91 = .ok (.iconst 1, 1) := by decide +kernel
theorem dX10_cover_92 : decode cX10_cover 92 = .ok (.goto 4, 3) := by decide +kernel
theorem dX10_cover_95 : decode cX10_cover 95 = .ok (.iconst 0, 1) := by decide +kernel
theorem dX10_cover_96 : decode cX10_cover 96 = .ok (.ireturn, 1) := by decide +kernel
theorem dX10_car_0 : decode cX10_car 0 = .ok (.iload_n 1, 1) := by decide +kernel
theorem dX10_car_1 : decode cX10_car 1 = .ok (.i2l, 1) := by decide +kernel
theorem dX10_car_2 : decode cX10_car 2 = .ok (.lconst 1, 1) := by decide +kernel
theorem dX10_car_3 : decode cX10_car 3 = .ok (.ldc2_w 252, 3) := by decide +kernel
theorem dX10_car_6 : decode cX10_car 6 = .ok (.invokestatic 73, 3) := by decide +kernel
theorem dX10_car_9 : decode cX10_car 9 = .ok (.ifCond .eq 15, 3) := by decide +kernel
theorem dX10_car_12 : decode cX10_car 12 = .ok (.iload_n 2, 1) := by decide +kernel
theorem dX10_car_13 : decode cX10_car 13 = .ok (.i2l, 1) := by decide +kernel
theorem dX10_car_14 : decode cX10_car 14 = .ok (.lconst 0, 1) := by decide +kernel
theorem dX10_car_15 : decode cX10_car 15 = .ok (.ldc2_w 252, 3) := by decide +kernel
theorem dX10_car_18 : decode cX10_car 18 = .ok (.invokestatic 73, 3) := by decide +kernel
theorem dX10_car_21 : decode cX10_car 21 = .ok (.ifCond .ne 6, 3) := by decide +kernel
theorem dX10_car_24 : decode cX10_car 24 = .ok (.bipush (-2), 2) := by decide +kernel
theorem dX10_car_26 : decode cX10_car 26 = .ok (.ireturn, 1) := by decide +kernel
theorem dX10_car_27 : decode cX10_car 27 = .ok (.aload_n 0, 1) := by decide +kernel
theorem dX10_car_28 : decode cX10_car 28 = .ok (.getfield 254, 3) := by decide +kernel
theorem dX10_car_31 : decode cX10_car 31 = .ok (.bipush 7, 2) := by decide +kernel
theorem dX10_car_33 : decode cX10_car 33 = .ok (.if_icmp .ne 6, 3) := by decide +kernel
theorem dX10_car_36 : decode cX10_car 36 = .ok (.bipush (-4), 2) := by decide +kernel
theorem dX10_car_38 : decode cX10_car 38 = .ok (.ireturn, 1) := by decide +kernel
theorem dX10_car_39 : decode cX10_car 39 = .ok (.aload_n 0, 1) := by decide +kernel
theorem dX10_car_40 : decode cX10_car 40 = .ok (.getfield 62, 3) := by decide +kernel
theorem dX10_car_43 : decode cX10_car 43 = .ok (.iconst 2, 1) := by decide +kernel
theorem dX10_car_44 : decode cX10_car 44 = .ok (.aload_n 0, 1) := by decide +kernel
theorem dX10_car_45 : decode cX10_car 45 = .ok (.getfield 254, 3) := by decide +kernel
theorem dX10_car_48 : decode cX10_car 48 = .ok (.imul, 1) := by decide +kernel
theorem dX10_car_49 : decode cX10_car 49 = .ok (.iload_n 1, 1) := by decide +kernel
theorem dX10_car_50 : decode cX10_car 50 = .ok (.iastore, 1) := by decide +kernel
theorem dX10_car_51 : decode cX10_car 51 = .ok (.aload_n 0, 1) := by decide +kernel
theorem dX10_car_52 : decode cX10_car 52 = .ok (.getfield 62, 3) := by decide +kernel
theorem dX10_car_55 : decode cX10_car 55 = .ok (.iconst 2, 1) := by decide +kernel
theorem dX10_car_56 : decode cX10_car 56 = .ok (.aload_n 0, 1) := by decide +kernel
theorem dX10_car_57 : decode cX10_car 57 = .ok (.getfield 254, 3) := by decide +kernel
theorem dX10_car_60 : decode cX10_car 60 = .ok (.imul, 1) := by decide +kernel
theorem dX10_car_61 : decode cX10_car 61 = .ok (.iconst 1, 1) := by decide +kernel
theorem dX10_car_62 : decode cX10_car 62 = .ok (.iadd, 1) := by decide +kernel
theorem dX10_car_63 : decode cX10_car 63 = .ok (.iload_n 2, 1) := by decide +kernel
theorem dX10_car_64 : decode cX10_car 64 = .ok (.iastore, 1) := by decide +kernel
theorem dX10_car_65 : decode cX10_car 65 = .ok (.aload_n 0, 1) := by decide +kernel
theorem dX10_car_66 : decode cX10_car 66 = .ok (.dup, 1) := by decide +kernel
theorem dX10_car_67 : decode cX10_car 67 = .ok (.getfield 254, 3) := by decide +kernel
theorem dX10_car_70 : decode cX10_car 70 = .ok (.iconst 1, 1) := by decide +kernel
theorem dX10_car_71 : decode cX10_car 71 = .ok (.iadd, 1) := by decide +kernel
theorem dX10_car_72 : decode cX10_car 72 = .ok (.putfield 254, 3) := by decide +kernel
theorem dX10_car_75 : decode cX10_car 75 = .ok (.aload_n 0, 1) := by decide +kernel
theorem dX10_car_76 : decode cX10_car 76 = .ok (.getfield 254, 3) := by decide +kernel
theorem dX10_car_79 : decode cX10_car 79 = .ok (.ireturn, 1) := by decide +kernel
theorem dX10_gone_0 : decode cX10_gone 0 = .ok (.aload_n 0, 1) := by decide +kernel
theorem dX10_gone_1 : decode cX10_gone 1 = .ok (.getfield 254, 3) := by decide +kernel
theorem dX10_gone_4 : decode cX10_gone 4 = .ok (.ifCond .ne 6, 3) := by decide +kernel
theorem dX10_gone_7 : decode cX10_gone 7 = .ok (.bipush (-3), 2) := by decide +kernel
theorem dX10_gone_9 : decode cX10_gone 9 = .ok (.ireturn, 1) := by decide +kernel
theorem dX10_gone_10 : decode cX10_gone 10 = .ok (.aload_n 0, 1) := by decide +kernel
theorem dX10_gone_11 : decode cX10_gone 11 = .ok (.dup, 1) := by decide +kernel
theorem dX10_gone_12 : decode cX10_gone 12 = .ok (.getfield 254, 3) := by decide +kernel
theorem dX10_gone_15 : decode cX10_gone 15 = .ok (.iconst 1, 1) := by decide +kernel
theorem dX10_gone_16 : decode cX10_gone 16 = .ok (.isub, 1) := by decide +kernel
theorem dX10_gone_17 : decode cX10_gone 17 = .ok (.putfield 254, 3) := by decide +kernel
theorem dX10_gone_20 : decode cX10_gone 20 = .ok (.aload_n 0, 1) := by decide +kernel
theorem dX10_gone_21 : decode cX10_gone 21 = .ok (.getfield 254, 3) := by decide +kernel
theorem dX10_gone_24 : decode cX10_gone 24 = .ok (.ireturn, 1) := by decide +kernel
theorem dX10_late_0 : decode cX10_late 0 = .ok (.iconst 0, 1) := by decide +kernel
theorem dX10_late_1 : decode cX10_late 1 = .ok (.istore_n 1, 1) := by decide +kernel
theorem dX10_late_2 : decode cX10_late 2 = .ok (.iconst 0, 1) := by decide +kernel
theorem dX10_late_3 : decode cX10_late 3 = .ok (.istore_n 2, 1) := by decide +kernel
theorem dX10_late_4 : decode cX10_late 4 = .ok (.iconst 0, 1) := by decide +kernel
theorem dX10_late_5 : decode cX10_late 5 = .ok (.istore_n 3, 1) := by decide +kernel
theorem dX10_late_6 : decode cX10_late 6 = .ok (.iload_n 3, 1) := by decide +kernel
theorem dX10_late_7 : decode cX10_late 7 = .ok (.aload_n 0, 1) := by decide +kernel
theorem dX10_late_8 : decode cX10_late 8 = .ok (.getfield 254, 3) := by decide +kernel
theorem dX10_late_11 : decode cX10_late 11 = .ok (.if_icmp .ge 49, 3) := by decide +kernel
theorem dX10_late_14 : decode cX10_late 14 = .ok (.iload_n 1, 1) := by decide +kernel
theorem dX10_late_15 : decode cX10_late 15 = .ok (.aload_n 0, 1) := by decide +kernel
theorem dX10_late_16 : decode cX10_late 16 = .ok (.getfield 62, 3) := by decide +kernel
theorem dX10_late_19 : decode cX10_late 19 = .ok (.iconst 2, 1) := by decide +kernel
theorem dX10_late_20 : decode cX10_late 20 = .ok (.aload_n 0, 1) := by decide +kernel
theorem dX10_late_21 : decode cX10_late 21 = .ok (.getfield 65, 3) := by decide +kernel
theorem dX10_late_24 : decode cX10_late 24 = .ok (.iload_n 3, 1) := by decide +kernel
theorem dX10_late_25 : decode cX10_late 25 = .ok (.iaload, 1) := by decide +kernel
theorem dX10_late_26 : decode cX10_late 26 = .ok (.imul, 1) := by decide +kernel
theorem dX10_late_27 : decode cX10_late 27 = .ok (.iaload, 1) := by decide +kernel
theorem dX10_late_28 : decode cX10_late 28 = .ok (.iadd, 1) := by decide +kernel
theorem dX10_late_29 : decode cX10_late 29 = .ok (.istore_n 1, 1) := by decide +kernel
theorem dX10_late_30 : decode cX10_late 30 = .ok (.iload_n 2, 1) := by decide +kernel
theorem dX10_late_31 : decode cX10_late 31 = .ok (.iload_n 1, 1) := by decide +kernel
theorem dX10_late_32 : decode cX10_late 32 = .ok (.aload_n 0, 1) := by decide +kernel
theorem dX10_late_33 : decode cX10_late 33 = .ok (.getfield 62, 3) := by decide +kernel
theorem dX10_late_36 : decode cX10_late 36 = .ok (.iconst 2, 1) := by decide +kernel
theorem dX10_late_37 : decode cX10_late 37 = .ok (.aload_n 0, 1) := by decide +kernel
theorem dX10_late_38 : decode cX10_late 38 = .ok (.getfield 65, 3) := by decide +kernel
theorem dX10_late_41 : decode cX10_late 41 = .ok (.iload_n 3, 1) := by decide +kernel
theorem dX10_late_42 : decode cX10_late 42 = .ok (.iaload, 1) := by decide +kernel
theorem dX10_late_43 : decode cX10_late 43 = .ok (.imul, 1) := by decide +kernel
theorem dX10_late_44 : decode cX10_late 44 = .ok (.iconst 1, 1) := by decide +kernel
theorem dX10_late_45 : decode cX10_late 45 = .ok (.iadd, 1) := by decide +kernel
theorem dX10_late_46 : decode cX10_late 46 = .ok (.iaload, 1) := by decide +kernel
theorem dX10_late_47 : decode cX10_late 47 = .ok (.isub, 1) := by decide +kernel
theorem dX10_late_48 : decode cX10_late 48 = .ok (.iconst 0, 1) := by decide +kernel
theorem dX10_late_49 : decode cX10_late 49 = .ok (.invokestatic 225, 3) := by decide +kernel
theorem dX10_late_52 : decode cX10_late 52 = .ok (.iadd, 1) := by decide +kernel
theorem dX10_late_53 : decode cX10_late 53 = .ok (.istore_n 2, 1) := by decide +kernel
theorem dX10_late_54 : decode cX10_late 54 = .ok (.iinc 3 1, 3) := by decide +kernel
theorem dX10_late_57 : decode cX10_late 57 = .ok (.goto (-51), 3) := by decide +kernel
theorem dX10_late_60 : decode cX10_late 60 = .ok (.iload_n 2, 1) := by decide +kernel
theorem dX10_late_61 : decode cX10_late 61 = .ok (.ireturn, 1) := by decide +kernel
theorem dX10_lays_0 : decode cX10_lays 0 = .ok (.iload_n 1, 1) := by decide +kernel
theorem dX10_lays_1 : decode cX10_lays 1 = .ok (.istore_n 2, 1) := by decide +kernel
theorem dX10_lays_2 : decode cX10_lays 2 = .ok (.aload_n 0, 1) := by decide +kernel
theorem dX10_lays_3 : decode cX10_lays 3 = .ok (.getfield 254, 3) := by decide +kernel
theorem dX10_lays_6 : decode cX10_lays 6 = .ok (.iconst 1, 1) := by decide +kernel
theorem dX10_lays_7 : decode cX10_lays 7 = .ok (.isub, 1) := by decide +kernel
theorem dX10_lays_8 : decode cX10_lays 8 = .ok (.istore_n 3, 1) := by decide +kernel
theorem dX10_lays_9 : decode cX10_lays 9 = .ok (.iload_n 3, 1) := by decide +kernel
theorem dX10_lays_10 : decode cX10_lays 10 = .ok (.ifCond .lt 32, 3) := by decide +kernel
theorem dX10_lays_13 : decode cX10_lays 13 = .ok (.aload_n 0, 1) := by decide +kernel
theorem dX10_lays_14 : decode cX10_lays 14 = .ok (.getfield 65, 3) := by decide +kernel
theorem dX10_lays_17 : decode cX10_lays 17 = .ok (.iload_n 3, 1) := by decide +kernel
theorem dX10_lays_18 : decode cX10_lays 18 = .ok (.iload_n 2, 1) := by decide +kernel
theorem dX10_lays_19 : decode cX10_lays 19 = .ok (.aload_n 0, 1) := by decide +kernel
theorem dX10_lays_20 : decode cX10_lays 20 = .ok (.getfield 254, 3) := by decide +kernel
theorem dX10_lays_23 : decode cX10_lays 23 = .ok (.iload_n 3, 1) := by decide +kernel
theorem dX10_lays_24 : decode cX10_lays 24 = .ok (.isub, 1) := by decide +kernel
theorem dX10_lays_25 : decode cX10_lays 25 = .ok (.irem, 1) := by decide +kernel
theorem dX10_lays_26 : decode cX10_lays 26 = .ok (.iastore, 1) := by decide +kernel
theorem dX10_lays_27 : decode cX10_lays 27 = .ok (.iload_n 2, 1) := by decide +kernel
theorem dX10_lays_28 : decode cX10_lays 28 = .ok (.aload_n 0, 1) := by decide +kernel
theorem dX10_lays_29 : decode cX10_lays 29 = .ok (.getfield 254, 3) := by decide +kernel
theorem dX10_lays_32 : decode cX10_lays 32 = .ok (.iload_n 3, 1) := by decide +kernel
theorem dX10_lays_33 : decode cX10_lays 33 = .ok (.isub, 1) := by decide +kernel
theorem dX10_lays_34 : decode cX10_lays 34 = .ok (.idiv, 1) := by decide +kernel
theorem dX10_lays_35 : decode cX10_lays 35 = .ok (.istore_n 2, 1) := by decide +kernel
theorem dX10_lays_36 : decode cX10_lays 36 = .ok (.iinc 3 (-1), 3) := by decide +kernel
theorem dX10_lays_39 : decode cX10_lays 39 = .ok (.goto (-30), 3) := by decide +kernel
theorem dX10_lays_42 : decode cX10_lays 42 = .ok (.aload_n 0, 1) := by decide +kernel
theorem dX10_lays_43 : decode cX10_lays 43 = .ok (.getfield 254, 3) := by decide +kernel
theorem dX10_lays_46 : decode cX10_lays 46 = .ok (.iconst 1, 1) := by decide +kernel
theorem dX10_lays_47 : decode cX10_lays 47 = .ok (.isub, 1) := by decide +kernel
theorem dX10_lays_48 : decode cX10_lays 48 = .ok (.istore_n 3, 1) := by decide +kernel
theorem dX10_lays_49 : decode cX10_lays 49 = .ok (.iload_n 3, 1) := by decide +kernel
theorem dX10_lays_50 : decode cX10_lays 50 = .ok (.ifCond .lt 60, 3) := by decide +kernel
theorem dX10_lays_53 : decode cX10_lays 53 = .ok (.iload_n 3, 1) := by decide +kernel
theorem dX10_lays_54 : decode cX10_lays 54 = .ok (.iconst 1, 1) := by decide +kernel
theorem dX10_lays_55 : decode cX10_lays 55 = .ok (.iadd, 1) := by decide +kernel
theorem dX10_lays_56 : decode cX10_lays 56 = .ok (.istore 4, 2) := by decide +kernel
theorem dX10_lays_58 : decode cX10_lays 58 = .ok (.iload 4, 2) := by decide +kernel
theorem dX10_lays_60 : decode cX10_lays 60 = .ok (.aload_n 0, 1) := by decide +kernel
theorem dX10_lays_61 : decode cX10_lays 61 = .ok (.getfield 254, 3) := by decide +kernel
theorem dX10_lays_64 : decode cX10_lays 64 = .ok (.if_icmp .ge 40, 3) := by decide +kernel
theorem dX10_lays_67 : decode cX10_lays 67 = .ok (.aload_n 0, 1) := by decide +kernel
theorem dX10_lays_68 : decode cX10_lays 68 = .ok (.getfield 65, 3) := by decide +kernel
theorem dX10_lays_71 : decode cX10_lays 71 = .ok (.iload 4, 2) := by decide +kernel
theorem dX10_lays_73 : decode cX10_lays 73 = .ok (.dup2, 1) := by decide +kernel
theorem dX10_lays_74 : decode cX10_lays 74 = .ok (.iaload, 1) := by decide +kernel
theorem dX10_lays_75 : decode cX10_lays 75 = .ok (.aload_n 0, 1) := by decide +kernel
theorem dX10_lays_76 : decode cX10_lays 76 = .ok (.getfield 65, 3) := by decide +kernel
theorem dX10_lays_79 : decode cX10_lays 79 = .ok (.iload 4, 2) := by decide +kernel
theorem dX10_lays_81 : decode cX10_lays 81 = .ok (.iaload, 1) := by decide +kernel
theorem dX10_lays_82 : decode cX10_lays 82 = .ok (.aload_n 0, 1) := by decide +kernel
theorem dX10_lays_83 : decode cX10_lays 83 = .ok (.getfield 65, 3) := by decide +kernel
theorem dX10_lays_86 : decode cX10_lays 86 = .ok (.iload_n 3, 1) := by decide +kernel
theorem dX10_lays_87 : decode cX10_lays 87 = .ok (.iaload, 1) := by decide +kernel
theorem dX10_lays_88 : decode cX10_lays 88 = .ok (.if_icmp .lt 7, 3) := by decide +kernel
theorem dX10_lays_91 : decode cX10_lays 91 = .ok (.iconst 1, 1) := by decide +kernel
theorem dX10_lays_92 : decode cX10_lays 92 = .ok (.goto 4, 3) := by decide +kernel
theorem dX10_lays_95 : decode cX10_lays 95 = .ok (.iconst 0, 1) := by decide +kernel
theorem dX10_lays_96 : decode cX10_lays 96 = .ok (.iadd, 1) := by decide +kernel
theorem dX10_lays_97 : decode cX10_lays 97 = .ok (.iastore, 1) := by decide +kernel
theorem dX10_lays_98 : decode cX10_lays 98 = .ok (.iinc 4 1, 3) := by decide +kernel
theorem dX10_lays_101 : decode cX10_lays 101 = .ok (.goto (-43), 3) := by decide +kernel
theorem dX10_lays_104 : decode cX10_lays 104 = .ok (.iinc 3 (-1), 3) := by decide +kernel
theorem dX10_lays_107 : decode cX10_lays 107 = .ok (.goto (-58), 3) := by decide +kernel
theorem dX10_lays_110 : decode cX10_lays 110 = .ok (.return_, 1) := by decide +kernel
theorem dX10_findRow_0 : decode cX10_findRow 0 = .ok (.iconst 1, 1) := by decide +kernel
theorem dX10_findRow_1 : decode cX10_findRow 1 = .ok (.istore_n 1, 1) := by decide +kernel
theorem dX10_findRow_2 : decode cX10_findRow 2 = .ok (.iconst 2, 1) := by decide +kernel
theorem dX10_findRow_3 : decode cX10_findRow 3 = .ok (.istore_n 2, 1) := by decide +kernel
theorem dX10_findRow_4 : decode cX10_findRow 4 = .ok (.iload_n 2, 1) := by decide +kernel
theorem dX10_findRow_5 : decode cX10_findRow 5 = .ok (.aload_n 0, 1) := by decide +kernel
theorem dX10_findRow_6 : decode cX10_findRow 6 = .ok (.getfield 254, 3) := by decide +kernel
theorem dX10_findRow_9 : decode cX10_findRow 9 = .ok (.if_icmp .gt 13, 3) := by decide +kernel
theorem dX10_findRow_12 : decode cX10_findRow 12 = .ok (.iload_n 1, 1) := by decide +kernel
theorem dX10_findRow_13 : decode cX10_findRow 13 = .ok (.iload_n 2, 1) := by decide +kernel
theorem dX10_findRow_14 : decode cX10_findRow 14 = .ok (.imul, 1) := by decide +kernel
theorem dX10_findRow_15 : decode cX10_findRow 15 = .ok (.istore_n 1, 1) := by decide +kernel
theorem dX10_findRow_16 : decode cX10_findRow 16 = .ok (.iinc 2 1, 3) := by decide +kernel
theorem dX10_findRow_19 : decode cX10_findRow 19 = .ok (.goto (-15), 3) := by decide +kernel
theorem dX10_findRow_22 : decode cX10_findRow 22 = .ok (.iconst (-1), 1) := by decide +kernel
theorem dX10_findRow_23 : decode cX10_findRow 23 = .ok (.istore_n 2, 1) := by decide +kernel
theorem dX10_findRow_24 : decode cX10_findRow 24 = .ok (.iconst 0, 1) := by decide +kernel
theorem dX10_findRow_25 : decode cX10_findRow 25 = .ok (.istore_n 3, 1) := by decide +kernel
theorem dX10_findRow_26 : decode cX10_findRow 26 = .ok (.iload_n 3, 1) := by decide +kernel
theorem dX10_findRow_27 : decode cX10_findRow 27 = .ok (.iload_n 1, 1) := by decide +kernel
theorem dX10_findRow_28 : decode cX10_findRow 28 = .ok (.if_icmp .ge 66, 3) := by decide +kernel
theorem dX10_findRow_31 : decode cX10_findRow 31 = .ok (.aload_n 0, 1) := by decide +kernel
theorem dX10_findRow_32 : decode cX10_findRow 32 = .ok (.iload_n 3, 1) := by decide +kernel
theorem dX10_findRow_33 : decode cX10_findRow 33 = .ok (.invokevirtual 257, 3) := by decide +kernel
theorem dX10_findRow_36 : decode cX10_findRow 36 = .ok (.aload_n 0, 1) := by decide +kernel
theorem dX10_findRow_37 : decode cX10_findRow 37 = .ok (.invokevirtual 260, 3) := by decide +kernel
theorem dX10_findRow_40 : decode cX10_findRow 40 = .ok (.istore 4, 2) := by decide +kernel
theorem dX10_findRow_42 : decode cX10_findRow 42 = .ok (.iload_n 2, 1) := by decide +kernel
theorem dX10_findRow_43 : decode cX10_findRow 43 = .ok (.iconst (-1), 1) := by decide +kernel
theorem dX10_findRow_44 : decode cX10_findRow 44 = .ok (.if_icmp .eq 9, 3) := by decide +kernel
theorem dX10_findRow_47 : decode cX10_findRow 47 = .ok (.iload 4, 2) := by decide +kernel
theorem dX10_findRow_49 : decode cX10_findRow 49 = .ok (.iload_n 2, 1) := by decide +kernel
theorem dX10_findRow_50 : decode cX10_findRow 50 = .ok (.if_icmp .ge 38, 3) := by decide +kernel
theorem dX10_findRow_53 : decode cX10_findRow 53 = .ok (.iload 4, 2) := by decide +kernel
theorem dX10_findRow_55 : decode cX10_findRow 55 = .ok (.istore_n 2, 1) := by decide +kernel
theorem dX10_findRow_56 : decode cX10_findRow 56 = .ok (.iconst 0, 1) := by decide +kernel
theorem dX10_findRow_57 : decode cX10_findRow 57 = .ok (.istore 5, 2) := by decide +kernel
theorem dX10_findRow_59 : decode cX10_findRow 59 = .ok (.iload 5, 2) := by decide +kernel
theorem dX10_findRow_61 : decode cX10_findRow 61 = .ok (.aload_n 0, 1) := by decide +kernel
theorem dX10_findRow_62 : decode cX10_findRow 62 = .ok (.getfield 254, 3) := by decide +kernel
theorem dX10_findRow_65 : decode cX10_findRow 65 = .ok (.if_icmp .ge 23, 3) := by decide +kernel
theorem dX10_findRow_68 : decode cX10_findRow 68 = .ok (.aload_n 0, 1) := by decide +kernel
theorem dX10_findRow_69 : decode cX10_findRow 69 = .ok (.getfield 68, 3) := by decide +kernel
theorem dX10_findRow_72 : decode cX10_findRow 72 = .ok (.iload 5, 2) := by decide +kernel
theorem dX10_findRow_74 : decode cX10_findRow 74 = .ok (.aload_n 0, 1) := by decide +kernel
theorem dX10_findRow_75 : decode cX10_findRow 75 = .ok (.getfield 65, 3) := by decide +kernel
theorem dX10_findRow_78 : decode cX10_findRow 78 = .ok (.iload 5, 2) := by decide +kernel
theorem dX10_findRow_80 : decode cX10_findRow 80 = .ok (.iaload, 1) := by decide +kernel
theorem dX10_findRow_81 : decode cX10_findRow 81 = .ok (.iastore, 1) := by decide +kernel
theorem dX10_findRow_82 : decode cX10_findRow 82 = .ok (.iinc 5 1, 3) := by decide +kernel
theorem dX10_findRow_85 : decode cX10_findRow 85 = .ok (.goto (-26), 3) := by decide +kernel
theorem dX10_findRow_88 : decode cX10_findRow 88 = .ok (.iinc 3 1, 3) := by decide +kernel
theorem dX10_findRow_91 : decode cX10_findRow 91 = .ok (.goto (-65), 3) := by decide +kernel
theorem dX10_findRow_94 : decode cX10_findRow 94 = .ok (.iload_n 2, 1) := by decide +kernel
theorem dX10_findRow_95 : decode cX10_findRow 95 = .ok (.ireturn, 1) := by decide +kernel
theorem dX10_lentOf_0 : decode cX10_lentOf 0 = .ok (.aload_n 0, 1) := by decide +kernel
theorem dX10_lentOf_1 : decode cX10_lentOf 1 = .ok (.invokevirtual 263, 3) := by decide +kernel
theorem dX10_lentOf_4 : decode cX10_lentOf 4 = .ok (.istore_n 2, 1) := by decide +kernel
theorem dX10_lentOf_5 : decode cX10_lentOf 5 = .ok (.iload_n 1, 1) := by decide +kernel
theorem dX10_lentOf_6 : decode cX10_lentOf 6 = .ok (.iconst (-1), 1) := by decide +kernel
theorem dX10_lentOf_7 : decode cX10_lentOf 7 = .ok (.if_icmp .ne 7, 3) := by decide +kernel
theorem dX10_lentOf_10 : decode cX10_lentOf 10 = .ok (.iload_n 2, 1) := by decide +kernel
theorem dX10_lentOf_11 : decode cX10_lentOf 11 = .ok (.goto 21, 3) := by decide +kernel
theorem dX10_lentOf_14 : decode cX10_lentOf 14 = .ok (.iload_n 1, 1) := by decide +kernel
theorem dX10_lentOf_15 : decode cX10_lentOf 15 = .ok (.aload_n 0, 1) := by decide +kernel
theorem dX10_lentOf_16 : decode cX10_lentOf 16 = .ok (.getfield 254, 3) := by decide +kernel
theorem dX10_lentOf_19 : decode cX10_lentOf 19 = .ok (.if_icmp .ge 12, 3) := by decide +kernel
theorem dX10_lentOf_22 : decode cX10_lentOf 22 = .ok (.aload_n 0, 1) := by decide +kernel
theorem dX10_lentOf_23 : decode cX10_lentOf 23 = .ok (.getfield 68, 3) := by decide +kernel
theorem dX10_lentOf_26 : decode cX10_lentOf 26 = .ok (.iload_n 1, 1) := by decide +kernel
theorem dX10_lentOf_27 : decode cX10_lentOf 27 = .ok (.iaload, 1) := by decide +kernel
theorem dX10_lentOf_28 : decode cX10_lentOf 28 = .ok (.goto 4, 3) := by decide +kernel
theorem dX10_lentOf_31 : decode cX10_lentOf 31 = .ok (.iconst (-1), 1) := by decide +kernel
theorem dX10_lentOf_32 : decode cX10_lentOf 32 = .ok (.ireturn, 1) := by decide +kernel
theorem dX10_lent_0 : decode cX10_lent 0 = .ok (.iload_n 1, 1) := by decide +kernel
theorem dX10_lent_1 : decode cX10_lent 1 = .ok (.i2l, 1) := by decide +kernel
theorem dX10_lent_2 : decode cX10_lent 2 = .ok (.ldc2_w 202, 3) := by decide +kernel
theorem dX10_lent_5 : decode cX10_lent 5 = .ok (.ldc2_w 266, 3) := by decide +kernel
theorem dX10_lent_8 : decode cX10_lent 8 = .ok (.invokestatic 73, 3) := by decide +kernel
theorem dX10_lent_11 : decode cX10_lent 11 = .ok (.ifCond .eq 11, 3) := by decide +kernel
theorem dX10_lent_14 : decode cX10_lent 14 = .ok (.aload_n 0, 1) := by decide +kernel
theorem dX10_lent_15 : decode cX10_lent 15 = .ok (.iload_n 1, 1) := by decide +kernel
theorem dX10_lent_16 : decode cX10_lent 16 = .ok (.invokevirtual 268, 3) := by decide +kernel
theorem dX10_lent_19 : decode cX10_lent 19 = .ok (.goto 5, 3) := by decide +kernel
theorem dX10_lent_22 : decode cX10_lent 22 = .ok (.bipush (-2), 2) := by decide +kernel
theorem dX10_lent_24 : decode cX10_lent 24 = .ok (.ireturn, 1) := by decide +kernel
theorem dX10_facedNow_0 : decode cX10_facedNow 0 = .ok (.iconst 0, 1) := by decide +kernel
theorem dX10_facedNow_1 : decode cX10_facedNow 1 = .ok (.istore_n 1, 1) := by decide +kernel
theorem dX10_facedNow_2 : decode cX10_facedNow 2 = .ok (.iconst 0, 1) := by decide +kernel
theorem dX10_facedNow_3 : decode cX10_facedNow 3 = .ok (.istore_n 2, 1) := by decide +kernel
theorem dX10_facedNow_4 : decode cX10_facedNow 4 = .ok (.iconst 0, 1) := by decide +kernel
theorem dX10_facedNow_5 : decode cX10_facedNow 5 = .ok (.istore_n 3, 1) := by decide +kernel
theorem dX10_facedNow_6 : decode cX10_facedNow 6 = .ok (.iload_n 3, 1) := by decide +kernel
theorem dX10_facedNow_7 : decode cX10_facedNow 7 = .ok (.aload_n 0, 1) := by decide +kernel
theorem dX10_facedNow_8 : decode cX10_facedNow 8 = .ok (.getfield 113, 3) := by decide +kernel
theorem dX10_facedNow_11 : decode cX10_facedNow 11 = .ok (.if_icmp .ge 86, 3) := by decide +kernel
theorem dX10_facedNow_14 : decode cX10_facedNow 14 = .ok (.iconst 1, 1) := by decide +kernel
theorem dX10_facedNow_15 : decode cX10_facedNow 15 = .ok (.istore 4, 2) := by decide +kernel
theorem dX10_facedNow_17 : decode cX10_facedNow 17 = .ok (.iload 4, 2) := by decide +kernel
theorem dX10_facedNow_19 : decode cX10_facedNow 19 = .ok (.aload_n 0, 1) := by decide +kernel
theorem dX10_facedNow_20 : decode cX10_facedNow 20 = .ok (.getfield 110, 3) := by decide +kernel
theorem dX10_facedNow_23 : decode cX10_facedNow 23 = .ok (.if_icmp .ge 68, 3) := by decide +kernel
theorem dX10_facedNow_26 : decode cX10_facedNow 26 = .ok (.aload_n 0, 1) := by decide +kernel
theorem dX10_facedNow_27 : decode cX10_facedNow 27 = .ok (.getfield 32, 3) := by decide +kernel
theorem dX10_facedNow_30 : decode cX10_facedNow 30 = .ok (.bipush 8, 2) := by decide +kernel
theorem dX10_facedNow_32 : decode cX10_facedNow 32 = .ok (.iload_n 3, 1) := by decide +kernel
theorem dX10_facedNow_33 : decode cX10_facedNow 33 = .ok (.imul, 1) := by decide +kernel
theorem dX10_facedNow_34 : decode cX10_facedNow 34 = .ok (.iload 4, 2) := by decide +kernel
theorem dX10_facedNow_36 : decode cX10_facedNow 36 = .ok (.iadd, 1) := by decide +kernel
theorem dX10_facedNow_37 : decode cX10_facedNow 37 = .ok (.iaload, 1) := by decide +kernel
theorem dX10_facedNow_38 : decode cX10_facedNow 38 = .ok (.aload_n 0, 1) := by decide +kernel
theorem dX10_facedNow_39 : decode cX10_facedNow 39 = .ok (.getfield 32, 3) := by decide +kernel
theorem dX10_facedNow_42 : decode cX10_facedNow 42 = .ok (.bipush 8, 2) := by decide +kernel
theorem dX10_facedNow_44 : decode cX10_facedNow 44 = .ok (.iload_n 3, 1) := by decide +kernel
theorem dX10_facedNow_45 : decode cX10_facedNow 45 = .ok (.imul, 1) := by decide +kernel
theorem dX10_facedNow_46 : decode cX10_facedNow 46 = .ok (.iload 4, 2) := by decide +kernel
theorem dX10_facedNow_48 : decode cX10_facedNow 48 = .ok (.iadd, 1) := by decide +kernel
theorem dX10_facedNow_49 : decode cX10_facedNow 49 = .ok (.iconst 1, 1) := by decide +kernel
theorem dX10_facedNow_50 : decode cX10_facedNow 50 = .ok (.isub, 1) := by decide +kernel
theorem dX10_facedNow_51 : decode cX10_facedNow 51 = .ok (.iaload, 1) := by decide +kernel
theorem dX10_facedNow_52 : decode cX10_facedNow 52 = .ok (.isub, 1) := by decide +kernel
theorem dX10_facedNow_53 : decode cX10_facedNow 53 = .ok (.istore 5, 2) := by decide +kernel
theorem dX10_facedNow_55 : decode cX10_facedNow 55 = .ok (.iload_n 1, 1) := by decide +kernel
theorem dX10_facedNow_56 : decode cX10_facedNow 56 = .ok (.ifCond .ne 8, 3) := by decide +kernel
theorem dX10_facedNow_59 : decode cX10_facedNow 59 = .ok (.iload 5, 2) := by decide +kernel
theorem dX10_facedNow_61 : decode cX10_facedNow 61 = .ok (.ifCond .le 7, 3) := by decide +kernel
theorem dX10_facedNow_64 : decode cX10_facedNow 64 = .ok (.iconst 1, 1) := by decide +kernel
theorem dX10_facedNow_65 : decode cX10_facedNow 65 = .ok (.goto 4, 3) := by decide +kernel
theorem dX10_facedNow_68 : decode cX10_facedNow 68 = .ok (.iconst 0, 1) := by decide +kernel
theorem dX10_facedNow_69 : decode cX10_facedNow 69 = .ok (.istore_n 1, 1) := by decide +kernel
theorem dX10_facedNow_70 : decode cX10_facedNow 70 = .ok (.iload_n 2, 1) := by decide +kernel
theorem dX10_facedNow_71 : decode cX10_facedNow 71 = .ok (.ifCond .ne 8, 3) := by decide +kernel
theorem dX10_facedNow_74 : decode cX10_facedNow 74 = .ok (.iload 5, 2) := by decide +kernel
theorem dX10_facedNow_76 : decode cX10_facedNow 76 = .ok (.ifCond .ge 7, 3) := by decide +kernel
theorem dX10_facedNow_79 : decode cX10_facedNow 79 = .ok (.iconst 1, 1) := by decide +kernel
theorem dX10_facedNow_80 : decode cX10_facedNow 80 = .ok (.goto 4, 3) := by decide +kernel
theorem dX10_facedNow_83 : decode cX10_facedNow 83 = .ok (.iconst 0, 1) := by decide +kernel
theorem dX10_facedNow_84 : decode cX10_facedNow 84 = .ok (.istore_n 2, 1) := by decide +kernel
theorem dX10_facedNow_85 : decode cX10_facedNow 85 = .ok (.iinc 4 1, 3) := by decide +kernel
theorem dX10_facedNow_88 : decode cX10_facedNow 88 = .ok (.goto (-71), 3) := by decide +kernel
theorem dX10_facedNow_91 : decode cX10_facedNow 91 = .ok (.iinc 3 1, 3) := by decide +kernel
theorem dX10_facedNow_94 : decode cX10_facedNow 94 = .ok (.goto (-88), 3) := by decide +kernel
theorem dX10_facedNow_97 : decode cX10_facedNow 97 = .ok (.iload_n 1, 1) := by decide +kernel
theorem dX10_facedNow_98 : decode cX10_facedNow 98 = .ok (.iload_n 2, 1) := by decide +kernel
theorem dX10_facedNow_99 : decode cX10_facedNow 99 = .ok (.if_icmp .ne 7, 3) := by decide +kernel
theorem dX10_facedNow_102 : decode cX10_facedNow 102 = .ok (.iconst (-1), 1) := by decide +kernel
theorem dX10_facedNow_103 : decode cX10_facedNow 103 = .ok (.goto 12, 3) := by decide +kernel
theorem dX10_facedNow_106 : decode cX10_facedNow 106 = .ok (.iload_n 1, 1) := by decide +kernel
theorem dX10_facedNow_107 : decode cX10_facedNow 107 = .ok (.ifCond .eq 7, 3) := by decide +kernel
theorem dX10_facedNow_110 : decode cX10_facedNow 110 = .ok (.iconst 0, 1) := by decide +kernel
theorem dX10_facedNow_111 : decode cX10_facedNow 111 = .ok (.goto 4, 3) := by decide +kernel
theorem dX10_facedNow_114 : decode cX10_facedNow 114 = .ok (.iconst 1, 1) := by decide +kernel
theorem dX10_facedNow_115 : decode cX10_facedNow 115 = .ok (.ireturn, 1) := by decide +kernel
theorem dX10_faced_0 : decode cX10_faced 0 = .ok (.aload_n 0, 1) := by decide +kernel
theorem dX10_faced_1 : decode cX10_faced 1 = .ok (.invokevirtual 134, 3) := by decide +kernel
theorem dX10_faced_4 : decode cX10_faced 4 = .ok (.pop, 1) := by decide +kernel
theorem dX10_faced_5 : decode cX10_faced 5 = .ok (.aload_n 0, 1) := by decide +kernel
theorem dX10_faced_6 : decode cX10_faced 6 = .ok (.invokevirtual 271, 3) := by decide +kernel
theorem dX10_faced_9 : decode cX10_faced 9 = .ok (.ireturn, 1) := by decide +kernel
theorem dX10_bendOf_0 : decode cX10_bendOf 0 = .ok (.iload_n 2, 1) := by decide +kernel
theorem dX10_bendOf_1 : decode cX10_bendOf 1 = .ok (.iload_n 3, 1) := by decide +kernel
theorem dX10_bendOf_2 : decode cX10_bendOf 2 = .ok (.aload_n 0, 1) := by decide +kernel
theorem dX10_bendOf_3 : decode cX10_bendOf 3 = .ok (.iload_n 1, 1) := by decide +kernel
theorem dX10_bendOf_4 : decode cX10_bendOf 4 = .ok (.invokevirtual 177, 3) := by decide +kernel
theorem dX10_bendOf_7 : decode cX10_bendOf 7 = .ok (.imul, 1) := by decide +kernel
theorem dX10_bendOf_8 : decode cX10_bendOf 8 = .ok (.if_icmp .ge 7, 3) := by decide +kernel
theorem dX10_bendOf_11 : decode cX10_bendOf 11 = .ok (.iconst 1, 1) := by decide +kernel
theorem dX10_bendOf_12 : decode cX10_bendOf 12 = .ok (.goto 4, 3) := by decide +kernel
theorem dX10_bendOf_15 : decode cX10_bendOf 15 = .ok (.iconst 0, 1) := by decide +kernel
theorem dX10_bendOf_16 : decode cX10_bendOf 16 = .ok (.ireturn, 1) := by decide +kernel
theorem dX10_bend_0 : decode cX10_bend 0 = .ok (.aload_n 0, 1) := by decide +kernel
theorem dX10_bend_1 : decode cX10_bend 1 = .ok (.invokevirtual 174, 3) := by decide +kernel
theorem dX10_bend_4 : decode cX10_bend 4 = .ok (.iload_n 1, 1) := by decide +kernel
theorem dX10_bend_5 : decode cX10_bend 5 = .ok (.i2l, 1) := by decide +kernel
theorem dX10_bend_6 : decode cX10_bend 6 = .ok (.lconst 0, 1) := by decide +kernel
theorem dX10_bend_7 : decode cX10_bend 7 = .ok (.aload_n 0, 1) := by decide +kernel
theorem dX10_bend_8 : decode cX10_bend 8 = .ok (.getfield 128, 3) := by decide +kernel
theorem dX10_bend_11 : decode cX10_bend 11 = .ok (.iconst 1, 1) := by decide +kernel
theorem dX10_bend_12 : decode cX10_bend 12 = .ok (.isub, 1) := by decide +kernel
theorem dX10_bend_13 : decode cX10_bend 13 = .ok (.i2l, 1) := by decide +kernel
theorem dX10_bend_14 : decode cX10_bend 14 = .ok (.invokestatic 73, 3) := by decide +kernel
theorem dX10_bend_17 : decode cX10_bend 17 = .ok (.ifCond .eq 37, 3) := by decide +kernel
theorem dX10_bend_20 : decode cX10_bend 20 = .ok (.iload_n 2, 1) := by decide +kernel
theorem dX10_bend_21 : decode cX10_bend 21 = .ok (.i2l, 1) := by decide +kernel
theorem dX10_bend_22 : decode cX10_bend 22 = .ok (.lconst 0, 1) := by decide +kernel
theorem dX10_bend_23 : decode cX10_bend 23 = .ok (.ldc2_w 274, 3) := by decide +kernel
theorem dX10_bend_26 : decode cX10_bend 26 = .ok (.invokestatic 73, 3) := by decide +kernel
theorem dX10_bend_29 : decode cX10_bend 29 = .ok (.ifCond .eq 25, 3) := by decide +kernel
theorem dX10_bend_32 : decode cX10_bend 32 = .ok (.iload_n 3, 1) := by decide +kernel
theorem dX10_bend_33 : decode cX10_bend 33 = .ok (.i2l, 1) := by decide +kernel
theorem dX10_bend_34 : decode cX10_bend 34 = .ok (.lconst 0, 1) := by decide +kernel
theorem dX10_bend_35 : decode cX10_bend 35 = .ok (.ldc2_w 148, 3) := by decide +kernel
theorem dX10_bend_38 : decode cX10_bend 38 = .ok (.invokestatic 73, 3) := by decide +kernel
theorem dX10_bend_41 : decode cX10_bend 41 = .ok (.ifCond .eq 13, 3) := by decide +kernel
theorem dX10_bend_44 : decode cX10_bend 44 = .ok (.aload_n 0, 1) := by decide +kernel
theorem dX10_bend_45 : decode cX10_bend 45 = .ok (.iload_n 1, 1) := by decide +kernel
theorem dX10_bend_46 : decode cX10_bend 46 = .ok (.iload_n 2, 1) := by decide +kernel
theorem dX10_bend_47 : decode cX10_bend 47 = .ok (.iload_n 3, 1) := by decide +kernel
theorem dX10_bend_48 : decode cX10_bend 48 = .ok (.invokevirtual 276, 3) := by decide +kernel
theorem dX10_bend_51 : decode cX10_bend 51 = .ok (.goto 5, 3) := by decide +kernel
theorem dX10_bend_54 : decode cX10_bend 54 = .ok (.bipush (-2), 2) := by decide +kernel
theorem dX10_bend_56 : decode cX10_bend 56 = .ok (.ireturn, 1) := by decide +kernel
theorem dX10_write_0 : decode cX10_write 0 = .ok (.iload_n 1, 1) := by decide +kernel
theorem dX10_write_1 : decode cX10_write 1 = .ok (.invokestatic 143, 3) := by decide +kernel
theorem dX10_write_4 : decode cX10_write 4 = .ok (.ifCond .eq 10, 3) := by decide +kernel
theorem dX10_write_7 : decode cX10_write 7 = .ok (.iload_n 2, 1) := by decide +kernel
theorem dX10_write_8 : decode cX10_write 8 = .ok (.invokestatic 83, 3) := by decide +kernel
theorem dX10_write_11 : decode cX10_write 11 = .ok (.ifCond .ne 6, 3) := by decide +kernel
theorem dX10_write_14 : decode cX10_write 14 = .ok (.bipush (-2), 2) := by decide +kernel
theorem dX10_write_16 : decode cX10_write 16 = .ok (.ireturn, 1) := by decide +kernel
theorem dX10_write_17 : decode cX10_write 17 = .ok (.aload_n 0, 1) := by decide +kernel
theorem dX10_write_18 : decode cX10_write 18 = .ok (.getfield 7, 3) := by decide +kernel
theorem dX10_write_21 : decode cX10_write 21 = .ok (.iload_n 2, 1) := by decide +kernel
theorem dX10_write_22 : decode cX10_write 22 = .ok (.iaload, 1) := by decide +kernel
theorem dX10_write_23 : decode cX10_write 23 = .ok (.ifCond .ge 9, 3) := by decide +kernel
theorem dX10_write_26 : decode cX10_write 26 = .ok (.aload_n 0, 1) := by decide +kernel
theorem dX10_write_27 : decode cX10_write 27 = .ok (.iconst 1, 1) := by decide +kernel
theorem dX10_write_28 : decode cX10_write 28 = .ok (.invokevirtual 89, 3) := by decide +kernel
theorem dX10_write_31 : decode cX10_write 31 = .ok (.ireturn, 1) := by decide +kernel
theorem dX10_write_32 : decode cX10_write 32 = .ok (.aload_n 0, 1) := by decide +kernel
theorem dX10_write_33 : decode cX10_write 33 = .ok (.invokevirtual 174, 3) := by decide +kernel
theorem dX10_write_36 : decode cX10_write 36 = .ok (.aload_n 0, 1) := by decide +kernel
theorem dX10_write_37 : decode cX10_write 37 = .ok (.iload_n 1, 1) := by decide +kernel
theorem dX10_write_38 : decode cX10_write 38 = .ok (.invokevirtual 199, 3) := by decide +kernel
theorem dX10_write_41 : decode cX10_write 41 = .ok (.istore_n 3, 1) := by decide +kernel
theorem dX10_write_42 : decode cX10_write 42 = .ok (.aload_n 0, 1) := by decide +kernel
theorem dX10_write_43 : decode cX10_write 43 = .ok (.getfield 13, 3) := by decide +kernel
theorem dX10_write_46 : decode cX10_write 46 = .ok (.iload_n 2, 1) := by decide +kernel
theorem dX10_write_47 : decode cX10_write 47 = .ok (.iaload, 1) := by decide +kernel
theorem dX10_write_48 : decode cX10_write 48 = .ok (.iload_n 3, 1) := by decide +kernel
theorem dX10_write_49 : decode cX10_write 49 = .ok (.invokestatic 207, 3) := by decide +kernel
theorem dX10_write_52 : decode cX10_write 52 = .ok (.istore 4, 2) := by decide +kernel
theorem dX10_write_54 : decode cX10_write 54 = .ok (.iconst 0, 1) := by decide +kernel
theorem dX10_write_55 : decode cX10_write 55 = .ok (.istore 5, 2) := by decide +kernel
theorem dX10_write_57 : decode cX10_write 57 = .ok (.iload 5, 2) := by decide +kernel
theorem dX10_write_59 : decode cX10_write 59 = .ok (.iload 4, 2) := by decide +kernel
theorem dX10_write_61 : decode cX10_write 61 = .ok (.if_icmp .ge 37, 3) := by decide +kernel
theorem dX10_write_64 : decode cX10_write 64 = .ok (.aload_n 0, 1) := by decide +kernel
theorem dX10_write_65 : decode cX10_write 65 = .ok (.getfield 16, 3) := by decide +kernel
theorem dX10_write_68 : decode cX10_write 68 = .ok (.bipush 60, 2) := by decide +kernel
theorem dX10_write_70 : decode cX10_write 70 = .ok (.iload_n 2, 1) := by decide +kernel
theorem dX10_write_71 : decode cX10_write 71 = .ok (.imul, 1) := by decide +kernel
theorem dX10_write_72 : decode cX10_write 72 = .ok (.iload 5, 2) := by decide +kernel
theorem dX10_write_74 : decode cX10_write 74 = .ok (.iadd, 1) := by decide +kernel
theorem dX10_write_75 : decode cX10_write 75 = .ok (.aload_n 0, 1) := by decide +kernel
theorem dX10_write_76 : decode cX10_write 76 = .ok (.getfield 7, 3) := by decide +kernel
theorem dX10_write_79 : decode cX10_write 79 = .ok (.iload_n 2, 1) := by decide +kernel
theorem dX10_write_80 : decode cX10_write 80 = .ok (.iaload, 1) := by decide +kernel
theorem dX10_write_81 : decode cX10_write 81 = .ok (.aload_n 0, 1) := by decide +kernel
theorem dX10_write_82 : decode cX10_write 82 = .ok (.getfield 56, 3) := by decide +kernel
theorem dX10_write_85 : decode cX10_write 85 = .ok (.iload 5, 2) := by decide +kernel
theorem dX10_write_87 : decode cX10_write 87 = .ok (.iaload, 1) := by decide +kernel
theorem dX10_write_88 : decode cX10_write 88 = .ok (.invokestatic 97, 3) := by decide +kernel
theorem dX10_write_91 : decode cX10_write 91 = .ok (.iastore, 1) := by decide +kernel
theorem dX10_write_92 : decode cX10_write 92 = .ok (.iinc 5 1, 3) := by decide +kernel
theorem dX10_write_95 : decode cX10_write 95 = .ok (.goto (-38), 3) := by decide +kernel
theorem dX10_write_98 : decode cX10_write 98 = .ok (.iload 4, 2) := by decide +kernel
theorem dX10_write_100 : decode cX10_write 100 = .ok (.ireturn, 1) := by decide +kernel
theorem dX10_count_0 : decode cX10_count 0 = .ok (.iconst 0, 1) := by decide +kernel
theorem dX10_count_1 : decode cX10_count 1 = .ok (.istore_n 2, 1) := by decide +kernel
theorem dX10_count_2 : decode cX10_count 2 = .ok (.aload_n 0, 1) := by decide +kernel
theorem dX10_count_3 : decode cX10_count 3 = .ok (.invokevirtual 174, 3) := by decide +kernel
theorem dX10_count_6 : decode cX10_count 6 = .ok (.iload_n 1, 1) := by decide +kernel
theorem dX10_count_7 : decode cX10_count 7 = .ok (.tableswitch 113 0 8 #[49, 54, 59, 59, 68, 73, 78, 103, 108], 49) := by decide +kernel
theorem dX10_count_56 : decode cX10_count 56 = .ok (.aload_n 0, 1) := by decide +kernel
theorem dX10_count_57 : decode cX10_count 57 = .ok (.getfield 107, 3) := by decide +kernel
theorem dX10_count_60 : decode cX10_count 60 = .ok (.ireturn, 1) := by decide +kernel
theorem dX10_count_61 : decode cX10_count 61 = .ok (.aload_n 0, 1) := by decide +kernel
theorem dX10_count_62 : decode cX10_count 62 = .ok (.getfield 128, 3) := by decide +kernel
theorem dX10_count_65 : decode cX10_count 65 = .ok (.ireturn, 1) := by decide +kernel
theorem dX10_count_66 : decode cX10_count 66 = .ok (.aload_n 0, 1) := by decide +kernel
theorem dX10_count_67 : decode cX10_count 67 = .ok (.getfield 25, 3) := by decide +kernel
theorem dX10_count_70 : decode cX10_count 70 = .ok (.iload_n 1, 1) := by decide +kernel
theorem dX10_count_71 : decode cX10_count 71 = .ok (.iconst 2, 1) := by decide +kernel
theorem dX10_count_72 : decode cX10_count 72 = .ok (.isub, 1) := by decide +kernel
theorem dX10_count_73 : decode cX10_count 73 = .ok (.iaload, 1) := by decide +kernel
theorem dX10_count_74 : decode cX10_count 74 = .ok (.ireturn, 1) := by decide +kernel
theorem dX10_count_75 : decode cX10_count 75 = .ok (.aload_n 0, 1) := by decide +kernel
theorem dX10_count_76 : decode cX10_count 76 = .ok (.getfield 158, 3) := by decide +kernel
theorem dX10_count_79 : decode cX10_count 79 = .ok (.ireturn, 1) := by decide +kernel
theorem dX10_count_80 : decode cX10_count 80 = .ok (.aload_n 0, 1) := by decide +kernel
theorem dX10_count_81 : decode cX10_count 81 = .ok (.getfield 164, 3) := by decide +kernel
theorem dX10_count_84 : decode cX10_count 84 = .ok (.ireturn, 1) := by decide +kernel
theorem dX10_count_85 : decode cX10_count 85 = .ok (.iconst 0, 1) := by decide +kernel
theorem dX10_count_86 : decode cX10_count 86 = .ok (.istore_n 3, 1) := by decide +kernel
theorem dX10_count_87 : decode cX10_count 87 = .ok (.iload_n 3, 1) := by decide +kernel
theorem dX10_count_88 : decode cX10_count 88 = .ok (.bipush 32, 2) := by decide +kernel
theorem dX10_count_90 : decode cX10_count 90 = .ok (.if_icmp .ge 18, 3) := by decide +kernel
theorem dX10_count_93 : decode cX10_count 93 = .ok (.iload_n 2, 1) := by decide +kernel
theorem dX10_count_94 : decode cX10_count 94 = .ok (.aload_n 0, 1) := by decide +kernel
theorem dX10_count_95 : decode cX10_count 95 = .ok (.getfield 32, 3) := by decide +kernel
theorem dX10_count_98 : decode cX10_count 98 = .ok (.iload_n 3, 1) := by decide +kernel
theorem dX10_count_99 : decode cX10_count 99 = .ok (.iaload, 1) := by decide +kernel
theorem dX10_count_100 : decode cX10_count 100 = .ok (.iadd, 1) := by decide +kernel
theorem dX10_count_101 : decode cX10_count 101 = .ok (.istore_n 2, 1) := by decide +kernel
theorem dX10_count_102 : decode cX10_count 102 = .ok (.iinc 3 1, 3) := by decide +kernel
theorem dX10_count_105 : decode cX10_count 105 = .ok (.goto (-18), 3) := by decide +kernel
theorem dX10_count_108 : decode cX10_count 108 = .ok (.iload_n 2, 1) := by decide +kernel
theorem dX10_count_109 : decode cX10_count 109 = .ok (.ireturn, 1) := by decide +kernel
theorem dX10_count_110 : decode cX10_count 110 = .ok (.aload_n 0, 1) := by decide +kernel
theorem dX10_count_111 : decode cX10_count 111 = .ok (.getfield 254, 3) := by decide +kernel
theorem dX10_count_114 : decode cX10_count 114 = .ok (.ireturn, 1) := by decide +kernel
theorem dX10_count_115 : decode cX10_count 115 = .ok (.aload_n 0, 1) := by decide +kernel
theorem dX10_count_116 : decode cX10_count 116 = .ok (.getfield 77, 3) := by decide +kernel
theorem dX10_count_119 : decode cX10_count 119 = .ok (.ireturn, 1) := by decide +kernel
theorem dX10_count_120 : decode cX10_count 120 = .ok (.bipush (-2), 2) := by decide +kernel
theorem dX10_count_122 : decode cX10_count 122 = .ok (.ireturn, 1) := by decide +kernel
theorem dX10_digest_0 : decode cX10_digest 0 = .ok (.ldc2_w 279, 3) := by decide +kernel
theorem dX10_digest_3 : decode cX10_digest 3 = .ok (.lstore_n 1, 1) := by decide +kernel
theorem dX10_digest_4 : decode cX10_digest 4 = .ok (.iconst 0, 1) := by decide +kernel
theorem dX10_digest_5 : decode cX10_digest 5 = .ok (.istore_n 3, 1) := by decide +kernel
theorem dX10_digest_6 : decode cX10_digest 6 = .ok (.iload_n 3, 1) := by decide +kernel
theorem dX10_digest_7 : decode cX10_digest 7 = .ok (.bipush 8, 2) := by decide +kernel
theorem dX10_digest_9 : decode cX10_digest 9 = .ok (.if_icmp .ge 22, 3) := by decide +kernel
theorem dX10_digest_12 : decode cX10_digest 12 = .ok (.ldc2_w 141, 3) := by decide +kernel
theorem dX10_digest_15 : decode cX10_digest 15 = .ok (.lload_n 1, 1) := by decide +kernel
theorem dX10_digest_16 : decode cX10_digest 16 = .ok (.lmul, 1) := by decide +kernel
theorem dX10_digest_17 : decode cX10_digest 17 = .ok (.aload_n 0, 1) := by decide +kernel
theorem dX10_digest_18 : decode cX10_digest 18 = .ok (.iload_n 3, 1) := by decide +kernel
theorem dX10_digest_19 : decode cX10_digest 19 = .ok (.invokevirtual 281, 3) := by decide +kernel
theorem dX10_digest_22 : decode cX10_digest 22 = .ok (.i2l, 1) := by decide +kernel
theorem dX10_digest_23 : decode cX10_digest 23 = .ok (.ladd, 1) := by decide +kernel
theorem dX10_digest_24 : decode cX10_digest 24 = .ok (.lstore_n 1, 1) := by decide +kernel
theorem dX10_digest_25 : decode cX10_digest 25 = .ok (.iinc 3 1, 3) := by decide +kernel
theorem dX10_digest_28 : decode cX10_digest 28 = .ok (.goto (-22), 3) := by decide +kernel
theorem dX10_digest_31 : decode cX10_digest 31 = .ok (.ldc2_w 141, 3) := by decide +kernel
theorem dX10_digest_34 : decode cX10_digest 34 = .ok (.lload_n 1, 1) := by decide +kernel
theorem dX10_digest_35 : decode cX10_digest 35 = .ok (.lmul, 1) := by decide +kernel
theorem dX10_digest_36 : decode cX10_digest 36 = .ok (.aload_n 0, 1) := by decide +kernel
theorem dX10_digest_37 : decode cX10_digest 37 = .ok (.invokevirtual 134, 3) := by decide +kernel
theorem dX10_digest_40 : decode cX10_digest 40 = .ok (.i2l, 1) := by decide +kernel
theorem dX10_digest_41 : decode cX10_digest 41 = .ok (.ladd, 1) := by decide +kernel
theorem dX10_digest_42 : decode cX10_digest 42 = .ok (.lstore_n 1, 1) := by decide +kernel
theorem dX10_digest_43 : decode cX10_digest 43 = .ok (.ldc2_w 141, 3) := by decide +kernel
theorem dX10_digest_46 : decode cX10_digest 46 = .ok (.lload_n 1, 1) := by decide +kernel
theorem dX10_digest_47 : decode cX10_digest 47 = .ok (.lmul, 1) := by decide +kernel
theorem dX10_digest_48 : decode cX10_digest 48 = .ok (.aload_n 0, 1) := by decide +kernel
theorem dX10_digest_49 : decode cX10_digest 49 = .ok (.invokevirtual 138, 3) := by decide +kernel
theorem dX10_digest_52 : decode cX10_digest 52 = .ok (.i2l, 1) := by decide +kernel
theorem dX10_digest_53 : decode cX10_digest 53 = .ok (.ladd, 1) := by decide +kernel
theorem dX10_digest_54 : decode cX10_digest 54 = .ok (.lstore_n 1, 1) := by decide +kernel
theorem dX10_digest_55 : decode cX10_digest 55 = .ok (.ldc2_w 141, 3) := by decide +kernel
theorem dX10_digest_58 : decode cX10_digest 58 = .ok (.lload_n 1, 1) := by decide +kernel
theorem dX10_digest_59 : decode cX10_digest 59 = .ok (.lmul, 1) := by decide +kernel
theorem dX10_digest_60 : decode cX10_digest 60 = .ok (.aload_n 0, 1) := by decide +kernel
theorem dX10_digest_61 : decode cX10_digest 61 = .ok (.invokevirtual 284, 3) := by decide +kernel
theorem dX10_digest_64 : decode cX10_digest 64 = .ok (.i2l, 1) := by decide +kernel
theorem dX10_digest_65 : decode cX10_digest 65 = .ok (.ladd, 1) := by decide +kernel
theorem dX10_digest_66 : decode cX10_digest 66 = .ok (.lstore_n 1, 1) := by decide +kernel
theorem dX10_digest_67 : decode cX10_digest 67 = .ok (.iconst 0, 1) := by decide +kernel
theorem dX10_digest_68 : decode cX10_digest 68 = .ok (.istore_n 3, 1) := by decide +kernel
theorem dX10_digest_69 : decode cX10_digest 69 = .ok (.iload_n 3, 1) := by decide +kernel
theorem dX10_digest_70 : decode cX10_digest 70 = .ok (.iconst 3, 1) := by decide +kernel
theorem dX10_digest_71 : decode cX10_digest 71 = .ok (.if_icmp .ge 26, 3) := by decide +kernel
theorem dX10_digest_74 : decode cX10_digest 74 = .ok (.ldc2_w 141, 3) := by decide +kernel
theorem dX10_digest_77 : decode cX10_digest 77 = .ok (.lload_n 1, 1) := by decide +kernel
theorem dX10_digest_78 : decode cX10_digest 78 = .ok (.lmul, 1) := by decide +kernel
theorem dX10_digest_79 : decode cX10_digest 79 = .ok (.aload_n 0, 1) := by decide +kernel
theorem dX10_digest_80 : decode cX10_digest 80 = .ok (.aload_n 0, 1) := by decide +kernel
theorem dX10_digest_81 : decode cX10_digest 81 = .ok (.getfield 158, 3) := by decide +kernel
theorem dX10_digest_84 : decode cX10_digest 84 = .ok (.iload_n 3, 1) := by decide +kernel
theorem dX10_digest_85 : decode cX10_digest 85 = .ok (.invokevirtual 186, 3) := by decide +kernel
theorem dX10_digest_88 : decode cX10_digest 88 = .ok (.i2l, 1) := by decide +kernel
theorem dX10_digest_89 : decode cX10_digest 89 = .ok (.ladd, 1) := by decide +kernel
theorem dX10_digest_90 : decode cX10_digest 90 = .ok (.lstore_n 1, 1) := by decide +kernel
theorem dX10_digest_91 : decode cX10_digest 91 = .ok (.iinc 3 1, 3) := by decide +kernel
theorem dX10_digest_94 : decode cX10_digest 94 = .ok (.goto (-25), 3) := by decide +kernel
theorem dX10_digest_97 : decode cX10_digest 97 = .ok (.iconst 0, 1) := by decide +kernel
theorem dX10_digest_98 : decode cX10_digest 98 = .ok (.istore_n 3, 1) := by decide +kernel
theorem dX10_digest_99 : decode cX10_digest 99 = .ok (.iload_n 3, 1) := by decide +kernel
theorem dX10_digest_100 : decode cX10_digest 100 = .ok (.iconst 4, 1) := by decide +kernel
theorem dX10_digest_101 : decode cX10_digest 101 = .ok (.if_icmp .ge 170, 3) := by decide +kernel
theorem dX10_digest_104 : decode cX10_digest 104 = .ok (.ldc2_w 141, 3) := by decide +kernel
theorem dX10_digest_107 : decode cX10_digest 107 = .ok (.lload_n 1, 1) := by decide +kernel
theorem dX10_digest_108 : decode cX10_digest 108 = .ok (.lmul, 1) := by decide +kernel
theorem dX10_digest_109 : decode cX10_digest 109 = .ok (.aload_n 0, 1) := by decide +kernel
theorem dX10_digest_110 : decode cX10_digest 110 = .ok (.getfield 53, 3) := by decide +kernel
theorem dX10_digest_113 : decode cX10_digest 113 = .ok (.iload_n 3, 1) := by decide +kernel
theorem dX10_digest_114 : decode cX10_digest 114 = .ok (.iaload, 1) := by decide +kernel
theorem dX10_digest_115 : decode cX10_digest 115 = .ok (.i2l, 1) := by decide +kernel
theorem dX10_digest_116 : decode cX10_digest 116 = .ok (.ladd, 1) := by decide +kernel
theorem dX10_digest_117 : decode cX10_digest 117 = .ok (.lstore_n 1, 1) := by decide +kernel
theorem dX10_digest_118 : decode cX10_digest 118 = .ok (.ldc2_w 141, 3) := by decide +kernel
theorem dX10_digest_121 : decode cX10_digest 121 = .ok (.lload_n 1, 1) := by decide +kernel
theorem dX10_digest_122 : decode cX10_digest 122 = .ok (.lmul, 1) := by decide +kernel
theorem dX10_digest_123 : decode cX10_digest 123 = .ok (.aload_n 0, 1) := by decide +kernel
theorem dX10_digest_124 : decode cX10_digest 124 = .ok (.iload_n 3, 1) := by decide +kernel
theorem dX10_digest_125 : decode cX10_digest 125 = .ok (.invokevirtual 189, 3) := by decide +kernel
theorem dX10_digest_128 : decode cX10_digest 128 = .ok (.i2l, 1) := by decide +kernel
theorem dX10_digest_129 : decode cX10_digest 129 = .ok (.ladd, 1) := by decide +kernel
theorem dX10_digest_130 : decode cX10_digest 130 = .ok (.lstore_n 1, 1) := by decide +kernel
theorem dX10_digest_131 : decode cX10_digest 131 = .ok (.iconst (-1), 1) := by decide +kernel
theorem dX10_digest_132 : decode cX10_digest 132 = .ok (.istore 4, 2) := by decide +kernel
theorem dX10_digest_134 : decode cX10_digest 134 = .ok (.iload 4, 2) := by decide +kernel
theorem dX10_digest_136 : decode cX10_digest 136 = .ok (.iconst 2, 1) := by decide +kernel
theorem dX10_digest_137 : decode cX10_digest 137 = .ok (.if_icmp .ge 24, 3) := by decide +kernel
theorem dX10_digest_140 : decode cX10_digest 140 = .ok (.ldc2_w 141, 3) := by decide +kernel
theorem dX10_digest_143 : decode cX10_digest 143 = .ok (.lload_n 1, 1) := by decide +kernel
theorem dX10_digest_144 : decode cX10_digest 144 = .ok (.lmul, 1) := by decide +kernel
theorem dX10_digest_145 : decode cX10_digest 145 = .ok (.aload_n 0, 1) := by decide +kernel
theorem dX10_digest_146 : decode cX10_digest 146 = .ok (.iload_n 3, 1) := by decide +kernel
theorem dX10_digest_147 : decode cX10_digest 147 = .ok (.iload 4, 2) := by decide +kernel
theorem dX10_digest_149 : decode cX10_digest 149 = .ok (.invokevirtual 204, 3) := by decide +kernel
theorem dX10_digest_152 : decode cX10_digest 152 = .ok (.i2l, 1) := by decide +kernel
theorem dX10_digest_153 : decode cX10_digest 153 = .ok (.ladd, 1) := by decide +kernel
theorem dX10_digest_154 : decode cX10_digest 154 = .ok (.lstore_n 1, 1) := by decide +kernel
theorem dX10_digest_155 : decode cX10_digest 155 = .ok (.iinc 4 1, 3) := by decide +kernel
theorem dX10_digest_158 : decode cX10_digest 158 = .ok (.goto (-24), 3) := by decide +kernel
theorem dX10_digest_161 : decode cX10_digest 161 = .ok (.iconst 0, 1) := by decide +kernel
theorem dX10_digest_162 : decode cX10_digest 162 = .ok (.istore 4, 2) := by decide +kernel
theorem dX10_digest_164 : decode cX10_digest 164 = .ok (.iload 4, 2) := by decide +kernel
theorem dX10_digest_166 : decode cX10_digest 166 = .ok (.iconst 2, 1) := by decide +kernel
theorem dX10_digest_167 : decode cX10_digest 167 = .ok (.if_icmp .ge 26, 3) := by decide +kernel
theorem dX10_digest_170 : decode cX10_digest 170 = .ok (.ldc2_w 141, 3) := by decide +kernel
theorem dX10_digest_173 : decode cX10_digest 173 = .ok (.lload_n 1, 1) := by decide +kernel
theorem dX10_digest_174 : decode cX10_digest 174 = .ok (.lmul, 1) := by decide +kernel
theorem dX10_digest_175 : decode cX10_digest 175 = .ok (.aload_n 0, 1) := by decide +kernel
theorem dX10_digest_176 : decode cX10_digest 176 = .ok (.iload_n 3, 1) := by decide +kernel
theorem dX10_digest_177 : decode cX10_digest 177 = .ok (.iconst 1, 1) := by decide +kernel
theorem dX10_digest_178 : decode cX10_digest 178 = .ok (.iconst 3, 1) := by decide +kernel
theorem dX10_digest_179 : decode cX10_digest 179 = .ok (.iload 4, 2) := by decide +kernel
theorem dX10_digest_181 : decode cX10_digest 181 = .ok (.invokevirtual 210, 3) := by decide +kernel
theorem dX10_digest_184 : decode cX10_digest 184 = .ok (.i2l, 1) := by decide +kernel
theorem dX10_digest_185 : decode cX10_digest 185 = .ok (.ladd, 1) := by decide +kernel
theorem dX10_digest_186 : decode cX10_digest 186 = .ok (.lstore_n 1, 1) := by decide +kernel
theorem dX10_digest_187 : decode cX10_digest 187 = .ok (.iinc 4 1, 3) := by decide +kernel
theorem dX10_digest_190 : decode cX10_digest 190 = .ok (.goto (-26), 3) := by decide +kernel
theorem dX10_digest_193 : decode cX10_digest 193 = .ok (.iconst 0, 1) := by decide +kernel
theorem dX10_digest_194 : decode cX10_digest 194 = .ok (.istore 4, 2) := by decide +kernel
theorem dX10_digest_196 : decode cX10_digest 196 = .ok (.iload 4, 2) := by decide +kernel
theorem dX10_digest_198 : decode cX10_digest 198 = .ok (.iconst 2, 1) := by decide +kernel
theorem dX10_digest_199 : decode cX10_digest 199 = .ok (.if_icmp .ge 26, 3) := by decide +kernel
theorem dX10_digest_202 : decode cX10_digest 202 = .ok (.ldc2_w 141, 3) := by decide +kernel
theorem dX10_digest_205 : decode cX10_digest 205 = .ok (.lload_n 1, 1) := by decide +kernel
theorem dX10_digest_206 : decode cX10_digest 206 = .ok (.lmul, 1) := by decide +kernel
theorem dX10_digest_207 : decode cX10_digest 207 = .ok (.aload_n 0, 1) := by decide +kernel
theorem dX10_digest_208 : decode cX10_digest 208 = .ok (.bipush 20, 2) := by decide +kernel
theorem dX10_digest_210 : decode cX10_digest 210 = .ok (.iload_n 3, 1) := by decide +kernel
theorem dX10_digest_211 : decode cX10_digest 211 = .ok (.iload 4, 2) := by decide +kernel
theorem dX10_digest_213 : decode cX10_digest 213 = .ok (.invokevirtual 217, 3) := by decide +kernel
theorem dX10_digest_216 : decode cX10_digest 216 = .ok (.i2l, 1) := by decide +kernel
theorem dX10_digest_217 : decode cX10_digest 217 = .ok (.ladd, 1) := by decide +kernel
theorem dX10_digest_218 : decode cX10_digest 218 = .ok (.lstore_n 1, 1) := by decide +kernel
theorem dX10_digest_219 : decode cX10_digest 219 = .ok (.iinc 4 1, 3) := by decide +kernel
theorem dX10_digest_222 : decode cX10_digest 222 = .ok (.goto (-26), 3) := by decide +kernel
theorem dX10_digest_225 : decode cX10_digest 225 = .ok (.iconst 0, 1) := by decide +kernel
theorem dX10_digest_226 : decode cX10_digest 226 = .ok (.istore 4, 2) := by decide +kernel
theorem dX10_digest_228 : decode cX10_digest 228 = .ok (.iload 4, 2) := by decide +kernel
theorem dX10_digest_230 : decode cX10_digest 230 = .ok (.iconst 2, 1) := by decide +kernel
theorem dX10_digest_231 : decode cX10_digest 231 = .ok (.if_icmp .ge 34, 3) := by decide +kernel
theorem dX10_digest_234 : decode cX10_digest 234 = .ok (.ldc2_w 141, 3) := by decide +kernel
theorem dX10_digest_237 : decode cX10_digest 237 = .ok (.lload_n 1, 1) := by decide +kernel
theorem dX10_digest_238 : decode cX10_digest 238 = .ok (.lmul, 1) := by decide +kernel
theorem dX10_digest_239 : decode cX10_digest 239 = .ok (.aload_n 0, 1) := by decide +kernel
theorem dX10_digest_240 : decode cX10_digest 240 = .ok (.bipush 6, 2) := by decide +kernel
theorem dX10_digest_242 : decode cX10_digest 242 = .ok (.iconst 1, 1) := by decide +kernel
theorem dX10_digest_243 : decode cX10_digest 243 = .ok (.iconst 0, 1) := by decide +kernel
theorem dX10_digest_244 : decode cX10_digest 244 = .ok (.iload_n 3, 1) := by decide +kernel
theorem dX10_digest_245 : decode cX10_digest 245 = .ok (.invokevirtual 241, 3) := by decide +kernel
theorem dX10_digest_248 : decode cX10_digest 248 = .ok (.i2l, 1) := by decide +kernel
theorem dX10_digest_249 : decode cX10_digest 249 = .ok (.ldc2_w 239, 3) := by decide +kernel
theorem dX10_digest_252 : decode cX10_digest 252 = .ok (.iload 4, 2) := by decide +kernel
theorem dX10_digest_254 : decode cX10_digest 254 = .ok (.invokestatic 244, 3) := by decide +kernel
theorem dX10_digest_257 : decode cX10_digest 257 = .ok (.ladd, 1) := by decide +kernel
theorem dX10_digest_258 : decode cX10_digest 258 = .ok (.lstore_n 1, 1) := by decide +kernel
theorem dX10_digest_259 : decode cX10_digest 259 = .ok (.iinc 4 1, 3) := by decide +kernel
theorem dX10_digest_262 : decode cX10_digest 262 = .ok (.goto (-34), 3) := by decide +kernel
theorem dX10_digest_265 : decode cX10_digest 265 = .ok (.iinc 3 1, 3) := by decide +kernel
theorem dX10_digest_268 : decode cX10_digest 268 = .ok (.goto (-169), 3) := by decide +kernel
theorem dX10_digest_271 : decode cX10_digest 271 = .ok (.iconst 0, 1) := by decide +kernel
theorem dX10_digest_272 : decode cX10_digest 272 = .ok (.istore_n 3, 1) := by decide +kernel
theorem dX10_digest_273 : decode cX10_digest 273 = .ok (.iload_n 3, 1) := by decide +kernel
theorem dX10_digest_274 : decode cX10_digest 274 = .ok (.aload_n 0, 1) := by decide +kernel
theorem dX10_digest_275 : decode cX10_digest 275 = .ok (.getfield 128, 3) := by decide +kernel
theorem dX10_digest_278 : decode cX10_digest 278 = .ok (.if_icmp .ge 38, 3) := by decide +kernel
theorem dX10_digest_281 : decode cX10_digest 281 = .ok (.ldc2_w 141, 3) := by decide +kernel
theorem dX10_digest_284 : decode cX10_digest 284 = .ok (.lload_n 1, 1) := by decide +kernel
theorem dX10_digest_285 : decode cX10_digest 285 = .ok (.lmul, 1) := by decide +kernel
theorem dX10_digest_286 : decode cX10_digest 286 = .ok (.aload_n 0, 1) := by decide +kernel
theorem dX10_digest_287 : decode cX10_digest 287 = .ok (.iload_n 3, 1) := by decide +kernel
theorem dX10_digest_288 : decode cX10_digest 288 = .ok (.invokevirtual 177, 3) := by decide +kernel
theorem dX10_digest_291 : decode cX10_digest 291 = .ok (.i2l, 1) := by decide +kernel
theorem dX10_digest_292 : decode cX10_digest 292 = .ok (.ladd, 1) := by decide +kernel
theorem dX10_digest_293 : decode cX10_digest 293 = .ok (.lstore_n 1, 1) := by decide +kernel
theorem dX10_digest_294 : decode cX10_digest 294 = .ok (.ldc2_w 141, 3) := by decide +kernel
theorem dX10_digest_297 : decode cX10_digest 297 = .ok (.lload_n 1, 1) := by decide +kernel
theorem dX10_digest_298 : decode cX10_digest 298 = .ok (.lmul, 1) := by decide +kernel
theorem dX10_digest_299 : decode cX10_digest 299 = .ok (.aload_n 0, 1) := by decide +kernel
theorem dX10_digest_300 : decode cX10_digest 300 = .ok (.iload_n 3, 1) := by decide +kernel
theorem dX10_digest_301 : decode cX10_digest 301 = .ok (.bipush 30, 2) := by decide +kernel
theorem dX10_digest_303 : decode cX10_digest 303 = .ok (.iconst 2, 1) := by decide +kernel
theorem dX10_digest_304 : decode cX10_digest 304 = .ok (.invokevirtual 276, 3) := by decide +kernel
theorem dX10_digest_307 : decode cX10_digest 307 = .ok (.i2l, 1) := by decide +kernel
theorem dX10_digest_308 : decode cX10_digest 308 = .ok (.ladd, 1) := by decide +kernel
theorem dX10_digest_309 : decode cX10_digest 309 = .ok (.lstore_n 1, 1) := by decide +kernel
theorem dX10_digest_310 : decode cX10_digest 310 = .ok (.iinc 3 1, 3) := by decide +kernel
theorem dX10_digest_313 : decode cX10_digest 313 = .ok (.goto (-40), 3) := by decide +kernel
theorem dX10_digest_316 : decode cX10_digest 316 = .ok (.ldc2_w 141, 3) := by decide +kernel
theorem dX10_digest_319 : decode cX10_digest 319 = .ok (.lload_n 1, 1) := by decide +kernel
theorem dX10_digest_320 : decode cX10_digest 320 = .ok (.lmul, 1) := by decide +kernel
theorem dX10_digest_321 : decode cX10_digest 321 = .ok (.aload_n 0, 1) := by decide +kernel
theorem dX10_digest_322 : decode cX10_digest 322 = .ok (.bipush 30, 2) := by decide +kernel
theorem dX10_digest_324 : decode cX10_digest 324 = .ok (.iconst 5, 1) := by decide +kernel
theorem dX10_digest_325 : decode cX10_digest 325 = .ok (.invokevirtual 222, 3) := by decide +kernel
theorem dX10_digest_328 : decode cX10_digest 328 = .ok (.i2l, 1) := by decide +kernel
theorem dX10_digest_329 : decode cX10_digest 329 = .ok (.ladd, 1) := by decide +kernel
theorem dX10_digest_330 : decode cX10_digest 330 = .ok (.lstore_n 1, 1) := by decide +kernel
theorem dX10_digest_331 : decode cX10_digest 331 = .ok (.iconst 0, 1) := by decide +kernel
theorem dX10_digest_332 : decode cX10_digest 332 = .ok (.istore_n 3, 1) := by decide +kernel
theorem dX10_digest_333 : decode cX10_digest 333 = .ok (.iload_n 3, 1) := by decide +kernel
theorem dX10_digest_334 : decode cX10_digest 334 = .ok (.iconst 2, 1) := by decide +kernel
theorem dX10_digest_335 : decode cX10_digest 335 = .ok (.if_icmp .ge 24, 3) := by decide +kernel
theorem dX10_digest_338 : decode cX10_digest 338 = .ok (.ldc2_w 141, 3) := by decide +kernel
theorem dX10_digest_341 : decode cX10_digest 341 = .ok (.lload_n 1, 1) := by decide +kernel
theorem dX10_digest_342 : decode cX10_digest 342 = .ok (.lmul, 1) := by decide +kernel
theorem dX10_digest_343 : decode cX10_digest 343 = .ok (.iconst 3, 1) := by decide +kernel
theorem dX10_digest_344 : decode cX10_digest 344 = .ok (.iconst 4, 1) := by decide +kernel
theorem dX10_digest_345 : decode cX10_digest 345 = .ok (.iconst 5, 1) := by decide +kernel
theorem dX10_digest_346 : decode cX10_digest 346 = .ok (.iload_n 3, 1) := by decide +kernel
theorem dX10_digest_347 : decode cX10_digest 347 = .ok (.invokestatic 230, 3) := by decide +kernel
theorem dX10_digest_350 : decode cX10_digest 350 = .ok (.i2l, 1) := by decide +kernel
theorem dX10_digest_351 : decode cX10_digest 351 = .ok (.ladd, 1) := by decide +kernel
theorem dX10_digest_352 : decode cX10_digest 352 = .ok (.lstore_n 1, 1) := by decide +kernel
theorem dX10_digest_353 : decode cX10_digest 353 = .ok (.iinc 3 1, 3) := by decide +kernel
theorem dX10_digest_356 : decode cX10_digest 356 = .ok (.goto (-23), 3) := by decide +kernel
theorem dX10_digest_359 : decode cX10_digest 359 = .ok (.ldc2_w 141, 3) := by decide +kernel
theorem dX10_digest_362 : decode cX10_digest 362 = .ok (.lload_n 1, 1) := by decide +kernel
theorem dX10_digest_363 : decode cX10_digest 363 = .ok (.lmul, 1) := by decide +kernel
theorem dX10_digest_364 : decode cX10_digest 364 = .ok (.aload_n 0, 1) := by decide +kernel
theorem dX10_digest_365 : decode cX10_digest 365 = .ok (.bipush 8, 2) := by decide +kernel
theorem dX10_digest_367 : decode cX10_digest 367 = .ok (.bipush 60, 2) := by decide +kernel
theorem dX10_digest_369 : decode cX10_digest 369 = .ok (.iconst 4, 1) := by decide +kernel
theorem dX10_digest_370 : decode cX10_digest 370 = .ok (.bipush 90, 2) := by decide +kernel
theorem dX10_digest_372 : decode cX10_digest 372 = .ok (.invokevirtual 287, 3) := by decide +kernel
theorem dX10_digest_375 : decode cX10_digest 375 = .ok (.i2l, 1) := by decide +kernel
theorem dX10_digest_376 : decode cX10_digest 376 = .ok (.ladd, 1) := by decide +kernel
theorem dX10_digest_377 : decode cX10_digest 377 = .ok (.lstore_n 1, 1) := by decide +kernel
theorem dX10_digest_378 : decode cX10_digest 378 = .ok (.aload_n 0, 1) := by decide +kernel
theorem dX10_digest_379 : decode cX10_digest 379 = .ok (.invokevirtual 263, 3) := by decide +kernel
theorem dX10_digest_382 : decode cX10_digest 382 = .ok (.istore_n 3, 1) := by decide +kernel
theorem dX10_digest_383 : decode cX10_digest 383 = .ok (.ldc2_w 141, 3) := by decide +kernel
theorem dX10_digest_386 : decode cX10_digest 386 = .ok (.lload_n 1, 1) := by decide +kernel
theorem dX10_digest_387 : decode cX10_digest 387 = .ok (.lmul, 1) := by decide +kernel
theorem dX10_digest_388 : decode cX10_digest 388 = .ok (.iload_n 3, 1) := by decide +kernel
theorem dX10_digest_389 : decode cX10_digest 389 = .ok (.i2l, 1) := by decide +kernel
theorem dX10_digest_390 : decode cX10_digest 390 = .ok (.ladd, 1) := by decide +kernel
theorem dX10_digest_391 : decode cX10_digest 391 = .ok (.lstore_n 1, 1) := by decide +kernel
theorem dX10_digest_392 : decode cX10_digest 392 = .ok (.iconst 0, 1) := by decide +kernel
theorem dX10_digest_393 : decode cX10_digest 393 = .ok (.istore 4, 2) := by decide +kernel
theorem dX10_digest_395 : decode cX10_digest 395 = .ok (.iload 4, 2) := by decide +kernel
theorem dX10_digest_397 : decode cX10_digest 397 = .ok (.iconst 2, 1) := by decide +kernel
theorem dX10_digest_398 : decode cX10_digest 398 = .ok (.if_icmp .ge 37, 3) := by decide +kernel
theorem dX10_digest_401 : decode cX10_digest 401 = .ok (.ldc2_w 141, 3) := by decide +kernel
theorem dX10_digest_404 : decode cX10_digest 404 = .ok (.lload_n 1, 1) := by decide +kernel
theorem dX10_digest_405 : decode cX10_digest 405 = .ok (.lmul, 1) := by decide +kernel
theorem dX10_digest_406 : decode cX10_digest 406 = .ok (.iload 4, 2) := by decide +kernel
theorem dX10_digest_408 : decode cX10_digest 408 = .ok (.aload_n 0, 1) := by decide +kernel
theorem dX10_digest_409 : decode cX10_digest 409 = .ok (.getfield 254, 3) := by decide +kernel
theorem dX10_digest_412 : decode cX10_digest 412 = .ok (.if_icmp .ge 13, 3) := by decide +kernel
theorem dX10_digest_415 : decode cX10_digest 415 = .ok (.aload_n 0, 1) := by decide +kernel
theorem dX10_digest_416 : decode cX10_digest 416 = .ok (.getfield 68, 3) := by decide +kernel
theorem dX10_digest_419 : decode cX10_digest 419 = .ok (.iload 4, 2) := by decide +kernel
theorem dX10_digest_421 : decode cX10_digest 421 = .ok (.iaload, 1) := by decide +kernel
theorem dX10_digest_422 : decode cX10_digest 422 = .ok (.goto 4, 3) := by decide +kernel
theorem dX10_digest_425 : decode cX10_digest 425 = .ok (.iconst (-1), 1) := by decide +kernel
theorem dX10_digest_426 : decode cX10_digest 426 = .ok (.i2l, 1) := by decide +kernel
theorem dX10_digest_427 : decode cX10_digest 427 = .ok (.ladd, 1) := by decide +kernel
theorem dX10_digest_428 : decode cX10_digest 428 = .ok (.lstore_n 1, 1) := by decide +kernel
theorem dX10_digest_429 : decode cX10_digest 429 = .ok (.iinc 4 1, 3) := by decide +kernel
theorem dX10_digest_432 : decode cX10_digest 432 = .ok (.goto (-37), 3) := by decide +kernel
theorem dX10_digest_435 : decode cX10_digest 435 = .ok (.ldc2_w 141, 3) := by decide +kernel
theorem dX10_digest_438 : decode cX10_digest 438 = .ok (.lload_n 1, 1) := by decide +kernel
theorem dX10_digest_439 : decode cX10_digest 439 = .ok (.lmul, 1) := by decide +kernel
theorem dX10_digest_440 : decode cX10_digest 440 = .ok (.aload_n 0, 1) := by decide +kernel
theorem dX10_digest_441 : decode cX10_digest 441 = .ok (.invokevirtual 271, 3) := by decide +kernel
theorem dX10_digest_444 : decode cX10_digest 444 = .ok (.i2l, 1) := by decide +kernel
theorem dX10_digest_445 : decode cX10_digest 445 = .ok (.ladd, 1) := by decide +kernel
theorem dX10_digest_446 : decode cX10_digest 446 = .ok (.lreturn, 1) := by decide +kernel
