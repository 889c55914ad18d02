theorem dX7_init_0 : decode cX7_init 0 = .ok (.aload_n 0, 1) := by decide +kernel
theorem dX7_init_1 : decode cX7_init 1 = .ok (.invokespecial 1, 3) := by decide +kernel
theorem dX7_init_4 : decode cX7_init 4 = .ok (.aload_n 0, 1) := by decide +kernel
theorem dX7_init_5 : decode cX7_init 5 = .ok (.sipush 200, 3) := by decide +kernel
theorem dX7_init_8 : decode cX7_init 8 = .ok (.newarray .byte, 2) := by decide +kernel
theorem dX7_init_10 : decode cX7_init 10 = .ok (.putfield 7, 3) := by decide +kernel
theorem dX7_init_13 : decode cX7_init 13 = .ok (.aload_n 0, 1) := by decide +kernel
theorem dX7_init_14 : decode cX7_init 14 = .ok (.iconst 2, 1) := by decide +kernel
theorem dX7_init_15 : decode cX7_init 15 = .ok (.newarray .int, 2) := by decide +kernel
theorem dX7_init_17 : decode cX7_init 17 = .ok (.putfield 13, 3) := by decide +kernel
theorem dX7_init_20 : decode cX7_init 20 = .ok (.aload_n 0, 1) := by decide +kernel
theorem dX7_init_21 : decode cX7_init 21 = .ok (.iconst 2, 1) := by decide +kernel
theorem dX7_init_22 : decode cX7_init 22 = .ok (.newarray .int, 2) := by decide +kernel
theorem dX7_init_24 : decode cX7_init 24 = .ok (.putfield 17, 3) := by decide +kernel
theorem dX7_init_27 : decode cX7_init 27 = .ok (.aload_n 0, 1) := by decide +kernel
theorem dX7_init_28 : decode cX7_init 28 = .ok (.iconst 2, 1) := by decide +kernel
theorem dX7_init_29 : decode cX7_init 29 = .ok (.newarray .int, 2) := by decide +kernel
theorem dX7_init_31 : decode cX7_init 31 = .ok (.putfield 20, 3) := by decide +kernel
theorem dX7_init_34 : decode cX7_init 34 = .ok (.aload_n 0, 1) := by decide +kernel
theorem dX7_init_35 : decode cX7_init 35 = .ok (.iconst 2, 1) := by decide +kernel
theorem dX7_init_36 : decode cX7_init 36 = .ok (.newarray .int, 2) := by decide +kernel
theorem dX7_init_38 : decode cX7_init 38 = .ok (.putfield 23, 3) := by decide +kernel
theorem dX7_init_41 : decode cX7_init 41 = .ok (.aload_n 0, 1) := by decide +kernel
theorem dX7_init_42 : decode cX7_init 42 = .ok (.iconst 2, 1) := by decide +kernel
theorem dX7_init_43 : decode cX7_init 43 = .ok (.newarray .int, 2) := by decide +kernel
theorem dX7_init_45 : decode cX7_init 45 = .ok (.putfield 26, 3) := by decide +kernel
theorem dX7_init_48 : decode cX7_init 48 = .ok (.aload_n 0, 1) := by decide +kernel
theorem dX7_init_49 : decode cX7_init 49 = .ok (.bipush 18, 2) := by decide +kernel
theorem dX7_init_51 : decode cX7_init 51 = .ok (.newarray .int, 2) := by decide +kernel
theorem dX7_init_53 : decode cX7_init 53 = .ok (.putfield 29, 3) := by decide +kernel
theorem dX7_init_56 : decode cX7_init 56 = .ok (.aload_n 0, 1) := by decide +kernel
theorem dX7_init_57 : decode cX7_init 57 = .ok (.bipush 18, 2) := by decide +kernel
theorem dX7_init_59 : decode cX7_init 59 = .ok (.newarray .int, 2) := by decide +kernel
theorem dX7_init_61 : decode cX7_init 61 = .ok (.putfield 32, 3) := by decide +kernel
theorem dX7_init_64 : decode cX7_init 64 = .ok (.aload_n 0, 1) := by decide +kernel
theorem dX7_init_65 : decode cX7_init 65 = .ok (.bipush 18, 2) := by decide +kernel
theorem dX7_init_67 : decode cX7_init 67 = .ok (.newarray .int, 2) := by decide +kernel
theorem dX7_init_69 : decode cX7_init 69 = .ok (.putfield 35, 3) := by decide +kernel
theorem dX7_init_72 : decode cX7_init 72 = .ok (.aload_n 0, 1) := by decide +kernel
theorem dX7_init_73 : decode cX7_init 73 = .ok (.iconst 3, 1) := by decide +kernel
theorem dX7_init_74 : decode cX7_init 74 = .ok (.newarray .int, 2) := by decide +kernel
theorem dX7_init_76 : decode cX7_init 76 = .ok (.putfield 38, 3) := by decide +kernel
theorem dX7_init_79 : decode cX7_init 79 = .ok (.aload_n 0, 1) := by decide +kernel
theorem dX7_init_80 : decode cX7_init 80 = .ok (.bipush 48, 2) := by decide +kernel
theorem dX7_init_82 : decode cX7_init 82 = .ok (.newarray .int, 2) := by decide +kernel
theorem dX7_init_84 : decode cX7_init 84 = .ok (.putfield 41, 3) := by decide +kernel
theorem dX7_init_87 : decode cX7_init 87 = .ok (.aload_n 0, 1) := by decide +kernel
theorem dX7_init_88 : decode cX7_init 88 = .ok (.bipush 48, 2) := by decide +kernel
theorem dX7_init_90 : decode cX7_init 90 = .ok (.newarray .int, 2) := by decide +kernel
theorem dX7_init_92 : decode cX7_init 92 = .ok (.putfield 44, 3) := by decide +kernel
theorem dX7_init_95 : decode cX7_init 95 = .ok (.aload_n 0, 1) := by decide +kernel
theorem dX7_init_96 : decode cX7_init 96 = .ok (.sipush 384, 3) := by decide +kernel
theorem dX7_init_99 : decode cX7_init 99 = .ok (.newarray .int, 2) := by decide +kernel
theorem dX7_init_101 : decode cX7_init 101 = .ok (.putfield 47, 3) := by decide +kernel
theorem dX7_init_104 : decode cX7_init 104 = .ok (.aload_n 0, 1) := by decide +kernel
theorem dX7_init_105 : decode cX7_init 105 = .ok (.bipush 96, 2) := by decide +kernel
theorem dX7_init_107 : decode cX7_init 107 = .ok (.newarray .int, 2) := by decide +kernel
theorem dX7_init_109 : decode cX7_init 109 = .ok (.putfield 50, 3) := by decide +kernel
theorem dX7_init_112 : decode cX7_init 112 = .ok (.aload_n 0, 1) := by decide +kernel
theorem dX7_init_113 : decode cX7_init 113 = .ok (.sipush 5120, 3) := by decide +kernel
theorem dX7_init_116 : decode cX7_init 116 = .ok (.newarray .int, 2) := by decide +kernel
theorem dX7_init_118 : decode cX7_init 118 = .ok (.putfield 53, 3) := by decide +kernel
theorem dX7_init_121 : decode cX7_init 121 = .ok (.aload_n 0, 1) := by decide +kernel
theorem dX7_init_122 : decode cX7_init 122 = .ok (.bipush 9, 2) := by decide +kernel
theorem dX7_init_124 : decode cX7_init 124 = .ok (.newarray .int, 2) := by decide +kernel
theorem dX7_init_126 : decode cX7_init 126 = .ok (.putfield 56, 3) := by decide +kernel
theorem dX7_init_129 : decode cX7_init 129 = .ok (.aload_n 0, 1) := by decide +kernel
theorem dX7_init_130 : decode cX7_init 130 = .ok (.bipush 6, 2) := by decide +kernel
theorem dX7_init_132 : decode cX7_init 132 = .ok (.newarray .int, 2) := by decide +kernel
theorem dX7_init_134 : decode cX7_init 134 = .ok (.putfield 59, 3) := by decide +kernel
theorem dX7_init_137 : decode cX7_init 137 = .ok (.aload_n 0, 1) := by decide +kernel
theorem dX7_init_138 : decode cX7_init 138 = .ok (.bipush 6, 2) := by decide +kernel
theorem dX7_init_140 : decode cX7_init 140 = .ok (.newarray .int, 2) := by decide +kernel
theorem dX7_init_142 : decode cX7_init 142 = .ok (.putfield 62, 3) := by decide +kernel
theorem dX7_init_145 : decode cX7_init 145 = .ok (.aload_n 0, 1) := by decide +kernel
theorem dX7_init_146 : decode cX7_init 146 = .ok (.bipush 6, 2) := by decide +kernel
theorem dX7_init_148 : decode cX7_init 148 = .ok (.newarray .int, 2) := by decide +kernel
theorem dX7_init_150 : decode cX7_init 150 = .ok (.putfield 65, 3) := by decide +kernel
theorem dX7_init_153 : decode cX7_init 153 = .ok (.aload_n 0, 1) := by decide +kernel
theorem dX7_init_154 : decode cX7_init 154 = .ok (.bipush 6, 2) := by decide +kernel
theorem dX7_init_156 : decode cX7_init 156 = .ok (.newarray .int, 2) := by decide +kernel
theorem dX7_init_158 : decode cX7_init 158 = .ok (.putfield 68, 3) := by decide +kernel
theorem dX7_init_161 : decode cX7_init 161 = .ok (.aload_n 0, 1) := by decide +kernel
theorem dX7_init_162 : decode cX7_init 162 = .ok (.getfield 13, 3) := by decide +kernel
theorem dX7_init_165 : decode cX7_init 165 = .ok (.iconst 1, 1) := by decide +kernel
theorem dX7_init_166 : decode cX7_init 166 = .ok (.bipush 6, 2) := by decide +kernel
theorem dX7_init_168 : decode cX7_init 168 = .ok (.iastore, 1) := by decide +kernel
theorem dX7_init_169 : decode cX7_init 169 = .ok (.aload_n 0, 1) := by decide +kernel
theorem dX7_init_170 : decode cX7_init 170 = .ok (.getfield 17, 3) := by decide +kernel
theorem dX7_init_173 : decode cX7_init 173 = .ok (.iconst 1, 1) := by decide +kernel
theorem dX7_init_174 : decode cX7_init 174 = .ok (.bipush 18, 2) := by decide +kernel
theorem dX7_init_176 : decode cX7_init 176 = .ok (.iastore, 1) := by decide +kernel
theorem dX7_init_177 : decode cX7_init 177 = .ok (.aload_n 0, 1) := by decide +kernel
theorem dX7_init_178 : decode cX7_init 178 = .ok (.getfield 20, 3) := by decide +kernel
theorem dX7_init_181 : decode cX7_init 181 = .ok (.iconst 1, 1) := by decide +kernel
theorem dX7_init_182 : decode cX7_init 182 = .ok (.iconst 3, 1) := by decide +kernel
theorem dX7_init_183 : decode cX7_init 183 = .ok (.iastore, 1) := by decide +kernel
theorem dX7_init_184 : decode cX7_init 184 = .ok (.aload_n 0, 1) := by decide +kernel
theorem dX7_init_185 : decode cX7_init 185 = .ok (.getfield 23, 3) := by decide +kernel
theorem dX7_init_188 : decode cX7_init 188 = .ok (.iconst 1, 1) := by decide +kernel
theorem dX7_init_189 : decode cX7_init 189 = .ok (.bipush 8, 2) := by decide +kernel
theorem dX7_init_191 : decode cX7_init 191 = .ok (.iastore, 1) := by decide +kernel
theorem dX7_init_192 : decode cX7_init 192 = .ok (.aload_n 0, 1) := by decide +kernel
theorem dX7_init_193 : decode cX7_init 193 = .ok (.getfield 26, 3) := by decide +kernel
theorem dX7_init_196 : decode cX7_init 196 = .ok (.iconst 1, 1) := by decide +kernel
theorem dX7_init_197 : decode cX7_init 197 = .ok (.bipush 12, 2) := by decide +kernel
theorem dX7_init_199 : decode cX7_init 199 = .ok (.iastore, 1) := by decide +kernel
theorem dX7_init_200 : decode cX7_init 200 = .ok (.aload_n 0, 1) := by decide +kernel
theorem dX7_init_201 : decode cX7_init 201 = .ok (.iconst 0, 1) := by decide +kernel
theorem dX7_init_202 : decode cX7_init 202 = .ok (.iconst 0, 1) := by decide +kernel
theorem dX7_init_203 : decode cX7_init 203 = .ok (.bipush 40, 2) := by decide +kernel
theorem dX7_init_205 : decode cX7_init 205 = .ok (.bipush 60, 2) := by decide +kernel
theorem dX7_init_207 : decode cX7_init 207 = .ok (.invokevirtual 71, 3) := by decide +kernel
theorem dX7_init_210 : decode cX7_init 210 = .ok (.aload_n 0, 1) := by decide +kernel
theorem dX7_init_211 : decode cX7_init 211 = .ok (.iconst 1, 1) := by decide +kernel
theorem dX7_init_212 : decode cX7_init 212 = .ok (.iconst 0, 1) := by decide +kernel
theorem dX7_init_213 : decode cX7_init 213 = .ok (.bipush 50, 2) := by decide +kernel
theorem dX7_init_215 : decode cX7_init 215 = .ok (.bipush 80, 2) := by decide +kernel
theorem dX7_init_217 : decode cX7_init 217 = .ok (.invokevirtual 71, 3) := by decide +kernel
theorem dX7_init_220 : decode cX7_init 220 = .ok (.aload_n 0, 1) := by decide +kernel
theorem dX7_init_221 : decode cX7_init 221 = .ok (.iconst 2, 1) := by decide +kernel
theorem dX7_init_222 : decode cX7_init 222 = .ok (.iconst 1, 1) := by decide +kernel
theorem dX7_init_223 : decode cX7_init 223 = .ok (.bipush 20, 2) := by decide +kernel
theorem dX7_init_225 : decode cX7_init 225 = .ok (.bipush 40, 2) := by decide +kernel
theorem dX7_init_227 : decode cX7_init 227 = .ok (.invokevirtual 71, 3) := by decide +kernel
theorem dX7_init_230 : decode cX7_init 230 = .ok (.aload_n 0, 1) := by decide +kernel
theorem dX7_init_231 : decode cX7_init 231 = .ok (.iconst 3, 1) := by decide +kernel
theorem dX7_init_232 : decode cX7_init 232 = .ok (.iconst 2, 1) := by decide +kernel
theorem dX7_init_233 : decode cX7_init 233 = .ok (.bipush 30, 2) := by decide +kernel
theorem dX7_init_235 : decode cX7_init 235 = .ok (.bipush 60, 2) := by decide +kernel
theorem dX7_init_237 : decode cX7_init 237 = .ok (.invokevirtual 71, 3) := by decide +kernel
theorem dX7_init_240 : decode cX7_init 240 = .ok (.aload_n 0, 1) := by decide +kernel
theorem dX7_init_241 : decode cX7_init 241 = .ok (.iconst 4, 1) := by decide +kernel
theorem dX7_init_242 : decode cX7_init 242 = .ok (.iconst 3, 1) := by decide +kernel
theorem dX7_init_243 : decode cX7_init 243 = .ok (.bipush 60, 2) := by decide +kernel
theorem dX7_init_245 : decode cX7_init 245 = .ok (.bipush 99, 2) := by decide +kernel
theorem dX7_init_247 : decode cX7_init 247 = .ok (.invokevirtual 71, 3) := by decide +kernel
theorem dX7_init_250 : decode cX7_init 250 = .ok (.aload_n 0, 1) := by decide +kernel
theorem dX7_init_251 : decode cX7_init 251 = .ok (.iconst 5, 1) := by decide +kernel
theorem dX7_init_252 : decode cX7_init 252 = .ok (.iconst 0, 1) := by decide +kernel
theorem dX7_init_253 : decode cX7_init 253 = .ok (.bipush 10, 2) := by decide +kernel
theorem dX7_init_255 : decode cX7_init 255 = .ok (.bipush 45, 2) := by decide +kernel
theorem dX7_init_257 : decode cX7_init 257 = .ok (.invokevirtual 71, 3) := by decide +kernel
theorem dX7_init_260 : decode cX7_init 260 = .ok (.aload_n 0, 1) := by decide +kernel
theorem dX7_init_261 : decode cX7_init 261 = .ok (.invokevirtual 75, 3) := by decide +kernel
theorem dX7_init_264 : decode cX7_init 264 = .ok (.return_, 1) := by decide +kernel
theorem dX7_in_0 : decode cX7_in 0 = .ok (.iload_n 0, 1) := by decide +kernel
theorem dX7_in_1 : decode cX7_in 1 = .ok (.iload_n 1, 1) := by decide +kernel
theorem dX7_in_2 : decode cX7_in 2 = .ok (.if_icmp .lt 12, 3) := by decide +kernel
theorem dX7_in_5 : decode cX7_in 5 = .ok (.iload_n 0, 1) := by decide +kernel
theorem dX7_in_6 : decode cX7_in 6 = .ok (.iload_n 2, 1) := by decide +kernel
theorem dX7_in_7 : decode cX7_in 7 = .ok (.if_icmp .gt 7, 3) := by decide +kernel
theorem dX7_in_10 : decode cX7_in 10 = .ok (.iconst 1, 1) := by decide +kernel
theorem dX7_in_11 : decode cX7_in 11 = .ok (.goto 4, 3) := by decide +kernel
theorem dX7_in_14 : decode cX7_in 14 = .ok (.iconst 0, 1) := by decide +kernel
theorem dX7_in_15 : decode cX7_in 15 = .ok (.ireturn, 1) := by decide +kernel
theorem dX7_invite_0 : decode cX7_invite 0 = .ok (.aload_n 0, 1) := by decide +kernel
theorem dX7_invite_1 : decode cX7_invite 1 = .ok (.getfield 29, 3) := by decide +kernel
theorem dX7_invite_4 : decode cX7_invite 4 = .ok (.bipush 9, 2) := by decide +kernel
theorem dX7_invite_6 : decode cX7_invite 6 = .ok (.iload_n 1, 1) := by decide +kernel
theorem dX7_invite_7 : decode cX7_invite 7 = .ok (.iadd, 1) := by decide +kernel
theorem dX7_invite_8 : decode cX7_invite 8 = .ok (.iload_n 2, 1) := by decide +kernel
theorem dX7_invite_9 : decode cX7_invite 9 = .ok (.iastore, 1) := by decide +kernel
theorem dX7_invite_10 : decode cX7_invite 10 = .ok (.aload_n 0, 1) := by decide +kernel
theorem dX7_invite_11 : decode cX7_invite 11 = .ok (.getfield 32, 3) := by decide +kernel
theorem dX7_invite_14 : decode cX7_invite 14 = .ok (.bipush 9, 2) := by decide +kernel
theorem dX7_invite_16 : decode cX7_invite 16 = .ok (.iload_n 1, 1) := by decide +kernel
theorem dX7_invite_17 : decode cX7_invite 17 = .ok (.iadd, 1) := by decide +kernel
theorem dX7_invite_18 : decode cX7_invite 18 = .ok (.iload_n 3, 1) := by decide +kernel
theorem dX7_invite_19 : decode cX7_invite 19 = .ok (.iastore, 1) := by decide +kernel
theorem dX7_invite_20 : decode cX7_invite 20 = .ok (.aload_n 0, 1) := by decide +kernel
theorem dX7_invite_21 : decode cX7_invite 21 = .ok (.getfield 35, 3) := by decide +kernel
theorem dX7_invite_24 : decode cX7_invite 24 = .ok (.bipush 9, 2) := by decide +kernel
theorem dX7_invite_26 : decode cX7_invite 26 = .ok (.iload_n 1, 1) := by decide +kernel
theorem dX7_invite_27 : decode cX7_invite 27 = .ok (.iadd, 1) := by decide +kernel
theorem dX7_invite_28 : decode cX7_invite 28 = .ok (.iload 4, 2) := by decide +kernel
theorem dX7_invite_30 : decode cX7_invite 30 = .ok (.iastore, 1) := by decide +kernel
theorem dX7_invite_31 : decode cX7_invite 31 = .ok (.return_, 1) := by decide +kernel
theorem dX7_write_0 : decode cX7_write 0 = .ok (.iload_n 1, 1) := by decide +kernel
theorem dX7_write_1 : decode cX7_write 1 = .ok (.bipush 32, 2) := by decide +kernel
theorem dX7_write_3 : decode cX7_write 3 = .ok (.bipush 126, 2) := by decide +kernel
theorem dX7_write_5 : decode cX7_write 5 = .ok (.invokestatic 78, 3) := by decide +kernel
theorem dX7_write_8 : decode cX7_write 8 = .ok (.ifCond .ne 5, 3) := by decide +kernel
theorem dX7_write_11 : decode cX7_write 11 = .ok (.iconst (-1), 1) := by decide +kernel
theorem dX7_write_12 : decode cX7_write 12 = .ok (.ireturn, 1) := by decide +kernel
theorem dX7_write_13 : decode cX7_write 13 = .ok (.aload_n 0, 1) := by decide +kernel
theorem dX7_write_14 : decode cX7_write 14 = .ok (.getfield 82, 3) := by decide +kernel
theorem dX7_write_17 : decode cX7_write 17 = .ok (.sipush 200, 3) := by decide +kernel
theorem dX7_write_20 : decode cX7_write 20 = .ok (.if_icmp .ne 6, 3) := by decide +kernel
theorem dX7_write_23 : decode cX7_write 23 = .ok (.bipush (-3), 2) := by decide +kernel
theorem dX7_write_25 : decode cX7_write 25 = .ok (.ireturn, 1) := by decide +kernel
theorem dX7_write_26 : decode cX7_write 26 = .ok (.aload_n 0, 1) := by decide +kernel
theorem dX7_write_27 : decode cX7_write 27 = .ok (.getfield 7, 3) := by decide +kernel
theorem dX7_write_30 : decode cX7_write 30 = .ok (.aload_n 0, 1) := by decide +kernel
theorem dX7_write_31 : decode cX7_write 31 = .ok (.getfield 82, 3) := by decide +kernel
theorem dX7_write_34 : decode cX7_write 34 = .ok (.iload_n 1, 1) := by decide +kernel
theorem dX7_write_35 : decode cX7_write 35 = .ok (.i2b, 1) := by decide +kernel
theorem dX7_write_36 : decode cX7_write 36 = .ok (.bastore, 1) := by decide +kernel
theorem dX7_write_37 : decode cX7_write 37 = .ok (.aload_n 0, 1) := by decide +kernel
theorem dX7_write_38 : decode cX7_write 38 = .ok (.dup, 1) := by decide +kernel
theorem dX7_write_39 : decode cX7_write 39 = .ok (.getfield 82, 3) := by decide +kernel
theorem dX7_write_42 : decode cX7_write 42 = .ok (.iconst 1, 1) := by decide +kernel
theorem dX7_write_43 : decode cX7_write 43 = .ok (.iadd, 1) := by decide +kernel
theorem dX7_write_44 : decode cX7_write 44 = .ok (.putfield 82, 3) := by decide +kernel
theorem dX7_write_47 : decode cX7_write 47 = .ok (.aload_n 0, 1) := by decide +kernel
theorem dX7_write_48 : decode cX7_write 48 = .ok (.getfield 82, 3) := by decide +kernel
theorem dX7_write_51 : decode cX7_write 51 = .ok (.ireturn, 1) := by decide +kernel
theorem dX7_wipe_0 : decode cX7_wipe 0 = .ok (.aload_n 0, 1) := by decide +kernel
theorem dX7_wipe_1 : decode cX7_wipe 1 = .ok (.getfield 82, 3) := by decide +kernel
theorem dX7_wipe_4 : decode cX7_wipe 4 = .ok (.istore_n 1, 1) := by decide +kernel
theorem dX7_wipe_5 : decode cX7_wipe 5 = .ok (.aload_n 0, 1) := by decide +kernel
theorem dX7_wipe_6 : decode cX7_wipe 6 = .ok (.iconst 0, 1) := by decide +kernel
theorem dX7_wipe_7 : decode cX7_wipe 7 = .ok (.putfield 82, 3) := by decide +kernel
theorem dX7_wipe_10 : decode cX7_wipe 10 = .ok (.iload_n 1, 1) := by decide +kernel
theorem dX7_wipe_11 : decode cX7_wipe 11 = .ok (.ireturn, 1) := by decide +kernel
theorem dX7_here_0 : decode cX7_here 0 = .ok (.aload_n 0, 1) := by decide +kernel
theorem dX7_here_1 : decode cX7_here 1 = .ok (.getfield 86, 3) := by decide +kernel
theorem dX7_here_4 : decode cX7_here 4 = .ok (.aload_n 0, 1) := by decide +kernel
theorem dX7_here_5 : decode cX7_here 5 = .ok (.getfield 82, 3) := by decide +kernel
theorem dX7_here_8 : decode cX7_here 8 = .ok (.if_icmp .ge 15, 3) := by decide +kernel
theorem dX7_here_11 : decode cX7_here 11 = .ok (.aload_n 0, 1) := by decide +kernel
theorem dX7_here_12 : decode cX7_here 12 = .ok (.getfield 7, 3) := by decide +kernel
theorem dX7_here_15 : decode cX7_here 15 = .ok (.aload_n 0, 1) := by decide +kernel
theorem dX7_here_16 : decode cX7_here 16 = .ok (.getfield 86, 3) := by decide +kernel
theorem dX7_here_19 : decode cX7_here 19 = .ok (.baload, 1) := by decide +kernel
theorem dX7_here_20 : decode cX7_here 20 = .ok (.goto 4, 3) := by decide +kernel
theorem dX7_here_23 : decode cX7_here 23 = .ok (.iconst 0, 1) := by decide +kernel
theorem dX7_here_24 : decode cX7_here 24 = .ok (.ireturn, 1) := by decide +kernel
theorem dX7_readNumber_0 : decode cX7_readNumber 0 = .ok (.iconst 0, 1) := by decide +kernel
theorem dX7_readNumber_1 : decode cX7_readNumber 1 = .ok (.istore 4, 2) := by decide +kernel
theorem dX7_readNumber_3 : decode cX7_readNumber 3 = .ok (.iconst 0, 1) := by decide +kernel
theorem dX7_readNumber_4 : decode cX7_readNumber 4 = .ok (.istore 5, 2) := by decide +kernel
theorem dX7_readNumber_6 : decode cX7_readNumber 6 = .ok (.aload_n 0, 1) := by decide +kernel
theorem dX7_readNumber_7 : decode cX7_readNumber 7 = .ok (.invokevirtual 89, 3) := by decide +kernel
theorem dX7_readNumber_10 : decode cX7_readNumber 10 = .ok (.bipush 48, 2) := by decide +kernel
theorem dX7_readNumber_12 : decode cX7_readNumber 12 = .ok (.bipush 57, 2) := by decide +kernel
theorem dX7_readNumber_14 : decode cX7_readNumber 14 = .ok (.invokestatic 78, 3) := by decide +kernel
theorem dX7_readNumber_17 : decode cX7_readNumber 17 = .ok (.ifCond .eq 40, 3) := by decide +kernel
theorem dX7_readNumber_20 : decode cX7_readNumber 20 = .ok (.iload 4, 2) := by decide +kernel
theorem dX7_readNumber_22 : decode cX7_readNumber 22 = .ok (.iconst 3, 1) := by decide +kernel
theorem dX7_readNumber_23 : decode cX7_readNumber 23 = .ok (.if_icmp .ge 34, 3) := by decide +kernel
theorem dX7_readNumber_26 : decode cX7_readNumber 26 = .ok (.bipush 10, 2) := by decide +kernel
theorem dX7_readNumber_28 : decode cX7_readNumber 28 = .ok (.iload 5, 2) := by decide +kernel
theorem dX7_readNumber_30 : decode cX7_readNumber 30 = .ok (.imul, 1) := by decide +kernel
theorem dX7_readNumber_31 : decode cX7_readNumber 31 = .ok (.aload_n 0, 1) := by decide +kernel
theorem dX7_readNumber_32 : decode cX7_readNumber 32 = .ok (.invokevirtual 89, 3) := by decide +kernel
theorem dX7_readNumber_35 : decode cX7_readNumber 35 = .ok (.iadd, 1) := by decide +kernel
theorem dX7_readNumber_36 : decode cX7_readNumber 36 = .ok (.bipush 48, 2) := by decide +kernel
theorem dX7_readNumber_38 : decode cX7_readNumber 38 = .ok (.isub, 1) := by decide +kernel
theorem dX7_readNumber_39 : decode cX7_readNumber 39 = .ok (.istore 5, 2) := by decide +kernel
theorem dX7_readNumber_41 : decode cX7_readNumber 41 = .ok (.aload_n 0, 1) := by decide +kernel
theorem dX7_readNumber_42 : decode cX7_readNumber 42 = .ok (.dup, 1) := by decide +kernel
theorem dX7_readNumber_43 : decode cX7_readNumber 43 = .ok (.getfield 86, 3) := by decide +kernel
theorem dX7_readNumber_46 : decode cX7_readNumber 46 = .ok (.iconst 1, 1) := by decide +kernel
theorem dX7_readNumber_47 : decode cX7_readNumber 47 = .ok (.iadd, 1) := by decide +kernel
theorem dX7_readNumber_48 : decode cX7_readNumber 48 = .ok (.putfield 86, 3) := by decide +kernel
theorem dX7_readNumber_51 : decode cX7_readNumber 51 = .ok (.iinc 4 1, 3) := by decide +kernel
theorem dX7_readNumber_54 : decode cX7_readNumber 54 = .ok (.goto (-48), 3) := by decide +kernel
theorem dX7_readNumber_57 : decode cX7_readNumber 57 = .ok (.aload_n 0, 1) := by decide +kernel
theorem dX7_readNumber_58 : decode cX7_readNumber 58 = .ok (.getfield 38, 3) := by decide +kernel
theorem dX7_readNumber_61 : decode cX7_readNumber 61 = .ok (.iload_n 1, 1) := by decide +kernel
theorem dX7_readNumber_62 : decode cX7_readNumber 62 = .ok (.iload 5, 2) := by decide +kernel
theorem dX7_readNumber_64 : decode cX7_readNumber 64 = .ok (.iastore, 1) := by decide +kernel
theorem dX7_readNumber_65 : decode cX7_readNumber 65 = .ok (.aload_n 0, 1) := by decide +kernel
theorem dX7_readNumber_66 : decode cX7_readNumber 66 = .ok (.aload_n 0, 1) := by decide +kernel
theorem dX7_readNumber_67 : decode cX7_readNumber 67 = .ok (.getfield 93, 3) := by decide +kernel
theorem dX7_readNumber_70 : decode cX7_readNumber 70 = .ok (.ifCond .eq 27, 3) := by decide +kernel
theorem dX7_readNumber_73 : decode cX7_readNumber 73 = .ok (.iload 4, 2) := by decide +kernel
theorem dX7_readNumber_75 : decode cX7_readNumber 75 = .ok (.iconst 1, 1) := by decide +kernel
theorem dX7_readNumber_76 : decode cX7_readNumber 76 = .ok (.iconst 2, 1) := by decide +kernel
theorem dX7_readNumber_77 : decode cX7_readNumber 77 = .ok (.invokestatic 78, 3) := by decide +kernel
theorem dX7_readNumber_80 : decode cX7_readNumber 80 = .ok (.ifCond .eq 17, 3) := by decide +kernel
theorem dX7_readNumber_83 : decode cX7_readNumber 83 = .ok (.iload 5, 2) := by decide +kernel
theorem dX7_readNumber_85 : decode cX7_readNumber 85 = .ok (.iload_n 2, 1) := by decide +kernel
theorem dX7_readNumber_86 : decode cX7_readNumber 86 = .ok (.iload_n 3, 1) := by decide +kernel
theorem dX7_readNumber_87 : decode cX7_readNumber 87 = .ok (.invokestatic 78, 3) := by decide +kernel
theorem dX7_readNumber_90 : decode cX7_readNumber 90 = .ok (.ifCond .eq 7, 3) := by decide +kernel
theorem dX7_readNumber_93 : decode cX7_readNumber 93 = .ok (.iconst 1, 1) := by decide +kernel
theorem dX7_readNumber_94 : decode cX7_readNumber 94 = .ok (.goto 4, 3) := by decide +kernel
theorem dX7_readNumber_97 : decode cX7_readNumber 97 = .ok (.iconst 0, 1) := by decide +kernel
theorem dX7_readNumber_98 : decode cX7_readNumber 98 = .ok (.putfield 93, 3) := by decide +kernel
theorem dX7_readNumber_101 : decode cX7_readNumber 101 = .ok (.return_, 1) := by decide +kernel
theorem dX7_readMark_0 : decode cX7_readMark 0 = .ok (.aload_n 0, 1) := by decide +kernel
theorem dX7_readMark_1 : decode cX7_readMark 1 = .ok (.aload_n 0, 1) := by decide +kernel
theorem dX7_readMark_2 : decode cX7_readMark 2 = .ok (.getfield 93, 3) := by decide +kernel
theorem dX7_readMark_5 : decode cX7_readMark 5 = .ok (.ifCond .eq 15, 3) := by decide +kernel
theorem dX7_readMark_8 : decode cX7_readMark 8 = .ok (.aload_n 0, 1) := by decide +kernel
theorem dX7_readMark_9 : decode cX7_readMark 9 = .ok (.invokevirtual 89, 3) := by decide +kernel
theorem dX7_readMark_12 : decode cX7_readMark 12 = .ok (.iload_n 1, 1) := by decide +kernel
theorem dX7_readMark_13 : decode cX7_readMark 13 = .ok (.if_icmp .ne 7, 3) := by decide +kernel
theorem dX7_readMark_16 : decode cX7_readMark 16 = .ok (.iconst 1, 1) := by decide +kernel
theorem dX7_readMark_17 : decode cX7_readMark 17 = .ok (.goto 4, 3) := by decide +kernel
theorem dX7_readMark_20 : decode cX7_readMark 20 = .ok (.iconst 0, 1) := by decide +kernel
theorem dX7_readMark_21 : decode cX7_readMark 21 = .ok (.putfield 93, 3) := by decide +kernel
theorem dX7_readMark_24 : decode cX7_readMark 24 = .ok (.aload_n 0, 1) := by decide +kernel
theorem dX7_readMark_25 : decode cX7_readMark 25 = .ok (.dup, 1) := by decide +kernel
theorem dX7_readMark_26 : decode cX7_readMark 26 = .ok (.getfield 86, 3) := by decide +kernel
theorem dX7_readMark_29 : decode cX7_readMark 29 = .ok (.iconst 1, 1) := by decide +kernel
theorem dX7_readMark_30 : decode cX7_readMark 30 = .ok (.iadd, 1) := by decide +kernel
theorem dX7_readMark_31 : decode cX7_readMark 31 = .ok (.putfield 86, 3) := by decide +kernel
theorem dX7_readMark_34 : decode cX7_readMark 34 = .ok (.return_, 1) := by decide +kernel
theorem dX7_readItem_0 : decode cX7_readItem 0 = .ok (.aload_n 0, 1) := by decide +kernel
theorem dX7_readItem_1 : decode cX7_readItem 1 = .ok (.invokevirtual 89, 3) := by decide +kernel
theorem dX7_readItem_4 : decode cX7_readItem 4 = .ok (.istore_n 1, 1) := by decide +kernel
theorem dX7_readItem_5 : decode cX7_readItem 5 = .ok (.aload_n 0, 1) := by decide +kernel
theorem dX7_readItem_6 : decode cX7_readItem 6 = .ok (.dup, 1) := by decide +kernel
theorem dX7_readItem_7 : decode cX7_readItem 7 = .ok (.getfield 86, 3) := by decide +kernel
theorem dX7_readItem_10 : decode cX7_readItem 10 = .ok (.iconst 1, 1) := by decide +kernel
theorem dX7_readItem_11 : decode cX7_readItem 11 = .ok (.iadd, 1) := by decide +kernel
theorem dX7_readItem_12 : decode cX7_readItem 12 = .ok (.putfield 86, 3) := by decide +kernel
theorem dX7_readItem_15 : decode cX7_readItem 15 = .ok (.iload_n 1, 1) := by decide +kernel
theorem dX7_readItem_16 : decode cX7_readItem 16 = .ok (.tableswitch 238 103 108 #[135, 86, 238, 238, 63, 40], 40) := by decide +kernel
theorem dX7_readItem_56 : decode cX7_readItem 56 = .ok (.aload_n 0, 1) := by decide +kernel
theorem dX7_readItem_57 : decode cX7_readItem 57 = .ok (.iconst 0, 1) := by decide +kernel
theorem dX7_readItem_58 : decode cX7_readItem 58 = .ok (.iconst 2, 1) := by decide +kernel
theorem dX7_readItem_59 : decode cX7_readItem 59 = .ok (.bipush 40, 2) := by decide +kernel
theorem dX7_readItem_61 : decode cX7_readItem 61 = .ok (.invokevirtual 97, 3) := by decide +kernel
theorem dX7_readItem_64 : decode cX7_readItem 64 = .ok (.aload_n 0, 1) := by decide +kernel
theorem dX7_readItem_65 : decode cX7_readItem 65 = .ok (.getfield 17, 3) := by decide +kernel
theorem dX7_readItem_68 : decode cX7_readItem 68 = .ok (.iconst 1, 1) := by decide +kernel
theorem dX7_readItem_69 : decode cX7_readItem 69 = .ok (.aload_n 0, 1) := by decide +kernel
theorem dX7_readItem_70 : decode cX7_readItem 70 = .ok (.getfield 38, 3) := by decide +kernel
theorem dX7_readItem_73 : decode cX7_readItem 73 = .ok (.iconst 0, 1) := by decide +kernel
theorem dX7_readItem_74 : decode cX7_readItem 74 = .ok (.iaload, 1) := by decide +kernel
theorem dX7_readItem_75 : decode cX7_readItem 75 = .ok (.iastore, 1) := by decide +kernel
theorem dX7_readItem_76 : decode cX7_readItem 76 = .ok (.goto 183, 3) := by decide +kernel
theorem dX7_readItem_79 : decode cX7_readItem 79 = .ok (.aload_n 0, 1) := by decide +kernel
theorem dX7_readItem_80 : decode cX7_readItem 80 = .ok (.iconst 0, 1) := by decide +kernel
theorem dX7_readItem_81 : decode cX7_readItem 81 = .ok (.iconst 1, 1) := by decide +kernel
theorem dX7_readItem_82 : decode cX7_readItem 82 = .ok (.bipush 9, 2) := by decide +kernel
theorem dX7_readItem_84 : decode cX7_readItem 84 = .ok (.invokevirtual 97, 3) := by decide +kernel
theorem dX7_readItem_87 : decode cX7_readItem 87 = .ok (.aload_n 0, 1) := by decide +kernel
theorem dX7_readItem_88 : decode cX7_readItem 88 = .ok (.getfield 20, 3) := by decide +kernel
theorem dX7_readItem_91 : decode cX7_readItem 91 = .ok (.iconst 1, 1) := by decide +kernel
theorem dX7_readItem_92 : decode cX7_readItem 92 = .ok (.aload_n 0, 1) := by decide +kernel
theorem dX7_readItem_93 : decode cX7_readItem 93 = .ok (.getfield 38, 3) := by decide +kernel
theorem dX7_readItem_96 : decode cX7_readItem 96 = .ok (.iconst 0, 1) := by decide +kernel
theorem dX7_readItem_97 : decode cX7_readItem 97 = .ok (.iaload, 1) := by decide +kernel
theorem dX7_readItem_98 : decode cX7_readItem 98 = .ok (.iastore, 1) := by decide +kernel
theorem dX7_readItem_99 : decode cX7_readItem 99 = .ok (.goto 160, 3) := by decide +kernel
theorem dX7_readItem_102 : decode cX7_readItem 102 = .ok (.aload_n 0, 1) := by decide +kernel
theorem dX7_readItem_103 : decode cX7_readItem 103 = .ok (.iconst 0, 1) := by decide +kernel
theorem dX7_readItem_104 : decode cX7_readItem 104 = .ok (.iconst 0, 1) := by decide +kernel
theorem dX7_readItem_105 : decode cX7_readItem 105 = .ok (.bipush 30, 2) := by decide +kernel
theorem dX7_readItem_107 : decode cX7_readItem 107 = .ok (.invokevirtual 97, 3) := by decide +kernel
theorem dX7_readItem_110 : decode cX7_readItem 110 = .ok (.aload_n 0, 1) := by decide +kernel
theorem dX7_readItem_111 : decode cX7_readItem 111 = .ok (.bipush 44, 2) := by decide +kernel
theorem dX7_readItem_113 : decode cX7_readItem 113 = .ok (.invokevirtual 101, 3) := by decide +kernel
theorem dX7_readItem_116 : decode cX7_readItem 116 = .ok (.aload_n 0, 1) := by decide +kernel
theorem dX7_readItem_117 : decode cX7_readItem 117 = .ok (.iconst 1, 1) := by decide +kernel
theorem dX7_readItem_118 : decode cX7_readItem 118 = .ok (.iconst 0, 1) := by decide +kernel
theorem dX7_readItem_119 : decode cX7_readItem 119 = .ok (.bipush 30, 2) := by decide +kernel
theorem dX7_readItem_121 : decode cX7_readItem 121 = .ok (.invokevirtual 97, 3) := by decide +kernel
theorem dX7_readItem_124 : decode cX7_readItem 124 = .ok (.aload_n 0, 1) := by decide +kernel
theorem dX7_readItem_125 : decode cX7_readItem 125 = .ok (.getfield 23, 3) := by decide +kernel
theorem dX7_readItem_128 : decode cX7_readItem 128 = .ok (.iconst 1, 1) := by decide +kernel
theorem dX7_readItem_129 : decode cX7_readItem 129 = .ok (.aload_n 0, 1) := by decide +kernel
theorem dX7_readItem_130 : decode cX7_readItem 130 = .ok (.getfield 38, 3) := by decide +kernel
theorem dX7_readItem_133 : decode cX7_readItem 133 = .ok (.iconst 0, 1) := by decide +kernel
theorem dX7_readItem_134 : decode cX7_readItem 134 = .ok (.iaload, 1) := by decide +kernel
theorem dX7_readItem_135 : decode cX7_readItem 135 = .ok (.iastore, 1) := by decide +kernel
theorem dX7_readItem_136 : decode cX7_readItem 136 = .ok (.aload_n 0, 1) := by decide +kernel
theorem dX7_readItem_137 : decode cX7_readItem 137 = .ok (.getfield 26, 3) := by decide +kernel
theorem dX7_readItem_140 : decode cX7_readItem 140 = .ok (.iconst 1, 1) := by decide +kernel
theorem dX7_readItem_141 : decode cX7_readItem 141 = .ok (.aload_n 0, 1) := by decide +kernel
theorem dX7_readItem_142 : decode cX7_readItem 142 = .ok (.getfield 38, 3) := by decide +kernel
theorem dX7_readItem_145 : decode cX7_readItem 145 = .ok (.iconst 1, 1) := by decide +kernel
theorem dX7_readItem_146 : decode cX7_readItem 146 = .ok (.iaload, 1) := by decide +kernel
theorem dX7_readItem_147 : decode cX7_readItem 147 = .ok (.iastore, 1) := by decide +kernel
theorem dX7_readItem_148 : decode cX7_readItem 148 = .ok (.goto 111, 3) := by decide +kernel
theorem dX7_readItem_151 : decode cX7_readItem 151 = .ok (.aload_n 0, 1) := by decide +kernel
theorem dX7_readItem_152 : decode cX7_readItem 152 = .ok (.aload_n 0, 1) := by decide +kernel
theorem dX7_readItem_153 : decode cX7_readItem 153 = .ok (.getfield 13, 3) := by decide +kernel
theorem dX7_readItem_156 : decode cX7_readItem 156 = .ok (.iconst 1, 1) := by decide +kernel
theorem dX7_readItem_157 : decode cX7_readItem 157 = .ok (.iaload, 1) := by decide +kernel
theorem dX7_readItem_158 : decode cX7_readItem 158 = .ok (.bipush 9, 2) := by decide +kernel
theorem dX7_readItem_160 : decode cX7_readItem 160 = .ok (.if_icmp .ge 7, 3) := by decide +kernel
theorem dX7_readItem_163 : decode cX7_readItem 163 = .ok (.iconst 1, 1) := by decide +kernel
theorem dX7_readItem_164 : decode cX7_readItem 164 = .ok (.goto 4, 3) := by decide +kernel
theorem dX7_readItem_167 : decode cX7_readItem 167 = .ok (.iconst 0, 1) := by decide +kernel
theorem dX7_readItem_168 : decode cX7_readItem 168 = .ok (.putfield 93, 3) := by decide +kernel
theorem dX7_readItem_171 : decode cX7_readItem 171 = .ok (.aload_n 0, 1) := by decide +kernel
theorem dX7_readItem_172 : decode cX7_readItem 172 = .ok (.iconst 0, 1) := by decide +kernel
theorem dX7_readItem_173 : decode cX7_readItem 173 = .ok (.iconst 0, 1) := by decide +kernel
theorem dX7_readItem_174 : decode cX7_readItem 174 = .ok (.iconst 3, 1) := by decide +kernel
theorem dX7_readItem_175 : decode cX7_readItem 175 = .ok (.invokevirtual 97, 3) := by decide +kernel
theorem dX7_readItem_178 : decode cX7_readItem 178 = .ok (.aload_n 0, 1) := by decide +kernel
theorem dX7_readItem_179 : decode cX7_readItem 179 = .ok (.bipush 44, 2) := by decide +kernel
theorem dX7_readItem_181 : decode cX7_readItem 181 = .ok (.invokevirtual 101, 3) := by decide +kernel
theorem dX7_readItem_184 : decode cX7_readItem 184 = .ok (.aload_n 0, 1) := by decide +kernel
theorem dX7_readItem_185 : decode cX7_readItem 185 = .ok (.iconst 1, 1) := by decide +kernel
theorem dX7_readItem_186 : decode cX7_readItem 186 = .ok (.iconst 0, 1) := by decide +kernel
theorem dX7_readItem_187 : decode cX7_readItem 187 = .ok (.bipush 99, 2) := by decide +kernel
theorem dX7_readItem_189 : decode cX7_readItem 189 = .ok (.invokevirtual 97, 3) := by decide +kernel
theorem dX7_readItem_192 : decode cX7_readItem 192 = .ok (.aload_n 0, 1) := by decide +kernel
theorem dX7_readItem_193 : decode cX7_readItem 193 = .ok (.bipush 44, 2) := by decide +kernel
theorem dX7_readItem_195 : decode cX7_readItem 195 = .ok (.invokevirtual 101, 3) := by decide +kernel
theorem dX7_readItem_198 : decode cX7_readItem 198 = .ok (.aload_n 0, 1) := by decide +kernel
theorem dX7_readItem_199 : decode cX7_readItem 199 = .ok (.iconst 2, 1) := by decide +kernel
theorem dX7_readItem_200 : decode cX7_readItem 200 = .ok (.iconst 0, 1) := by decide +kernel
theorem dX7_readItem_201 : decode cX7_readItem 201 = .ok (.bipush 99, 2) := by decide +kernel
theorem dX7_readItem_203 : decode cX7_readItem 203 = .ok (.invokevirtual 97, 3) := by decide +kernel
theorem dX7_readItem_206 : decode cX7_readItem 206 = .ok (.aload_n 0, 1) := by decide +kernel
theorem dX7_readItem_207 : decode cX7_readItem 207 = .ok (.getfield 93, 3) := by decide +kernel
theorem dX7_readItem_210 : decode cX7_readItem 210 = .ok (.ifCond .eq 49, 3) := by decide +kernel
theorem dX7_readItem_213 : decode cX7_readItem 213 = .ok (.aload_n 0, 1) := by decide +kernel
theorem dX7_readItem_214 : decode cX7_readItem 214 = .ok (.aload_n 0, 1) := by decide +kernel
theorem dX7_readItem_215 : decode cX7_readItem 215 = .ok (.getfield 13, 3) := by decide +kernel
theorem dX7_readItem_218 : decode cX7_readItem 218 = .ok (.iconst 1, 1) := by decide +kernel
theorem dX7_readItem_219 : decode cX7_readItem 219 = .ok (.iaload, 1) := by decide +kernel
theorem dX7_readItem_220 : decode cX7_readItem 220 = .ok (.aload_n 0, 1) := by decide +kernel
theorem dX7_readItem_221 : decode cX7_readItem 221 = .ok (.getfield 38, 3) := by decide +kernel
theorem dX7_readItem_224 : decode cX7_readItem 224 = .ok (.iconst 0, 1) := by decide +kernel
theorem dX7_readItem_225 : decode cX7_readItem 225 = .ok (.iaload, 1) := by decide +kernel
theorem dX7_readItem_226 : decode cX7_readItem 226 = .ok (.aload_n 0, 1) := by decide +kernel
theorem dX7_readItem_227 : decode cX7_readItem 227 = .ok (.getfield 38, 3) := by decide +kernel
theorem dX7_readItem_230 : decode cX7_readItem 230 = .ok (.iconst 1, 1) := by decide +kernel
theorem dX7_readItem_231 : decode cX7_readItem 231 = .ok (.iaload, 1) := by decide +kernel
theorem dX7_readItem_232 : decode cX7_readItem 232 = .ok (.aload_n 0, 1) := by decide +kernel
theorem dX7_readItem_233 : decode cX7_readItem 233 = .ok (.getfield 38, 3) := by decide +kernel
theorem dX7_readItem_236 : decode cX7_readItem 236 = .ok (.iconst 2, 1) := by decide +kernel
theorem dX7_readItem_237 : decode cX7_readItem 237 = .ok (.iaload, 1) := by decide +kernel
theorem dX7_readItem_238 : decode cX7_readItem 238 = .ok (.invokevirtual 71, 3) := by decide +kernel
theorem dX7_readItem_241 : decode cX7_readItem 241 = .ok (.aload_n 0, 1) := by decide +kernel
theorem dX7_readItem_242 : decode cX7_readItem 242 = .ok (.getfield 13, 3) := by decide +kernel
theorem dX7_readItem_245 : decode cX7_readItem 245 = .ok (.iconst 1, 1) := by decide +kernel
theorem dX7_readItem_246 : decode cX7_readItem 246 = .ok (.dup2, 1) := by decide +kernel
theorem dX7_readItem_247 : decode cX7_readItem 247 = .ok (.iaload, 1) := by decide +kernel
theorem dX7_readItem_248 : decode cX7_readItem 248 = .ok (.iconst 1, 1) := by decide +kernel
theorem dX7_readItem_249 : decode cX7_readItem 249 = .ok (.iadd, 1) := by decide +kernel
theorem dX7_readItem_250 : decode cX7_readItem 250 = .ok (.iastore, 1) := by decide +kernel
theorem dX7_readItem_251 : decode cX7_readItem 251 = .ok (.goto 8, 3) := by decide +kernel
theorem dX7_readItem_254 : decode cX7_readItem 254 = .ok (.aload_n 0, 1) := by decide +kernel
theorem dX7_readItem_255 : decode cX7_readItem 255 = .ok (.iconst 0, 1) := by decide +kernel
theorem dX7_readItem_256 : decode cX7_readItem 256 = .ok (.putfield 93, 3) := by decide +kernel
theorem dX7_readItem_259 : decode cX7_readItem 259 = .ok (.aload_n 0, 1) := by decide +kernel
theorem dX7_readItem_260 : decode cX7_readItem 260 = .ok (.bipush 59, 2) := by decide +kernel
theorem dX7_readItem_262 : decode cX7_readItem 262 = .ok (.invokevirtual 101, 3) := by decide +kernel
theorem dX7_readItem_265 : decode cX7_readItem 265 = .ok (.return_, 1) := by decide +kernel
theorem dX7_fault_0 : decode cX7_fault 0 = .ok (.aload_n 0, 1) := by decide +kernel
theorem dX7_fault_1 : decode cX7_fault 1 = .ok (.getfield 13, 3) := by decide +kernel
theorem dX7_fault_4 : decode cX7_fault 4 = .ok (.iconst 1, 1) := by decide +kernel
theorem dX7_fault_5 : decode cX7_fault 5 = .ok (.iconst 0, 1) := by decide +kernel
theorem dX7_fault_6 : decode cX7_fault 6 = .ok (.iastore, 1) := by decide +kernel
theorem dX7_fault_7 : decode cX7_fault 7 = .ok (.aload_n 0, 1) := by decide +kernel
theorem dX7_fault_8 : decode cX7_fault 8 = .ok (.getfield 17, 3) := by decide +kernel
theorem dX7_fault_11 : decode cX7_fault 11 = .ok (.iconst 1, 1) := by decide +kernel
theorem dX7_fault_12 : decode cX7_fault 12 = .ok (.bipush 18, 2) := by decide +kernel
theorem dX7_fault_14 : decode cX7_fault 14 = .ok (.iastore, 1) := by decide +kernel
theorem dX7_fault_15 : decode cX7_fault 15 = .ok (.aload_n 0, 1) := by decide +kernel
theorem dX7_fault_16 : decode cX7_fault 16 = .ok (.getfield 20, 3) := by decide +kernel
theorem dX7_fault_19 : decode cX7_fault 19 = .ok (.iconst 1, 1) := by decide +kernel
theorem dX7_fault_20 : decode cX7_fault 20 = .ok (.iconst 3, 1) := by decide +kernel
theorem dX7_fault_21 : decode cX7_fault 21 = .ok (.iastore, 1) := by decide +kernel
theorem dX7_fault_22 : decode cX7_fault 22 = .ok (.aload_n 0, 1) := by decide +kernel
theorem dX7_fault_23 : decode cX7_fault 23 = .ok (.getfield 23, 3) := by decide +kernel
theorem dX7_fault_26 : decode cX7_fault 26 = .ok (.iconst 1, 1) := by decide +kernel
theorem dX7_fault_27 : decode cX7_fault 27 = .ok (.bipush 8, 2) := by decide +kernel
theorem dX7_fault_29 : decode cX7_fault 29 = .ok (.iastore, 1) := by decide +kernel
theorem dX7_fault_30 : decode cX7_fault 30 = .ok (.aload_n 0, 1) := by decide +kernel
theorem dX7_fault_31 : decode cX7_fault 31 = .ok (.getfield 26, 3) := by decide +kernel
theorem dX7_fault_34 : decode cX7_fault 34 = .ok (.iconst 1, 1) := by decide +kernel
theorem dX7_fault_35 : decode cX7_fault 35 = .ok (.bipush 12, 2) := by decide +kernel
theorem dX7_fault_37 : decode cX7_fault 37 = .ok (.iastore, 1) := by decide +kernel
theorem dX7_fault_38 : decode cX7_fault 38 = .ok (.aload_n 0, 1) := by decide +kernel
theorem dX7_fault_39 : decode cX7_fault 39 = .ok (.iconst 0, 1) := by decide +kernel
theorem dX7_fault_40 : decode cX7_fault 40 = .ok (.putfield 86, 3) := by decide +kernel
theorem dX7_fault_43 : decode cX7_fault 43 = .ok (.aload_n 0, 1) := by decide +kernel
theorem dX7_fault_44 : decode cX7_fault 44 = .ok (.getfield 86, 3) := by decide +kernel
theorem dX7_fault_47 : decode cX7_fault 47 = .ok (.aload_n 0, 1) := by decide +kernel
theorem dX7_fault_48 : decode cX7_fault 48 = .ok (.getfield 82, 3) := by decide +kernel
theorem dX7_fault_51 : decode cX7_fault 51 = .ok (.if_icmp .ge 29, 3) := by decide +kernel
theorem dX7_fault_54 : decode cX7_fault 54 = .ok (.aload_n 0, 1) := by decide +kernel
theorem dX7_fault_55 : decode cX7_fault 55 = .ok (.getfield 86, 3) := by decide +kernel
theorem dX7_fault_58 : decode cX7_fault 58 = .ok (.istore_n 1, 1) := by decide +kernel
theorem dX7_fault_59 : decode cX7_fault 59 = .ok (.aload_n 0, 1) := by decide +kernel
theorem dX7_fault_60 : decode cX7_fault 60 = .ok (.iconst 1, 1) := by decide +kernel
theorem dX7_fault_61 : decode cX7_fault 61 = .ok (.putfield 93, 3) := by decide +kernel
theorem dX7_fault_64 : decode cX7_fault 64 = .ok (.aload_n 0, 1) := by decide +kernel
theorem dX7_fault_65 : decode cX7_fault 65 = .ok (.invokevirtual 105, 3) := by decide +kernel
theorem dX7_fault_68 : decode cX7_fault 68 = .ok (.aload_n 0, 1) := by decide +kernel
theorem dX7_fault_69 : decode cX7_fault 69 = .ok (.getfield 93, 3) := by decide +kernel
theorem dX7_fault_72 : decode cX7_fault 72 = .ok (.ifCond .ne 5, 3) := by decide +kernel
theorem dX7_fault_75 : decode cX7_fault 75 = .ok (.iload_n 1, 1) := by decide +kernel
theorem dX7_fault_76 : decode cX7_fault 76 = .ok (.ireturn, 1) := by decide +kernel
theorem dX7_fault_77 : decode cX7_fault 77 = .ok (.goto (-34), 3) := by decide +kernel
theorem dX7_fault_80 : decode cX7_fault 80 = .ok (.bipush (-4), 2) := by decide +kernel
theorem dX7_fault_82 : decode cX7_fault 82 = .ok (.ireturn, 1) := by decide +kernel
theorem dX7_takeDraft_0 : decode cX7_takeDraft 0 = .ok (.aload_n 0, 1) := by decide +kernel
theorem dX7_takeDraft_1 : decode cX7_takeDraft 1 = .ok (.getfield 13, 3) := by decide +kernel
theorem dX7_takeDraft_4 : decode cX7_takeDraft 4 = .ok (.iconst 0, 1) := by decide +kernel
theorem dX7_takeDraft_5 : decode cX7_takeDraft 5 = .ok (.aload_n 0, 1) := by decide +kernel
theorem dX7_takeDraft_6 : decode cX7_takeDraft 6 = .ok (.getfield 13, 3) := by decide +kernel
theorem dX7_takeDraft_9 : decode cX7_takeDraft 9 = .ok (.iconst 1, 1) := by decide +kernel
theorem dX7_takeDraft_10 : decode cX7_takeDraft 10 = .ok (.iaload, 1) := by decide +kernel
theorem dX7_takeDraft_11 : decode cX7_takeDraft 11 = .ok (.iastore, 1) := by decide +kernel
theorem dX7_takeDraft_12 : decode cX7_takeDraft 12 = .ok (.aload_n 0, 1) := by decide +kernel
theorem dX7_takeDraft_13 : decode cX7_takeDraft 13 = .ok (.getfield 17, 3) := by decide +kernel
theorem dX7_takeDraft_16 : decode cX7_takeDraft 16 = .ok (.iconst 0, 1) := by decide +kernel
theorem dX7_takeDraft_17 : decode cX7_takeDraft 17 = .ok (.aload_n 0, 1) := by decide +kernel
theorem dX7_takeDraft_18 : decode cX7_takeDraft 18 = .ok (.getfield 17, 3) := by decide +kernel
theorem dX7_takeDraft_21 : decode cX7_takeDraft 21 = .ok (.iconst 1, 1) := by decide +kernel
theorem dX7_takeDraft_22 : decode cX7_takeDraft 22 = .ok (.iaload, 1) := by decide +kernel
theorem dX7_takeDraft_23 : decode cX7_takeDraft 23 = .ok (.iastore, 1) := by decide +kernel
theorem dX7_takeDraft_24 : decode cX7_takeDraft 24 = .ok (.aload_n 0, 1) := by decide +kernel
theorem dX7_takeDraft_25 : decode cX7_takeDraft 25 = .ok (.getfield 26, 3) := by decide +kernel
theorem dX7_takeDraft_28 : decode cX7_takeDraft 28 = .ok (.iconst 0, 1) := by decide +kernel
theorem dX7_takeDraft_29 : decode cX7_takeDraft 29 = .ok (.aload_n 0, 1) := by decide +kernel
theorem dX7_takeDraft_30 : decode cX7_takeDraft 30 = .ok (.getfield 26, 3) := by decide +kernel
theorem dX7_takeDraft_33 : decode cX7_takeDraft 33 = .ok (.iconst 1, 1) := by decide +kernel
theorem dX7_takeDraft_34 : decode cX7_takeDraft 34 = .ok (.iaload, 1) := by decide +kernel
theorem dX7_takeDraft_35 : decode cX7_takeDraft 35 = .ok (.iastore, 1) := by decide +kernel
theorem dX7_takeDraft_36 : decode cX7_takeDraft 36 = .ok (.iconst 0, 1) := by decide +kernel
theorem dX7_takeDraft_37 : decode cX7_takeDraft 37 = .ok (.istore_n 1, 1) := by decide +kernel
theorem dX7_takeDraft_38 : decode cX7_takeDraft 38 = .ok (.iload_n 1, 1) := by decide +kernel
theorem dX7_takeDraft_39 : decode cX7_takeDraft 39 = .ok (.bipush 9, 2) := by decide +kernel
theorem dX7_takeDraft_41 : decode cX7_takeDraft 41 = .ok (.if_icmp .ge 54, 3) := by decide +kernel
theorem dX7_takeDraft_44 : decode cX7_takeDraft 44 = .ok (.aload_n 0, 1) := by decide +kernel
theorem dX7_takeDraft_45 : decode cX7_takeDraft 45 = .ok (.getfield 29, 3) := by decide +kernel
theorem dX7_takeDraft_48 : decode cX7_takeDraft 48 = .ok (.iload_n 1, 1) := by decide +kernel
theorem dX7_takeDraft_49 : decode cX7_takeDraft 49 = .ok (.aload_n 0, 1) := by decide +kernel
theorem dX7_takeDraft_50 : decode cX7_takeDraft 50 = .ok (.getfield 29, 3) := by decide +kernel
theorem dX7_takeDraft_53 : decode cX7_takeDraft 53 = .ok (.bipush 9, 2) := by decide +kernel
theorem dX7_takeDraft_55 : decode cX7_takeDraft 55 = .ok (.iload_n 1, 1) := by decide +kernel
theorem dX7_takeDraft_56 : decode cX7_takeDraft 56 = .ok (.iadd, 1) := by decide +kernel
theorem dX7_takeDraft_57 : decode cX7_takeDraft 57 = .ok (.iaload, 1) := by decide +kernel
theorem dX7_takeDraft_58 : decode cX7_takeDraft 58 = .ok (.iastore, 1) := by decide +kernel
theorem dX7_takeDraft_59 : decode cX7_takeDraft 59 = .ok (.aload_n 0, 1) := by decide +kernel
theorem dX7_takeDraft_60 : decode cX7_takeDraft 60 = .ok (.getfield 32, 3) := by decide +kernel
theorem dX7_takeDraft_63 : decode cX7_takeDraft 63 = .ok (.iload_n 1, 1) := by decide +kernel
theorem dX7_takeDraft_64 : decode cX7_takeDraft 64 = .ok (.aload_n 0, 1) := by decide +kernel
theorem dX7_takeDraft_65 : decode cX7_takeDraft 65 = .ok (.getfield 32, 3) := by decide +kernel
theorem dX7_takeDraft_68 : decode cX7_takeDraft 68 = .ok (.bipush 9, 2) := by decide +kernel
theorem dX7_takeDraft_70 : decode cX7_takeDraft 70 = .ok (.iload_n 1, 1) := by decide +kernel
theorem dX7_takeDraft_71 : decode cX7_takeDraft 71 = .ok (.iadd, 1) := by decide +kernel
theorem dX7_takeDraft_72 : decode cX7_takeDraft 72 = .ok (.iaload, 1) := by decide +kernel
theorem dX7_takeDraft_73 : decode cX7_takeDraft 73 = .ok (.iastore, 1) := by decide +kernel
theorem dX7_takeDraft_74 : decode cX7_takeDraft 74 = .ok (.aload_n 0, 1) := by decide +kernel
theorem dX7_takeDraft_75 : decode cX7_takeDraft 75 = .ok (.getfield 35, 3) := by decide +kernel
theorem dX7_takeDraft_78 : decode cX7_takeDraft 78 = .ok (.iload_n 1, 1) := by decide +kernel
theorem dX7_takeDraft_79 : decode cX7_takeDraft 79 = .ok (.aload_n 0, 1) := by decide +kernel
theorem dX7_takeDraft_80 : decode cX7_takeDraft 80 = .ok (.getfield 35, 3) := by decide +kernel
theorem dX7_takeDraft_83 : decode cX7_takeDraft 83 = .ok (.bipush 9, 2) := by decide +kernel
theorem dX7_takeDraft_85 : decode cX7_takeDraft 85 = .ok (.iload_n 1, 1) := by decide +kernel
theorem dX7_takeDraft_86 : decode cX7_takeDraft 86 = .ok (.iadd, 1) := by decide +kernel
theorem dX7_takeDraft_87 : decode cX7_takeDraft 87 = .ok (.iaload, 1) := by decide +kernel
theorem dX7_takeDraft_88 : decode cX7_takeDraft 88 = .ok (.iastore, 1) := by decide +kernel
theorem dX7_takeDraft_89 : decode cX7_takeDraft 89 = .ok (.iinc 1 1, 3) := by decide +kernel
theorem dX7_takeDraft_92 : decode cX7_takeDraft 92 = .ok (.goto (-54), 3) := by decide +kernel
theorem dX7_takeDraft_95 : decode cX7_takeDraft 95 = .ok (.iconst 0, 1) := by decide +kernel
theorem dX7_takeDraft_96 : decode cX7_takeDraft 96 = .ok (.istore_n 1, 1) := by decide +kernel
theorem dX7_takeDraft_97 : decode cX7_takeDraft 97 = .ok (.iload_n 1, 1) := by decide +kernel
theorem dX7_takeDraft_98 : decode cX7_takeDraft 98 = .ok (.bipush 48, 2) := by decide +kernel
theorem dX7_takeDraft_100 : decode cX7_takeDraft 100 = .ok (.if_icmp .ge 16, 3) := by decide +kernel
theorem dX7_takeDraft_103 : decode cX7_takeDraft 103 = .ok (.aload_n 0, 1) := by decide +kernel
theorem dX7_takeDraft_104 : decode cX7_takeDraft 104 = .ok (.getfield 41, 3) := by decide +kernel
theorem dX7_takeDraft_107 : decode cX7_takeDraft 107 = .ok (.iload_n 1, 1) := by decide +kernel
theorem dX7_takeDraft_108 : decode cX7_takeDraft 108 = .ok (.iconst 0, 1) := by decide +kernel
theorem dX7_takeDraft_109 : decode cX7_takeDraft 109 = .ok (.iastore, 1) := by decide +kernel
theorem dX7_takeDraft_110 : decode cX7_takeDraft 110 = .ok (.iinc 1 1, 3) := by decide +kernel
theorem dX7_takeDraft_113 : decode cX7_takeDraft 113 = .ok (.goto (-16), 3) := by decide +kernel
theorem dX7_takeDraft_116 : decode cX7_takeDraft 116 = .ok (.iconst 0, 1) := by decide +kernel
theorem dX7_takeDraft_117 : decode cX7_takeDraft 117 = .ok (.istore_n 1, 1) := by decide +kernel
theorem dX7_takeDraft_118 : decode cX7_takeDraft 118 = .ok (.iload_n 1, 1) := by decide +kernel
theorem dX7_takeDraft_119 : decode cX7_takeDraft 119 = .ok (.bipush 9, 2) := by decide +kernel
theorem dX7_takeDraft_121 : decode cX7_takeDraft 121 = .ok (.if_icmp .ge 20, 3) := by decide +kernel
theorem dX7_takeDraft_124 : decode cX7_takeDraft 124 = .ok (.aload_n 0, 1) := by decide +kernel
theorem dX7_takeDraft_125 : decode cX7_takeDraft 125 = .ok (.getfield 41, 3) := by decide +kernel
theorem dX7_takeDraft_128 : decode cX7_takeDraft 128 = .ok (.bipush 39, 2) := by decide +kernel
theorem dX7_takeDraft_130 : decode cX7_takeDraft 130 = .ok (.iload_n 1, 1) := by decide +kernel
theorem dX7_takeDraft_131 : decode cX7_takeDraft 131 = .ok (.iadd, 1) := by decide +kernel
theorem dX7_takeDraft_132 : decode cX7_takeDraft 132 = .ok (.bipush (-4), 2) := by decide +kernel
theorem dX7_takeDraft_134 : decode cX7_takeDraft 134 = .ok (.iastore, 1) := by decide +kernel
theorem dX7_takeDraft_135 : decode cX7_takeDraft 135 = .ok (.iinc 1 1, 3) := by decide +kernel
theorem dX7_takeDraft_138 : decode cX7_takeDraft 138 = .ok (.goto (-20), 3) := by decide +kernel
theorem dX7_takeDraft_141 : decode cX7_takeDraft 141 = .ok (.aload_n 0, 1) := by decide +kernel
theorem dX7_takeDraft_142 : decode cX7_takeDraft 142 = .ok (.getfield 41, 3) := by decide +kernel
theorem dX7_takeDraft_145 : decode cX7_takeDraft 145 = .ok (.iconst 0, 1) := by decide +kernel
theorem dX7_takeDraft_146 : decode cX7_takeDraft 146 = .ok (.aload_n 0, 1) := by decide +kernel
theorem dX7_takeDraft_147 : decode cX7_takeDraft 147 = .ok (.getfield 20, 3) := by decide +kernel
theorem dX7_takeDraft_150 : decode cX7_takeDraft 150 = .ok (.iconst 1, 1) := by decide +kernel
theorem dX7_takeDraft_151 : decode cX7_takeDraft 151 = .ok (.iaload, 1) := by decide +kernel
theorem dX7_takeDraft_152 : decode cX7_takeDraft 152 = .ok (.iastore, 1) := by decide +kernel
theorem dX7_takeDraft_153 : decode cX7_takeDraft 153 = .ok (.aload_n 0, 1) := by decide +kernel
theorem dX7_takeDraft_154 : decode cX7_takeDraft 154 = .ok (.getfield 41, 3) := by decide +kernel
theorem dX7_takeDraft_157 : decode cX7_takeDraft 157 = .ok (.iconst 1, 1) := by decide +kernel
theorem dX7_takeDraft_158 : decode cX7_takeDraft 158 = .ok (.aload_n 0, 1) := by decide +kernel
theorem dX7_takeDraft_159 : decode cX7_takeDraft 159 = .ok (.getfield 23, 3) := by decide +kernel
theorem dX7_takeDraft_162 : decode cX7_takeDraft 162 = .ok (.iconst 1, 1) := by decide +kernel
theorem dX7_takeDraft_163 : decode cX7_takeDraft 163 = .ok (.iaload, 1) := by decide +kernel
theorem dX7_takeDraft_164 : decode cX7_takeDraft 164 = .ok (.iastore, 1) := by decide +kernel
theorem dX7_takeDraft_165 : decode cX7_takeDraft 165 = .ok (.aload_n 0, 1) := by decide +kernel
theorem dX7_takeDraft_166 : decode cX7_takeDraft 166 = .ok (.iconst 0, 1) := by decide +kernel
theorem dX7_takeDraft_167 : decode cX7_takeDraft 167 = .ok (.putfield 108, 3) := by decide +kernel
theorem dX7_takeDraft_170 : decode cX7_takeDraft 170 = .ok (.aload_n 0, 1) := by decide +kernel
theorem dX7_takeDraft_171 : decode cX7_takeDraft 171 = .ok (.iconst 0, 1) := by decide +kernel
theorem dX7_takeDraft_172 : decode cX7_takeDraft 172 = .ok (.putfield 111, 3) := by decide +kernel
theorem dX7_takeDraft_175 : decode cX7_takeDraft 175 = .ok (.aload_n 0, 1) := by decide +kernel
theorem dX7_takeDraft_176 : decode cX7_takeDraft 176 = .ok (.iconst 0, 1) := by decide +kernel
theorem dX7_takeDraft_177 : decode cX7_takeDraft 177 = .ok (.putfield 114, 3) := by decide +kernel
theorem dX7_takeDraft_180 : decode cX7_takeDraft 180 = .ok (.return_, 1) := by decide +kernel
theorem dX7_lay_0 : decode cX7_lay 0 = .ok (.aload_n 0, 1) := by decide +kernel
theorem dX7_lay_1 : decode cX7_lay 1 = .ok (.invokevirtual 117, 3) := by decide +kernel
theorem dX7_lay_4 : decode cX7_lay 4 = .ok (.bipush (-4), 2) := by decide +kernel
theorem dX7_lay_6 : decode cX7_lay 6 = .ok (.if_icmp .ne 12, 3) := by decide +kernel
theorem dX7_lay_9 : decode cX7_lay 9 = .ok (.aload_n 0, 1) := by decide +kernel
theorem dX7_lay_10 : decode cX7_lay 10 = .ok (.getfield 13, 3) := by decide +kernel
theorem dX7_lay_13 : decode cX7_lay 13 = .ok (.iconst 1, 1) := by decide +kernel
theorem dX7_lay_14 : decode cX7_lay 14 = .ok (.iaload, 1) := by decide +kernel
theorem dX7_lay_15 : decode cX7_lay 15 = .ok (.ifCond .ne 6, 3) := by decide +kernel
theorem dX7_lay_18 : decode cX7_lay 18 = .ok (.bipush (-2), 2) := by decide +kernel
theorem dX7_lay_20 : decode cX7_lay 20 = .ok (.ireturn, 1) := by decide +kernel
theorem dX7_lay_21 : decode cX7_lay 21 = .ok (.aload_n 0, 1) := by decide +kernel
theorem dX7_lay_22 : decode cX7_lay 22 = .ok (.invokevirtual 75, 3) := by decide +kernel
theorem dX7_lay_25 : decode cX7_lay 25 = .ok (.aload_n 0, 1) := by decide +kernel
theorem dX7_lay_26 : decode cX7_lay 26 = .ok (.getfield 13, 3) := by decide +kernel
theorem dX7_lay_29 : decode cX7_lay 29 = .ok (.iconst 0, 1) := by decide +kernel
theorem dX7_lay_30 : decode cX7_lay 30 = .ok (.iaload, 1) := by decide +kernel
theorem dX7_lay_31 : decode cX7_lay 31 = .ok (.ireturn, 1) := by decide +kernel
theorem dX7_isGuest_0 : decode cX7_isGuest 0 = .ok (.iload_n 1, 1) := by decide +kernel
theorem dX7_isGuest_1 : decode cX7_isGuest 1 = .ok (.iconst 0, 1) := by decide +kernel
theorem dX7_isGuest_2 : decode cX7_isGuest 2 = .ok (.aload_n 0, 1) := by decide +kernel
theorem dX7_isGuest_3 : decode cX7_isGuest 3 = .ok (.getfield 13, 3) := by decide +kernel
theorem dX7_isGuest_6 : decode cX7_isGuest 6 = .ok (.iconst 0, 1) := by decide +kernel
theorem dX7_isGuest_7 : decode cX7_isGuest 7 = .ok (.iaload, 1) := by decide +kernel
theorem dX7_isGuest_8 : decode cX7_isGuest 8 = .ok (.iconst 1, 1) := by decide +kernel
theorem dX7_isGuest_9 : decode cX7_isGuest 9 = .ok (.isub, 1) := by decide +kernel
theorem dX7_isGuest_10 : decode cX7_isGuest 10 = .ok (.invokestatic 78, 3) := by decide +kernel
theorem dX7_isGuest_13 : decode cX7_isGuest 13 = .ok (.ireturn, 1) := by decide +kernel
theorem dX7_takeNow_0 : decode cX7_takeNow 0 = .ok (.iconst 0, 1) := by decide +kernel
theorem dX7_takeNow_1 : decode cX7_takeNow 1 = .ok (.istore_n 1, 1) := by decide +kernel
theorem dX7_takeNow_2 : decode cX7_takeNow 2 = .ok (.iload_n 1, 1) := by decide +kernel
theorem dX7_takeNow_3 : decode cX7_takeNow 3 = .ok (.bipush 48, 2) := by decide +kernel
theorem dX7_takeNow_5 : decode cX7_takeNow 5 = .ok (.if_icmp .ge 21, 3) := by decide +kernel
theorem dX7_takeNow_8 : decode cX7_takeNow 8 = .ok (.aload_n 0, 1) := by decide +kernel
theorem dX7_takeNow_9 : decode cX7_takeNow 9 = .ok (.getfield 44, 3) := by decide +kernel
theorem dX7_takeNow_12 : decode cX7_takeNow 12 = .ok (.iload_n 1, 1) := by decide +kernel
theorem dX7_takeNow_13 : decode cX7_takeNow 13 = .ok (.aload_n 0, 1) := by decide +kernel
theorem dX7_takeNow_14 : decode cX7_takeNow 14 = .ok (.getfield 41, 3) := by decide +kernel
theorem dX7_takeNow_17 : decode cX7_takeNow 17 = .ok (.iload_n 1, 1) := by decide +kernel
theorem dX7_takeNow_18 : decode cX7_takeNow 18 = .ok (.iaload, 1) := by decide +kernel
theorem dX7_takeNow_19 : decode cX7_takeNow 19 = .ok (.iastore, 1) := by decide +kernel
theorem dX7_takeNow_20 : decode cX7_takeNow 20 = .ok (.iinc 1 1, 3) := by decide +kernel
theorem dX7_takeNow_23 : decode cX7_takeNow 23 = .ok (.goto (-21), 3) := by decide +kernel
theorem dX7_takeNow_26 : decode cX7_takeNow 26 = .ok (.return_, 1) := by decide +kernel
theorem dX7_manyIn_0 : decode cX7_manyIn 0 = .ok (.iconst 0, 1) := by decide +kernel
theorem dX7_manyIn_1 : decode cX7_manyIn 1 = .ok (.istore_n 3, 1) := by decide +kernel
theorem dX7_manyIn_2 : decode cX7_manyIn 2 = .ok (.iconst 0, 1) := by decide +kernel
theorem dX7_manyIn_3 : decode cX7_manyIn 3 = .ok (.istore 4, 2) := by decide +kernel
theorem dX7_manyIn_5 : decode cX7_manyIn 5 = .ok (.iload 4, 2) := by decide +kernel
theorem dX7_manyIn_7 : decode cX7_manyIn 7 = .ok (.aload_n 0, 1) := by decide +kernel
theorem dX7_manyIn_8 : decode cX7_manyIn 8 = .ok (.getfield 13, 3) := by decide +kernel
theorem dX7_manyIn_11 : decode cX7_manyIn 11 = .ok (.iconst 0, 1) := by decide +kernel
theorem dX7_manyIn_12 : decode cX7_manyIn 12 = .ok (.iaload, 1) := by decide +kernel
theorem dX7_manyIn_13 : decode cX7_manyIn 13 = .ok (.if_icmp .ge 27, 3) := by decide +kernel
theorem dX7_manyIn_16 : decode cX7_manyIn 16 = .ok (.iload_n 3, 1) := by decide +kernel
theorem dX7_manyIn_17 : decode cX7_manyIn 17 = .ok (.aload_n 1, 1) := by decide +kernel
theorem dX7_manyIn_18 : decode cX7_manyIn 18 = .ok (.iconst 3, 1) := by decide +kernel
theorem dX7_manyIn_19 : decode cX7_manyIn 19 = .ok (.iload 4, 2) := by decide +kernel
theorem dX7_manyIn_21 : decode cX7_manyIn 21 = .ok (.iadd, 1) := by decide +kernel
theorem dX7_manyIn_22 : decode cX7_manyIn 22 = .ok (.iaload, 1) := by decide +kernel
theorem dX7_manyIn_23 : decode cX7_manyIn 23 = .ok (.iload_n 2, 1) := by decide +kernel
theorem dX7_manyIn_24 : decode cX7_manyIn 24 = .ok (.if_icmp .ne 7, 3) := by decide +kernel
theorem dX7_manyIn_27 : decode cX7_manyIn 27 = .ok (.iconst 1, 1) := by decide +kernel
theorem dX7_manyIn_28 : decode cX7_manyIn 28 = .ok (.goto 4, 3) := by decide +kernel
theorem dX7_manyIn_31 : decode cX7_manyIn 31 = .ok (.iconst 0, 1) := by decide +kernel
theorem dX7_manyIn_32 : decode cX7_manyIn 32 = .ok (.iadd, 1) := by decide +kernel
theorem dX7_manyIn_33 : decode cX7_manyIn 33 = .ok (.istore_n 3, 1) := by decide +kernel
theorem dX7_manyIn_34 : decode cX7_manyIn 34 = .ok (.iinc 4 1, 3) := by decide +kernel
theorem dX7_manyIn_37 : decode cX7_manyIn 37 = .ok (.goto (-32), 3) := by decide +kernel
theorem dX7_manyIn_40 : decode cX7_manyIn 40 = .ok (.iload_n 3, 1) := by decide +kernel
theorem dX7_manyIn_41 : decode cX7_manyIn 41 = .ok (.ireturn, 1) := by decide +kernel
theorem dX7_isRightFor_0 : decode cX7_isRightFor 0 = .ok (.aload_n 1, 1) := by decide +kernel
theorem dX7_isRightFor_1 : decode cX7_isRightFor 1 = .ok (.bipush 30, 2) := by decide +kernel
theorem dX7_isRightFor_3 : decode cX7_isRightFor 3 = .ok (.iload_n 3, 1) := by decide +kernel
theorem dX7_isRightFor_4 : decode cX7_isRightFor 4 = .ok (.iadd, 1) := by decide +kernel
theorem dX7_isRightFor_5 : decode cX7_isRightFor 5 = .ok (.iaload, 1) := by decide +kernel
theorem dX7_isRightFor_6 : decode cX7_isRightFor 6 = .ok (.aload_n 0, 1) := by decide +kernel
theorem dX7_isRightFor_7 : decode cX7_isRightFor 7 = .ok (.getfield 32, 3) := by decide +kernel
theorem dX7_isRightFor_10 : decode cX7_isRightFor 10 = .ok (.iload_n 2, 1) := by decide +kernel
theorem dX7_isRightFor_11 : decode cX7_isRightFor 11 = .ok (.iaload, 1) := by decide +kernel
theorem dX7_isRightFor_12 : decode cX7_isRightFor 12 = .ok (.aload_n 0, 1) := by decide +kernel
theorem dX7_isRightFor_13 : decode cX7_isRightFor 13 = .ok (.getfield 35, 3) := by decide +kernel
theorem dX7_isRightFor_16 : decode cX7_isRightFor 16 = .ok (.iload_n 2, 1) := by decide +kernel
theorem dX7_isRightFor_17 : decode cX7_isRightFor 17 = .ok (.iaload, 1) := by decide +kernel
theorem dX7_isRightFor_18 : decode cX7_isRightFor 18 = .ok (.invokestatic 78, 3) := by decide +kernel
theorem dX7_isRightFor_21 : decode cX7_isRightFor 21 = .ok (.ireturn, 1) := by decide +kernel
theorem dX7_browner_0 : decode cX7_browner 0 = .ok (.iload_n 0, 1) := by decide +kernel
theorem dX7_browner_1 : decode cX7_browner 1 = .ok (.tableswitch 46 0 2 #[27, 29, 33], 27) := by decide +kernel
theorem dX7_browner_28 : decode cX7_browner 28 = .ok (.iload_n 1, 1) := by decide +kernel
theorem dX7_browner_29 : decode cX7_browner 29 = .ok (.ireturn, 1) := by decide +kernel
theorem dX7_browner_30 : decode cX7_browner 30 = .ok (.iload_n 1, 1) := by decide +kernel
theorem dX7_browner_31 : decode cX7_browner 31 = .ok (.iconst 2, 1) := by decide +kernel
theorem dX7_browner_32 : decode cX7_browner 32 = .ok (.idiv, 1) := by decide +kernel
theorem dX7_browner_33 : decode cX7_browner 33 = .ok (.ireturn, 1) := by decide +kernel
theorem dX7_browner_34 : decode cX7_browner 34 = .ok (.iload_n 1, 1) := by decide +kernel
theorem dX7_browner_35 : decode cX7_browner 35 = .ok (.iconst 3, 1) := by decide +kernel
theorem dX7_browner_36 : decode cX7_browner 36 = .ok (.if_icmp .ge 7, 3) := by decide +kernel
theorem dX7_browner_39 : decode cX7_browner 39 = .ok (.iconst 0, 1) := by decide +kernel
theorem dX7_browner_40 : decode cX7_browner 40 = .ok (.goto 6, 3) := by decide +kernel
theorem dX7_browner_43 : decode cX7_browner 43 = .ok (.iload_n 1, 1) := by decide +kernel
theorem dX7_browner_44 : decode cX7_browner 44 = .ok (.iconst 3, 1) := by decide +kernel
theorem dX7_browner_45 : decode cX7_browner 45 = .ok (.isub, 1) := by decide +kernel
theorem dX7_browner_46 : decode cX7_browner 46 = .ok (.ireturn, 1) := by decide +kernel
theorem dX7_browner_47 : decode cX7_browner 47 = .ok (.iconst 2, 1) := by decide +kernel
theorem dX7_browner_48 : decode cX7_browner 48 = .ok (.iload_n 1, 1) := by decide +kernel
theorem dX7_browner_49 : decode cX7_browner 49 = .ok (.imul, 1) := by decide +kernel
theorem dX7_browner_50 : decode cX7_browner 50 = .ok (.ireturn, 1) := by decide +kernel
theorem dX7_moment_0 : decode cX7_moment 0 = .ok (.aload_n 0, 1) := by decide +kernel
theorem dX7_moment_1 : decode cX7_moment 1 = .ok (.aload_n 1, 1) := by decide +kernel
theorem dX7_moment_2 : decode cX7_moment 2 = .ok (.iconst 1, 1) := by decide +kernel
theorem dX7_moment_3 : decode cX7_moment 3 = .ok (.invokevirtual 120, 3) := by decide +kernel
theorem dX7_moment_6 : decode cX7_moment 6 = .ok (.istore_n 2, 1) := by decide +kernel
theorem dX7_moment_7 : decode cX7_moment 7 = .ok (.iconst 0, 1) := by decide +kernel
theorem dX7_moment_8 : decode cX7_moment 8 = .ok (.istore_n 3, 1) := by decide +kernel
theorem dX7_moment_9 : decode cX7_moment 9 = .ok (.iconst 0, 1) := by decide +kernel
theorem dX7_moment_10 : decode cX7_moment 10 = .ok (.istore 4, 2) := by decide +kernel
theorem dX7_moment_12 : decode cX7_moment 12 = .ok (.iload 4, 2) := by decide +kernel
theorem dX7_moment_14 : decode cX7_moment 14 = .ok (.aload_n 0, 1) := by decide +kernel
theorem dX7_moment_15 : decode cX7_moment 15 = .ok (.getfield 13, 3) := by decide +kernel
theorem dX7_moment_18 : decode cX7_moment 18 = .ok (.iconst 0, 1) := by decide +kernel
theorem dX7_moment_19 : decode cX7_moment 19 = .ok (.iaload, 1) := by decide +kernel
theorem dX7_moment_20 : decode cX7_moment 20 = .ok (.if_icmp .ge 97, 3) := by decide +kernel
theorem dX7_moment_23 : decode cX7_moment 23 = .ok (.aload_n 1, 1) := by decide +kernel
theorem dX7_moment_24 : decode cX7_moment 24 = .ok (.iconst 3, 1) := by decide +kernel
theorem dX7_moment_25 : decode cX7_moment 25 = .ok (.iload 4, 2) := by decide +kernel
theorem dX7_moment_27 : decode cX7_moment 27 = .ok (.iadd, 1) := by decide +kernel
theorem dX7_moment_28 : decode cX7_moment 28 = .ok (.iaload, 1) := by decide +kernel
theorem dX7_moment_29 : decode cX7_moment 29 = .ok (.iconst 1, 1) := by decide +kernel
theorem dX7_moment_30 : decode cX7_moment 30 = .ok (.if_icmp .ne 81, 3) := by decide +kernel
theorem dX7_moment_33 : decode cX7_moment 33 = .ok (.aload_n 1, 1) := by decide +kernel
theorem dX7_moment_34 : decode cX7_moment 34 = .ok (.bipush 30, 2) := by decide +kernel
theorem dX7_moment_36 : decode cX7_moment 36 = .ok (.iload 4, 2) := by decide +kernel
theorem dX7_moment_38 : decode cX7_moment 38 = .ok (.iadd, 1) := by decide +kernel
theorem dX7_moment_39 : decode cX7_moment 39 = .ok (.dup2, 1) := by decide +kernel
theorem dX7_moment_40 : decode cX7_moment 40 = .ok (.iaload, 1) := by decide +kernel
theorem dX7_moment_41 : decode cX7_moment 41 = .ok (.aload_n 0, 1) := by decide +kernel
theorem dX7_moment_42 : decode cX7_moment 42 = .ok (.getfield 29, 3) := by decide +kernel
theorem dX7_moment_45 : decode cX7_moment 45 = .ok (.iload 4, 2) := by decide +kernel
theorem dX7_moment_47 : decode cX7_moment 47 = .ok (.iaload, 1) := by decide +kernel
theorem dX7_moment_48 : decode cX7_moment 48 = .ok (.aload_n 1, 1) := by decide +kernel
theorem dX7_moment_49 : decode cX7_moment 49 = .ok (.iconst 1, 1) := by decide +kernel
theorem dX7_moment_50 : decode cX7_moment 50 = .ok (.iaload, 1) := by decide +kernel
theorem dX7_moment_51 : decode cX7_moment 51 = .ok (.aload_n 1, 1) := by decide +kernel
theorem dX7_moment_52 : decode cX7_moment 52 = .ok (.bipush 12, 2) := by decide +kernel
theorem dX7_moment_54 : decode cX7_moment 54 = .ok (.iload 4, 2) := by decide +kernel
theorem dX7_moment_56 : decode cX7_moment 56 = .ok (.iadd, 1) := by decide +kernel
theorem dX7_moment_57 : decode cX7_moment 57 = .ok (.iaload, 1) := by decide +kernel
theorem dX7_moment_58 : decode cX7_moment 58 = .ok (.ifCond .ne 7, 3) := by decide +kernel
theorem dX7_moment_61 : decode cX7_moment 61 = .ok (.iconst 2, 1) := by decide +kernel
theorem dX7_moment_62 : decode cX7_moment 62 = .ok (.goto 4, 3) := by decide +kernel
theorem dX7_moment_65 : decode cX7_moment 65 = .ok (.iconst 0, 1) := by decide +kernel
theorem dX7_moment_66 : decode cX7_moment 66 = .ok (.iadd, 1) := by decide +kernel
theorem dX7_moment_67 : decode cX7_moment 67 = .ok (.invokestatic 124, 3) := by decide +kernel
theorem dX7_moment_70 : decode cX7_moment 70 = .ok (.iadd, 1) := by decide +kernel
theorem dX7_moment_71 : decode cX7_moment 71 = .ok (.iastore, 1) := by decide +kernel
theorem dX7_moment_72 : decode cX7_moment 72 = .ok (.aload_n 1, 1) := by decide +kernel
theorem dX7_moment_73 : decode cX7_moment 73 = .ok (.bipush 21, 2) := by decide +kernel
theorem dX7_moment_75 : decode cX7_moment 75 = .ok (.iload 4, 2) := by decide +kernel
theorem dX7_moment_77 : decode cX7_moment 77 = .ok (.iadd, 1) := by decide +kernel
theorem dX7_moment_78 : decode cX7_moment 78 = .ok (.dup2, 1) := by decide +kernel
theorem dX7_moment_79 : decode cX7_moment 79 = .ok (.iaload, 1) := by decide +kernel
theorem dX7_moment_80 : decode cX7_moment 80 = .ok (.aload_n 1, 1) := by decide +kernel
theorem dX7_moment_81 : decode cX7_moment 81 = .ok (.iconst 0, 1) := by decide +kernel
theorem dX7_moment_82 : decode cX7_moment 82 = .ok (.iaload, 1) := by decide +kernel
theorem dX7_moment_83 : decode cX7_moment 83 = .ok (.iadd, 1) := by decide +kernel
theorem dX7_moment_84 : decode cX7_moment 84 = .ok (.iastore, 1) := by decide +kernel
theorem dX7_moment_85 : decode cX7_moment 85 = .ok (.aload_n 1, 1) := by decide +kernel
theorem dX7_moment_86 : decode cX7_moment 86 = .ok (.bipush 21, 2) := by decide +kernel
theorem dX7_moment_88 : decode cX7_moment 88 = .ok (.iload 4, 2) := by decide +kernel
theorem dX7_moment_90 : decode cX7_moment 90 = .ok (.iadd, 1) := by decide +kernel
theorem dX7_moment_91 : decode cX7_moment 91 = .ok (.iaload, 1) := by decide +kernel
theorem dX7_moment_92 : decode cX7_moment 92 = .ok (.aload_n 0, 1) := by decide +kernel
theorem dX7_moment_93 : decode cX7_moment 93 = .ok (.getfield 17, 3) := by decide +kernel
theorem dX7_moment_96 : decode cX7_moment 96 = .ok (.iconst 0, 1) := by decide +kernel
theorem dX7_moment_97 : decode cX7_moment 97 = .ok (.iaload, 1) := by decide +kernel
theorem dX7_moment_98 : decode cX7_moment 98 = .ok (.if_icmp .lt 13, 3) := by decide +kernel
theorem dX7_moment_101 : decode cX7_moment 101 = .ok (.aload_n 1, 1) := by decide +kernel
theorem dX7_moment_102 : decode cX7_moment 102 = .ok (.iconst 3, 1) := by decide +kernel
theorem dX7_moment_103 : decode cX7_moment 103 = .ok (.iload 4, 2) := by decide +kernel
theorem dX7_moment_105 : decode cX7_moment 105 = .ok (.iadd, 1) := by decide +kernel
theorem dX7_moment_106 : decode cX7_moment 106 = .ok (.iconst 2, 1) := by decide +kernel
theorem dX7_moment_107 : decode cX7_moment 107 = .ok (.iastore, 1) := by decide +kernel
theorem dX7_moment_108 : decode cX7_moment 108 = .ok (.iinc 3 1, 3) := by decide +kernel
theorem dX7_moment_111 : decode cX7_moment 111 = .ok (.iinc 4 1, 3) := by decide +kernel
theorem dX7_moment_114 : decode cX7_moment 114 = .ok (.goto (-102), 3) := by decide +kernel
theorem dX7_moment_117 : decode cX7_moment 117 = .ok (.iload_n 2, 1) := by decide +kernel
theorem dX7_moment_118 : decode cX7_moment 118 = .ok (.ifCond .ne 29, 3) := by decide +kernel
theorem dX7_moment_121 : decode cX7_moment 121 = .ok (.aload_n 1, 1) := by decide +kernel
theorem dX7_moment_122 : decode cX7_moment 122 = .ok (.iconst 1, 1) := by decide +kernel
theorem dX7_moment_123 : decode cX7_moment 123 = .ok (.dup2, 1) := by decide +kernel
theorem dX7_moment_124 : decode cX7_moment 124 = .ok (.iaload, 1) := by decide +kernel
theorem dX7_moment_125 : decode cX7_moment 125 = .ok (.aload_n 1, 1) := by decide +kernel
theorem dX7_moment_126 : decode cX7_moment 126 = .ok (.iconst 1, 1) := by decide +kernel
theorem dX7_moment_127 : decode cX7_moment 127 = .ok (.iaload, 1) := by decide +kernel
theorem dX7_moment_128 : decode cX7_moment 128 = .ok (.aload_n 0, 1) := by decide +kernel
theorem dX7_moment_129 : decode cX7_moment 129 = .ok (.getfield 26, 3) := by decide +kernel
theorem dX7_moment_132 : decode cX7_moment 132 = .ok (.iconst 0, 1) := by decide +kernel
theorem dX7_moment_133 : decode cX7_moment 133 = .ok (.iaload, 1) := by decide +kernel
theorem dX7_moment_134 : decode cX7_moment 134 = .ok (.if_icmp .ge 7, 3) := by decide +kernel
theorem dX7_moment_137 : decode cX7_moment 137 = .ok (.iconst 1, 1) := by decide +kernel
theorem dX7_moment_138 : decode cX7_moment 138 = .ok (.goto 4, 3) := by decide +kernel
theorem dX7_moment_141 : decode cX7_moment 141 = .ok (.iconst 0, 1) := by decide +kernel
theorem dX7_moment_142 : decode cX7_moment 142 = .ok (.iadd, 1) := by decide +kernel
theorem dX7_moment_143 : decode cX7_moment 143 = .ok (.iastore, 1) := by decide +kernel
theorem dX7_moment_144 : decode cX7_moment 144 = .ok (.goto 26, 3) := by decide +kernel
theorem dX7_moment_147 : decode cX7_moment 147 = .ok (.aload_n 1, 1) := by decide +kernel
theorem dX7_moment_148 : decode cX7_moment 148 = .ok (.iconst 1, 1) := by decide +kernel
theorem dX7_moment_149 : decode cX7_moment 149 = .ok (.aload_n 1, 1) := by decide +kernel
theorem dX7_moment_150 : decode cX7_moment 150 = .ok (.iconst 1, 1) := by decide +kernel
theorem dX7_moment_151 : decode cX7_moment 151 = .ok (.iaload, 1) := by decide +kernel
theorem dX7_moment_152 : decode cX7_moment 152 = .ok (.iload_n 2, 1) := by decide +kernel
theorem dX7_moment_153 : decode cX7_moment 153 = .ok (.iconst 2, 1) := by decide +kernel
theorem dX7_moment_154 : decode cX7_moment 154 = .ok (.idiv, 1) := by decide +kernel
theorem dX7_moment_155 : decode cX7_moment 155 = .ok (.if_icmp .ge 7, 3) := by decide +kernel
theorem dX7_moment_158 : decode cX7_moment 158 = .ok (.iconst 0, 1) := by decide +kernel
theorem dX7_moment_159 : decode cX7_moment 159 = .ok (.goto 10, 3) := by decide +kernel
theorem dX7_moment_162 : decode cX7_moment 162 = .ok (.aload_n 1, 1) := by decide +kernel
theorem dX7_moment_163 : decode cX7_moment 163 = .ok (.iconst 1, 1) := by decide +kernel
theorem dX7_moment_164 : decode cX7_moment 164 = .ok (.iaload, 1) := by decide +kernel
theorem dX7_moment_165 : decode cX7_moment 165 = .ok (.iload_n 2, 1) := by decide +kernel
theorem dX7_moment_166 : decode cX7_moment 166 = .ok (.iconst 2, 1) := by decide +kernel
theorem dX7_moment_167 : decode cX7_moment 167 = .ok (.idiv, 1) := by decide +kernel
theorem dX7_moment_168 : decode cX7_moment 168 = .ok (.isub, 1) := by decide +kernel
theorem dX7_moment_169 : decode cX7_moment 169 = .ok (.iastore, 1) := by decide +kernel
theorem dX7_moment_170 : decode cX7_moment 170 = .ok (.aload_n 1, 1) := by decide +kernel
theorem dX7_moment_171 : decode cX7_moment 171 = .ok (.iconst 2, 1) := by decide +kernel
theorem dX7_moment_172 : decode cX7_moment 172 = .ok (.dup2, 1) := by decide +kernel
theorem dX7_moment_173 : decode cX7_moment 173 = .ok (.iaload, 1) := by decide +kernel
theorem dX7_moment_174 : decode cX7_moment 174 = .ok (.iconst 1, 1) := by decide +kernel
theorem dX7_moment_175 : decode cX7_moment 175 = .ok (.iadd, 1) := by decide +kernel
theorem dX7_moment_176 : decode cX7_moment 176 = .ok (.iastore, 1) := by decide +kernel
theorem dX7_moment_177 : decode cX7_moment 177 = .ok (.iload_n 3, 1) := by decide +kernel
theorem dX7_moment_178 : decode cX7_moment 178 = .ok (.ireturn, 1) := by decide +kernel
theorem dX7_isFree_0 : decode cX7_isFree 0 = .ok (.iconst 1, 1) := by decide +kernel
theorem dX7_isFree_1 : decode cX7_isFree 1 = .ok (.istore_n 3, 1) := by decide +kernel
theorem dX7_isFree_2 : decode cX7_isFree 2 = .ok (.iconst 0, 1) := by decide +kernel
theorem dX7_isFree_3 : decode cX7_isFree 3 = .ok (.istore 4, 2) := by decide +kernel
theorem dX7_isFree_5 : decode cX7_isFree 5 = .ok (.iload 4, 2) := by decide +kernel
theorem dX7_isFree_7 : decode cX7_isFree 7 = .ok (.aload_n 0, 1) := by decide +kernel
theorem dX7_isFree_8 : decode cX7_isFree 8 = .ok (.getfield 13, 3) := by decide +kernel
theorem dX7_isFree_11 : decode cX7_isFree 11 = .ok (.iconst 0, 1) := by decide +kernel
theorem dX7_isFree_12 : decode cX7_isFree 12 = .ok (.iaload, 1) := by decide +kernel
theorem dX7_isFree_13 : decode cX7_isFree 13 = .ok (.if_icmp .ge 50, 3) := by decide +kernel
theorem dX7_isFree_16 : decode cX7_isFree 16 = .ok (.iload_n 3, 1) := by decide +kernel
theorem dX7_isFree_17 : decode cX7_isFree 17 = .ok (.ifCond .eq 38, 3) := by decide +kernel
theorem dX7_isFree_20 : decode cX7_isFree 20 = .ok (.aload_n 1, 1) := by decide +kernel
theorem dX7_isFree_21 : decode cX7_isFree 21 = .ok (.iconst 3, 1) := by decide +kernel
theorem dX7_isFree_22 : decode cX7_isFree 22 = .ok (.iload 4, 2) := by decide +kernel
theorem dX7_isFree_24 : decode cX7_isFree 24 = .ok (.iadd, 1) := by decide +kernel
theorem dX7_isFree_25 : decode cX7_isFree 25 = .ok (.iaload, 1) := by decide +kernel
theorem dX7_isFree_26 : decode cX7_isFree 26 = .ok (.iconst 1, 1) := by decide +kernel
theorem dX7_isFree_27 : decode cX7_isFree 27 = .ok (.if_icmp .ne 24, 3) := by decide +kernel
theorem dX7_isFree_30 : decode cX7_isFree 30 = .ok (.aload_n 1, 1) := by decide +kernel
theorem dX7_isFree_31 : decode cX7_isFree 31 = .ok (.bipush 12, 2) := by decide +kernel
theorem dX7_isFree_33 : decode cX7_isFree 33 = .ok (.iload 4, 2) := by decide +kernel
theorem dX7_isFree_35 : decode cX7_isFree 35 = .ok (.iadd, 1) := by decide +kernel
theorem dX7_isFree_36 : decode cX7_isFree 36 = .ok (.iaload, 1) := by decide +kernel
theorem dX7_isFree_37 : decode cX7_isFree 37 = .ok (.iload_n 2, 1) := by decide +kernel
theorem dX7_isFree_38 : decode cX7_isFree 38 = .ok (.if_icmp .ne 13, 3) := by decide +kernel
theorem dX7_isFree_41 : decode cX7_isFree 41 = .ok (.aload_n 1, 1) := by decide +kernel
theorem dX7_isFree_42 : decode cX7_isFree 42 = .ok (.bipush 21, 2) := by decide +kernel
theorem dX7_isFree_44 : decode cX7_isFree 44 = .ok (.iload 4, 2) := by decide +kernel
theorem dX7_isFree_46 : decode cX7_isFree 46 = .ok (.iadd, 1) := by decide +kernel
theorem dX7_isFree_47 : decode cX7_isFree 47 = .ok (.iaload, 1) := by decide +kernel
theorem dX7_isFree_48 : decode cX7_isFree 48 = .ok (.ifCond .eq 7, 3) := by decide +kernel
theorem dX7_isFree_51 : decode cX7_isFree 51 = .ok (.iconst 1, 1) := by decide +kernel
theorem dX7_isFree_52 : decode cX7_isFree 52 = .ok (.goto 4, 3) := by decide +kernel
theorem dX7_isFree_55 : decode cX7_isFree 55 = .ok (.iconst 0, 1) := by decide +kernel
theorem dX7_isFree_56 : decode cX7_isFree 56 = .ok (.istore_n 3, 1) := by decide +kernel
theorem dX7_isFree_57 : decode cX7_isFree 57 = .ok (.iinc 4 1, 3) := by decide +kernel
theorem dX7_isFree_60 : decode cX7_isFree 60 = .ok (.goto (-55), 3) := by decide +kernel
theorem dX7_isFree_63 : decode cX7_isFree 63 = .ok (.iload_n 3, 1) := by decide +kernel
theorem dX7_isFree_64 : decode cX7_isFree 64 = .ok (.ireturn, 1) := by decide +kernel
theorem dX7_put_0 : decode cX7_put 0 = .ok (.aload_n 1, 1) := by decide +kernel
theorem dX7_put_1 : decode cX7_put 1 = .ok (.iconst 3, 1) := by decide +kernel
theorem dX7_put_2 : decode cX7_put 2 = .ok (.iload_n 2, 1) := by decide +kernel
theorem dX7_put_3 : decode cX7_put 3 = .ok (.iadd, 1) := by decide +kernel
theorem dX7_put_4 : decode cX7_put 4 = .ok (.iconst 1, 1) := by decide +kernel
theorem dX7_put_5 : decode cX7_put 5 = .ok (.iastore, 1) := by decide +kernel
theorem dX7_put_6 : decode cX7_put 6 = .ok (.aload_n 1, 1) := by decide +kernel
theorem dX7_put_7 : decode cX7_put 7 = .ok (.bipush 12, 2) := by decide +kernel
theorem dX7_put_9 : decode cX7_put 9 = .ok (.iload_n 2, 1) := by decide +kernel
theorem dX7_put_10 : decode cX7_put 10 = .ok (.iadd, 1) := by decide +kernel
theorem dX7_put_11 : decode cX7_put 11 = .ok (.iload_n 3, 1) := by decide +kernel
theorem dX7_put_12 : decode cX7_put 12 = .ok (.iastore, 1) := by decide +kernel
theorem dX7_put_13 : decode cX7_put 13 = .ok (.aload_n 1, 1) := by decide +kernel
theorem dX7_put_14 : decode cX7_put 14 = .ok (.bipush 21, 2) := by decide +kernel
theorem dX7_put_16 : decode cX7_put 16 = .ok (.iload_n 2, 1) := by decide +kernel
theorem dX7_put_17 : decode cX7_put 17 = .ok (.iadd, 1) := by decide +kernel
theorem dX7_put_18 : decode cX7_put 18 = .ok (.iconst 0, 1) := by decide +kernel
theorem dX7_put_19 : decode cX7_put 19 = .ok (.iastore, 1) := by decide +kernel
theorem dX7_put_20 : decode cX7_put 20 = .ok (.return_, 1) := by decide +kernel
theorem dX7_hasEaten_0 : decode cX7_hasEaten 0 = .ok (.iconst 0, 1) := by decide +kernel
theorem dX7_hasEaten_1 : decode cX7_hasEaten 1 = .ok (.istore_n 3, 1) := by decide +kernel
theorem dX7_hasEaten_2 : decode cX7_hasEaten 2 = .ok (.iconst 0, 1) := by decide +kernel
theorem dX7_hasEaten_3 : decode cX7_hasEaten 3 = .ok (.istore 4, 2) := by decide +kernel
theorem dX7_hasEaten_5 : decode cX7_hasEaten 5 = .ok (.iload 4, 2) := by decide +kernel
theorem dX7_hasEaten_7 : decode cX7_hasEaten 7 = .ok (.aload_n 0, 1) := by decide +kernel
theorem dX7_hasEaten_8 : decode cX7_hasEaten 8 = .ok (.getfield 13, 3) := by decide +kernel
theorem dX7_hasEaten_11 : decode cX7_hasEaten 11 = .ok (.iconst 0, 1) := by decide +kernel
theorem dX7_hasEaten_12 : decode cX7_hasEaten 12 = .ok (.iaload, 1) := by decide +kernel
theorem dX7_hasEaten_13 : decode cX7_hasEaten 13 = .ok (.if_icmp .ge 30, 3) := by decide +kernel
theorem dX7_hasEaten_16 : decode cX7_hasEaten 16 = .ok (.iload_n 3, 1) := by decide +kernel
theorem dX7_hasEaten_17 : decode cX7_hasEaten 17 = .ok (.ifCond .ne 14, 3) := by decide +kernel
theorem dX7_hasEaten_20 : decode cX7_hasEaten 20 = .ok (.aload_n 1, 1) := by decide +kernel
theorem dX7_hasEaten_21 : decode cX7_hasEaten 21 = .ok (.bipush 39, 2) := by decide +kernel
theorem dX7_hasEaten_23 : decode cX7_hasEaten 23 = .ok (.iload 4, 2) := by decide +kernel
theorem dX7_hasEaten_25 : decode cX7_hasEaten 25 = .ok (.iadd, 1) := by decide +kernel
theorem dX7_hasEaten_26 : decode cX7_hasEaten 26 = .ok (.iaload, 1) := by decide +kernel
theorem dX7_hasEaten_27 : decode cX7_hasEaten 27 = .ok (.iload_n 2, 1) := by decide +kernel
theorem dX7_hasEaten_28 : decode cX7_hasEaten 28 = .ok (.if_icmp .ne 7, 3) := by decide +kernel
theorem dX7_hasEaten_31 : decode cX7_hasEaten 31 = .ok (.iconst 1, 1) := by decide +kernel
theorem dX7_hasEaten_32 : decode cX7_hasEaten 32 = .ok (.goto 4, 3) := by decide +kernel
theorem dX7_hasEaten_35 : decode cX7_hasEaten 35 = .ok (.iconst 0, 1) := by decide +kernel
theorem dX7_hasEaten_36 : decode cX7_hasEaten 36 = .ok (.istore_n 3, 1) := by decide +kernel
theorem dX7_hasEaten_37 : decode cX7_hasEaten 37 = .ok (.iinc 4 1, 3) := by decide +kernel
theorem dX7_hasEaten_40 : decode cX7_hasEaten 40 = .ok (.goto (-35), 3) := by decide +kernel
theorem dX7_hasEaten_43 : decode cX7_hasEaten 43 = .ok (.iload_n 3, 1) := by decide +kernel
theorem dX7_hasEaten_44 : decode cX7_hasEaten 44 = .ok (.ireturn, 1) := by decide +kernel
theorem dX7_canTake_0 : decode cX7_canTake 0 = .ok (.aload_n 1, 1) := by decide +kernel
theorem dX7_canTake_1 : decode cX7_canTake 1 = .ok (.iconst 3, 1) := by decide +kernel
theorem dX7_canTake_2 : decode cX7_canTake 2 = .ok (.iload_n 3, 1) := by decide +kernel
theorem dX7_canTake_3 : decode cX7_canTake 3 = .ok (.iadd, 1) := by decide +kernel
theorem dX7_canTake_4 : decode cX7_canTake 4 = .ok (.iaload, 1) := by decide +kernel
theorem dX7_canTake_5 : decode cX7_canTake 5 = .ok (.iconst 2, 1) := by decide +kernel
theorem dX7_canTake_6 : decode cX7_canTake 6 = .ok (.if_icmp .ne 31, 3) := by decide +kernel
theorem dX7_canTake_9 : decode cX7_canTake 9 = .ok (.aload_n 0, 1) := by decide +kernel
theorem dX7_canTake_10 : decode cX7_canTake 10 = .ok (.getfield 29, 3) := by decide +kernel
theorem dX7_canTake_13 : decode cX7_canTake 13 = .ok (.iload_n 2, 1) := by decide +kernel
theorem dX7_canTake_14 : decode cX7_canTake 14 = .ok (.iaload, 1) := by decide +kernel
theorem dX7_canTake_15 : decode cX7_canTake 15 = .ok (.aload_n 0, 1) := by decide +kernel
theorem dX7_canTake_16 : decode cX7_canTake 16 = .ok (.getfield 29, 3) := by decide +kernel
theorem dX7_canTake_19 : decode cX7_canTake 19 = .ok (.iload_n 3, 1) := by decide +kernel
theorem dX7_canTake_20 : decode cX7_canTake 20 = .ok (.iaload, 1) := by decide +kernel
theorem dX7_canTake_21 : decode cX7_canTake 21 = .ok (.if_icmp .ne 16, 3) := by decide +kernel
theorem dX7_canTake_24 : decode cX7_canTake 24 = .ok (.aload_n 0, 1) := by decide +kernel
theorem dX7_canTake_25 : decode cX7_canTake 25 = .ok (.aload_n 1, 1) := by decide +kernel
theorem dX7_canTake_26 : decode cX7_canTake 26 = .ok (.iload_n 2, 1) := by decide +kernel
theorem dX7_canTake_27 : decode cX7_canTake 27 = .ok (.invokevirtual 128, 3) := by decide +kernel
theorem dX7_canTake_30 : decode cX7_canTake 30 = .ok (.ifCond .ne 7, 3) := by decide +kernel
theorem dX7_canTake_33 : decode cX7_canTake 33 = .ok (.iconst 1, 1) := by decide +kernel
theorem dX7_canTake_34 : decode cX7_canTake 34 = .ok (.goto 4, 3) := by decide +kernel
theorem dX7_canTake_37 : decode cX7_canTake 37 = .ok (.iconst 0, 1) := by decide +kernel
theorem dX7_canTake_38 : decode cX7_canTake 38 = .ok (.ireturn, 1) := by decide +kernel
theorem dX7_eat_0 : decode cX7_eat 0 = .ok (.aload_n 1, 1) := by decide +kernel
theorem dX7_eat_1 : decode cX7_eat 1 = .ok (.iconst 3, 1) := by decide +kernel
theorem dX7_eat_2 : decode cX7_eat 2 = .ok (.iload_n 3, 1) := by decide +kernel
theorem dX7_eat_3 : decode cX7_eat 3 = .ok (.iadd, 1) := by decide +kernel
theorem dX7_eat_4 : decode cX7_eat 4 = .ok (.iconst 3, 1) := by decide +kernel
theorem dX7_eat_5 : decode cX7_eat 5 = .ok (.iastore, 1) := by decide +kernel
theorem dX7_eat_6 : decode cX7_eat 6 = .ok (.aload_n 1, 1) := by decide +kernel
theorem dX7_eat_7 : decode cX7_eat 7 = .ok (.bipush 39, 2) := by decide +kernel
theorem dX7_eat_9 : decode cX7_eat 9 = .ok (.iload_n 3, 1) := by decide +kernel
theorem dX7_eat_10 : decode cX7_eat 10 = .ok (.iadd, 1) := by decide +kernel
theorem dX7_eat_11 : decode cX7_eat 11 = .ok (.iload_n 2, 1) := by decide +kernel
theorem dX7_eat_12 : decode cX7_eat 12 = .ok (.iastore, 1) := by decide +kernel
theorem dX7_eat_13 : decode cX7_eat 13 = .ok (.return_, 1) := by decide +kernel
theorem dX7_guest_0 : decode cX7_guest 0 = .ok (.aload_n 0, 1) := by decide +kernel
theorem dX7_guest_1 : decode cX7_guest 1 = .ok (.iload_n 1, 1) := by decide +kernel
theorem dX7_guest_2 : decode cX7_guest 2 = .ok (.invokevirtual 132, 3) := by decide +kernel
theorem dX7_guest_5 : decode cX7_guest 5 = .ok (.ifCond .eq 12, 3) := by decide +kernel
theorem dX7_guest_8 : decode cX7_guest 8 = .ok (.iload_n 2, 1) := by decide +kernel
theorem dX7_guest_9 : decode cX7_guest 9 = .ok (.iconst 0, 1) := by decide +kernel
theorem dX7_guest_10 : decode cX7_guest 10 = .ok (.iconst 3, 1) := by decide +kernel
theorem dX7_guest_11 : decode cX7_guest 11 = .ok (.invokestatic 78, 3) := by decide +kernel
theorem dX7_guest_14 : decode cX7_guest 14 = .ok (.ifCond .ne 5, 3) := by decide +kernel
theorem dX7_guest_17 : decode cX7_guest 17 = .ok (.iconst (-1), 1) := by decide +kernel
theorem dX7_guest_18 : decode cX7_guest 18 = .ok (.ireturn, 1) := by decide +kernel
theorem dX7_guest_19 : decode cX7_guest 19 = .ok (.bipush (-4), 2) := by decide +kernel
theorem dX7_guest_21 : decode cX7_guest 21 = .ok (.istore_n 3, 1) := by decide +kernel
theorem dX7_guest_22 : decode cX7_guest 22 = .ok (.iconst 0, 1) := by decide +kernel
theorem dX7_guest_23 : decode cX7_guest 23 = .ok (.istore 4, 2) := by decide +kernel
theorem dX7_guest_25 : decode cX7_guest 25 = .ok (.iload 4, 2) := by decide +kernel
theorem dX7_guest_27 : decode cX7_guest 27 = .ok (.aload_n 0, 1) := by decide +kernel
theorem dX7_guest_28 : decode cX7_guest 28 = .ok (.getfield 13, 3) := by decide +kernel
theorem dX7_guest_31 : decode cX7_guest 31 = .ok (.iconst 0, 1) := by decide +kernel
theorem dX7_guest_32 : decode cX7_guest 32 = .ok (.iaload, 1) := by decide +kernel
theorem dX7_guest_33 : decode cX7_guest 33 = .ok (.if_icmp .ge 30, 3) := by decide +kernel
theorem dX7_guest_36 : decode cX7_guest 36 = .ok (.aload_n 0, 1) := by decide +kernel
theorem dX7_guest_37 : decode cX7_guest 37 = .ok (.getfield 41, 3) := by decide +kernel
theorem dX7_guest_40 : decode cX7_guest 40 = .ok (.bipush 39, 2) := by decide +kernel
theorem dX7_guest_42 : decode cX7_guest 42 = .ok (.iload 4, 2) := by decide +kernel
theorem dX7_guest_44 : decode cX7_guest 44 = .ok (.iadd, 1) := by decide +kernel
theorem dX7_guest_45 : decode cX7_guest 45 = .ok (.iaload, 1) := by decide +kernel
theorem dX7_guest_46 : decode cX7_guest 46 = .ok (.iload_n 1, 1) := by decide +kernel
theorem dX7_guest_47 : decode cX7_guest 47 = .ok (.if_icmp .ne 8, 3) := by decide +kernel
theorem dX7_guest_50 : decode cX7_guest 50 = .ok (.iload 4, 2) := by decide +kernel
theorem dX7_guest_52 : decode cX7_guest 52 = .ok (.goto 4, 3) := by decide +kernel
theorem dX7_guest_55 : decode cX7_guest 55 = .ok (.iload_n 3, 1) := by decide +kernel
theorem dX7_guest_56 : decode cX7_guest 56 = .ok (.istore_n 3, 1) := by decide +kernel
theorem dX7_guest_57 : decode cX7_guest 57 = .ok (.iinc 4 1, 3) := by decide +kernel
theorem dX7_guest_60 : decode cX7_guest 60 = .ok (.goto (-35), 3) := by decide +kernel
theorem dX7_guest_63 : decode cX7_guest 63 = .ok (.iload_n 2, 1) := by decide +kernel
theorem dX7_guest_64 : decode cX7_guest 64 = .ok (.ifCond .ne 12, 3) := by decide +kernel
theorem dX7_guest_67 : decode cX7_guest 67 = .ok (.aload_n 0, 1) := by decide +kernel
theorem dX7_guest_68 : decode cX7_guest 68 = .ok (.getfield 29, 3) := by decide +kernel
theorem dX7_guest_71 : decode cX7_guest 71 = .ok (.iload_n 1, 1) := by decide +kernel
theorem dX7_guest_72 : decode cX7_guest 72 = .ok (.iaload, 1) := by decide +kernel
theorem dX7_guest_73 : decode cX7_guest 73 = .ok (.goto 32, 3) := by decide +kernel
theorem dX7_guest_76 : decode cX7_guest 76 = .ok (.iload_n 2, 1) := by decide +kernel
theorem dX7_guest_77 : decode cX7_guest 77 = .ok (.iconst 1, 1) := by decide +kernel
theorem dX7_guest_78 : decode cX7_guest 78 = .ok (.if_icmp .ne 12, 3) := by decide +kernel
theorem dX7_guest_81 : decode cX7_guest 81 = .ok (.aload_n 0, 1) := by decide +kernel
theorem dX7_guest_82 : decode cX7_guest 82 = .ok (.getfield 32, 3) := by decide +kernel
theorem dX7_guest_85 : decode cX7_guest 85 = .ok (.iload_n 1, 1) := by decide +kernel
theorem dX7_guest_86 : decode cX7_guest 86 = .ok (.iaload, 1) := by decide +kernel
theorem dX7_guest_87 : decode cX7_guest 87 = .ok (.goto 18, 3) := by decide +kernel
theorem dX7_guest_90 : decode cX7_guest 90 = .ok (.iload_n 2, 1) := by decide +kernel
theorem dX7_guest_91 : decode cX7_guest 91 = .ok (.iconst 2, 1) := by decide +kernel
theorem dX7_guest_92 : decode cX7_guest 92 = .ok (.if_icmp .ne 12, 3) := by decide +kernel
theorem dX7_guest_95 : decode cX7_guest 95 = .ok (.aload_n 0, 1) := by decide +kernel
theorem dX7_guest_96 : decode cX7_guest 96 = .ok (.getfield 35, 3) := by decide +kernel
theorem dX7_guest_99 : decode cX7_guest 99 = .ok (.iload_n 1, 1) := by decide +kernel
theorem dX7_guest_100 : decode cX7_guest 100 = .ok (.iaload, 1) := by decide +kernel
theorem dX7_guest_101 : decode cX7_guest 101 = .ok (.goto 4, 3) := by decide +kernel
theorem dX7_guest_104 : decode cX7_guest 104 = .ok (.iload_n 3, 1) := by decide +kernel
theorem dX7_guest_105 : decode cX7_guest 105 = .ok (.ireturn, 1) := by decide +kernel
theorem dX7_slice_0 : decode cX7_slice 0 = .ok (.aload_n 0, 1) := by decide +kernel
theorem dX7_slice_1 : decode cX7_slice 1 = .ok (.iload_n 1, 1) := by decide +kernel
theorem dX7_slice_2 : decode cX7_slice 2 = .ok (.invokevirtual 132, 3) := by decide +kernel
theorem dX7_slice_5 : decode cX7_slice 5 = .ok (.ifCond .ne 5, 3) := by decide +kernel
theorem dX7_slice_8 : decode cX7_slice 8 = .ok (.iconst (-1), 1) := by decide +kernel
theorem dX7_slice_9 : decode cX7_slice 9 = .ok (.ireturn, 1) := by decide +kernel
theorem dX7_slice_10 : decode cX7_slice 10 = .ok (.aload_n 0, 1) := by decide +kernel
theorem dX7_slice_11 : decode cX7_slice 11 = .ok (.getfield 41, 3) := by decide +kernel
theorem dX7_slice_14 : decode cX7_slice 14 = .ok (.iconst 3, 1) := by decide +kernel
theorem dX7_slice_15 : decode cX7_slice 15 = .ok (.iload_n 1, 1) := by decide +kernel
theorem dX7_slice_16 : decode cX7_slice 16 = .ok (.iadd, 1) := by decide +kernel
theorem dX7_slice_17 : decode cX7_slice 17 = .ok (.iaload, 1) := by decide +kernel
theorem dX7_slice_18 : decode cX7_slice 18 = .ok (.iconst 1, 1) := by decide +kernel
theorem dX7_slice_19 : decode cX7_slice 19 = .ok (.if_icmp .ne 7, 3) := by decide +kernel
theorem dX7_slice_22 : decode cX7_slice 22 = .ok (.iconst 1, 1) := by decide +kernel
theorem dX7_slice_23 : decode cX7_slice 23 = .ok (.goto 4, 3) := by decide +kernel
theorem dX7_slice_26 : decode cX7_slice 26 = .ok (.iconst 0, 1) := by decide +kernel
theorem dX7_slice_27 : decode cX7_slice 27 = .ok (.istore_n 3, 1) := by decide +kernel
theorem dX7_slice_28 : decode cX7_slice 28 = .ok (.iload_n 2, 1) := by decide +kernel
theorem dX7_slice_29 : decode cX7_slice 29 = .ok (.tableswitch 125 0 5 #[39, 48, 67, 86, 96, 106], 39) := by decide +kernel
theorem dX7_slice_68 : decode cX7_slice 68 = .ok (.aload_n 0, 1) := by decide +kernel
theorem dX7_slice_69 : decode cX7_slice 69 = .ok (.getfield 41, 3) := by decide +kernel
theorem dX7_slice_72 : decode cX7_slice 72 = .ok (.iconst 3, 1) := by decide +kernel
theorem dX7_slice_73 : decode cX7_slice 73 = .ok (.iload_n 1, 1) := by decide +kernel
theorem dX7_slice_74 : decode cX7_slice 74 = .ok (.iadd, 1) := by decide +kernel
theorem dX7_slice_75 : decode cX7_slice 75 = .ok (.iaload, 1) := by decide +kernel
theorem dX7_slice_76 : decode cX7_slice 76 = .ok (.ireturn, 1) := by decide +kernel
theorem dX7_slice_77 : decode cX7_slice 77 = .ok (.iload_n 3, 1) := by decide +kernel
theorem dX7_slice_78 : decode cX7_slice 78 = .ok (.ifCond .eq 15, 3) := by decide +kernel
theorem dX7_slice_81 : decode cX7_slice 81 = .ok (.aload_n 0, 1) := by decide +kernel
theorem dX7_slice_82 : decode cX7_slice 82 = .ok (.getfield 41, 3) := by decide +kernel
theorem dX7_slice_85 : decode cX7_slice 85 = .ok (.bipush 12, 2) := by decide +kernel
theorem dX7_slice_87 : decode cX7_slice 87 = .ok (.iload_n 1, 1) := by decide +kernel
theorem dX7_slice_88 : decode cX7_slice 88 = .ok (.iadd, 1) := by decide +kernel
theorem dX7_slice_89 : decode cX7_slice 89 = .ok (.iaload, 1) := by decide +kernel
theorem dX7_slice_90 : decode cX7_slice 90 = .ok (.goto 5, 3) := by decide +kernel
theorem dX7_slice_93 : decode cX7_slice 93 = .ok (.bipush (-4), 2) := by decide +kernel
theorem dX7_slice_95 : decode cX7_slice 95 = .ok (.ireturn, 1) := by decide +kernel
theorem dX7_slice_96 : decode cX7_slice 96 = .ok (.iload_n 3, 1) := by decide +kernel
theorem dX7_slice_97 : decode cX7_slice 97 = .ok (.ifCond .eq 15, 3) := by decide +kernel
theorem dX7_slice_100 : decode cX7_slice 100 = .ok (.aload_n 0, 1) := by decide +kernel
theorem dX7_slice_101 : decode cX7_slice 101 = .ok (.getfield 41, 3) := by decide +kernel
theorem dX7_slice_104 : decode cX7_slice 104 = .ok (.bipush 21, 2) := by decide +kernel
theorem dX7_slice_106 : decode cX7_slice 106 = .ok (.iload_n 1, 1) := by decide +kernel
theorem dX7_slice_107 : decode cX7_slice 107 = .ok (.iadd, 1) := by decide +kernel
theorem dX7_slice_108 : decode cX7_slice 108 = .ok (.iaload, 1) := by decide +kernel
theorem dX7_slice_109 : decode cX7_slice 109 = .ok (.goto 5, 3) := by decide +kernel
theorem dX7_slice_112 : decode cX7_slice 112 = .ok (.bipush (-4), 2) := by decide +kernel
theorem dX7_slice_114 : decode cX7_slice 114 = .ok (.ireturn, 1) := by decide +kernel
theorem dX7_slice_115 : decode cX7_slice 115 = .ok (.aload_n 0, 1) := by decide +kernel
theorem dX7_slice_116 : decode cX7_slice 116 = .ok (.getfield 41, 3) := by decide +kernel
theorem dX7_slice_119 : decode cX7_slice 119 = .ok (.bipush 30, 2) := by decide +kernel
theorem dX7_slice_121 : decode cX7_slice 121 = .ok (.iload_n 1, 1) := by decide +kernel
theorem dX7_slice_122 : decode cX7_slice 122 = .ok (.iadd, 1) := by decide +kernel
theorem dX7_slice_123 : decode cX7_slice 123 = .ok (.iaload, 1) := by decide +kernel
theorem dX7_slice_124 : decode cX7_slice 124 = .ok (.ireturn, 1) := by decide +kernel
theorem dX7_slice_125 : decode cX7_slice 125 = .ok (.aload_n 0, 1) := by decide +kernel
theorem dX7_slice_126 : decode cX7_slice 126 = .ok (.getfield 41, 3) := by decide +kernel
theorem dX7_slice_129 : decode cX7_slice 129 = .ok (.bipush 39, 2) := by decide +kernel
theorem dX7_slice_131 : decode cX7_slice 131 = .ok (.iload_n 1, 1) := by decide +kernel
theorem dX7_slice_132 : decode cX7_slice 132 = .ok (.iadd, 1) := by decide +kernel
theorem dX7_slice_133 : decode cX7_slice 133 = .ok (.iaload, 1) := by decide +kernel
theorem dX7_slice_134 : decode cX7_slice 134 = .ok (.ireturn, 1) := by decide +kernel
theorem dX7_slice_135 : decode cX7_slice 135 = .ok (.aload_n 0, 1) := by decide +kernel
theorem dX7_slice_136 : decode cX7_slice 136 = .ok (.aload_n 0, 1) := by decide +kernel
theorem dX7_slice_137 : decode cX7_slice 137 = .ok (.getfield 41, 3) := by decide +kernel
theorem dX7_slice_140 : decode cX7_slice 140 = .ok (.iload_n 1, 1) := by decide +kernel
theorem dX7_slice_141 : decode cX7_slice 141 = .ok (.iload_n 1, 1) := by decide +kernel
theorem dX7_slice_142 : decode cX7_slice 142 = .ok (.invokevirtual 136, 3) := by decide +kernel
theorem dX7_slice_145 : decode cX7_slice 145 = .ok (.ifCond .eq 7, 3) := by decide +kernel
theorem dX7_slice_148 : decode cX7_slice 148 = .ok (.iconst 1, 1) := by decide +kernel
theorem dX7_slice_149 : decode cX7_slice 149 = .ok (.goto 4, 3) := by decide +kernel
theorem dX7_slice_152 : decode cX7_slice 152 = .ok (.iconst 0, 1) := by decide +kernel
theorem dX7_slice_153 : decode cX7_slice 153 = .ok (.ireturn, 1) := by decide +kernel
theorem dX7_slice_154 : decode cX7_slice 154 = .ok (.iconst (-1), 1) := by decide +kernel
theorem dX7_slice_155 : decode cX7_slice 155 = .ok (.ireturn, 1) := by decide +kernel
theorem dX7_know_0 : decode cX7_know 0 = .ok (.aload_n 0, 1) := by decide +kernel
theorem dX7_know_1 : decode cX7_know 1 = .ok (.getfield 108, 3) := by decide +kernel
theorem dX7_know_4 : decode cX7_know 4 = .ok (.bipush 8, 2) := by decide +kernel
theorem dX7_know_6 : decode cX7_know 6 = .ok (.if_icmp .ne 43, 3) := by decide +kernel
theorem dX7_know_9 : decode cX7_know 9 = .ok (.iconst 0, 1) := by decide +kernel
theorem dX7_know_10 : decode cX7_know 10 = .ok (.istore_n 1, 1) := by decide +kernel
theorem dX7_know_11 : decode cX7_know 11 = .ok (.iload_n 1, 1) := by decide +kernel
theorem dX7_know_12 : decode cX7_know 12 = .ok (.sipush 336, 3) := by decide +kernel
theorem dX7_know_15 : decode cX7_know 15 = .ok (.if_icmp .ge 24, 3) := by decide +kernel
theorem dX7_know_18 : decode cX7_know 18 = .ok (.aload_n 0, 1) := by decide +kernel
theorem dX7_know_19 : decode cX7_know 19 = .ok (.getfield 47, 3) := by decide +kernel
theorem dX7_know_22 : decode cX7_know 22 = .ok (.iload_n 1, 1) := by decide +kernel
theorem dX7_know_23 : decode cX7_know 23 = .ok (.aload_n 0, 1) := by decide +kernel
theorem dX7_know_24 : decode cX7_know 24 = .ok (.getfield 47, 3) := by decide +kernel
theorem dX7_know_27 : decode cX7_know 27 = .ok (.bipush 48, 2) := by decide +kernel
theorem dX7_know_29 : decode cX7_know 29 = .ok (.iload_n 1, 1) := by decide +kernel
theorem dX7_know_30 : decode cX7_know 30 = .ok (.iadd, 1) := by decide +kernel
theorem dX7_know_31 : decode cX7_know 31 = .ok (.iaload, 1) := by decide +kernel
theorem dX7_know_32 : decode cX7_know 32 = .ok (.iastore, 1) := by decide +kernel
theorem dX7_know_33 : decode cX7_know 33 = .ok (.iinc 1 1, 3) := by decide +kernel
theorem dX7_know_36 : decode cX7_know 36 = .ok (.goto (-25), 3) := by decide +kernel
theorem dX7_know_39 : decode cX7_know 39 = .ok (.aload_n 0, 1) := by decide +kernel
theorem dX7_know_40 : decode cX7_know 40 = .ok (.dup, 1) := by decide +kernel
theorem dX7_know_41 : decode cX7_know 41 = .ok (.getfield 108, 3) := by decide +kernel
theorem dX7_know_44 : decode cX7_know 44 = .ok (.iconst 1, 1) := by decide +kernel
theorem dX7_know_45 : decode cX7_know 45 = .ok (.isub, 1) := by decide +kernel
theorem dX7_know_46 : decode cX7_know 46 = .ok (.putfield 108, 3) := by decide +kernel
theorem dX7_know_49 : decode cX7_know 49 = .ok (.iconst 0, 1) := by decide +kernel
theorem dX7_know_50 : decode cX7_know 50 = .ok (.istore_n 1, 1) := by decide +kernel
theorem dX7_know_51 : decode cX7_know 51 = .ok (.iload_n 1, 1) := by decide +kernel
theorem dX7_know_52 : decode cX7_know 52 = .ok (.bipush 48, 2) := by decide +kernel
theorem dX7_know_54 : decode cX7_know 54 = .ok (.if_icmp .ge 29, 3) := by decide +kernel
theorem dX7_know_57 : decode cX7_know 57 = .ok (.aload_n 0, 1) := by decide +kernel
theorem dX7_know_58 : decode cX7_know 58 = .ok (.getfield 47, 3) := by decide +kernel
theorem dX7_know_61 : decode cX7_know 61 = .ok (.bipush 48, 2) := by decide +kernel
theorem dX7_know_63 : decode cX7_know 63 = .ok (.aload_n 0, 1) := by decide +kernel
theorem dX7_know_64 : decode cX7_know 64 = .ok (.getfield 108, 3) := by decide +kernel
theorem dX7_know_67 : decode cX7_know 67 = .ok (.imul, 1) := by decide +kernel
theorem dX7_know_68 : decode cX7_know 68 = .ok (.iload_n 1, 1) := by decide +kernel
theorem dX7_know_69 : decode cX7_know 69 = .ok (.iadd, 1) := by decide +kernel
theorem dX7_know_70 : decode cX7_know 70 = .ok (.aload_n 0, 1) := by decide +kernel
theorem dX7_know_71 : decode cX7_know 71 = .ok (.getfield 41, 3) := by decide +kernel
theorem dX7_know_74 : decode cX7_know 74 = .ok (.iload_n 1, 1) := by decide +kernel
theorem dX7_know_75 : decode cX7_know 75 = .ok (.iaload, 1) := by decide +kernel
theorem dX7_know_76 : decode cX7_know 76 = .ok (.iastore, 1) := by decide +kernel
theorem dX7_know_77 : decode cX7_know 77 = .ok (.iinc 1 1, 3) := by decide +kernel
theorem dX7_know_80 : decode cX7_know 80 = .ok (.goto (-29), 3) := by decide +kernel
theorem dX7_know_83 : decode cX7_know 83 = .ok (.aload_n 0, 1) := by decide +kernel
theorem dX7_know_84 : decode cX7_know 84 = .ok (.dup, 1) := by decide +kernel
theorem dX7_know_85 : decode cX7_know 85 = .ok (.getfield 108, 3) := by decide +kernel
theorem dX7_know_88 : decode cX7_know 88 = .ok (.iconst 1, 1) := by decide +kernel
theorem dX7_know_89 : decode cX7_know 89 = .ok (.iadd, 1) := by decide +kernel
theorem dX7_know_90 : decode cX7_know 90 = .ok (.putfield 108, 3) := by decide +kernel
theorem dX7_know_93 : decode cX7_know 93 = .ok (.return_, 1) := by decide +kernel
theorem dX7_isLane_0 : decode cX7_isLane 0 = .ok (.iload_n 0, 1) := by decide +kernel
theorem dX7_isLane_1 : decode cX7_isLane 1 = .ok (.iconst 0, 1) := by decide +kernel
theorem dX7_isLane_2 : decode cX7_isLane 2 = .ok (.iconst 1, 1) := by decide +kernel
theorem dX7_isLane_3 : decode cX7_isLane 3 = .ok (.invokestatic 78, 3) := by decide +kernel
theorem dX7_isLane_6 : decode cX7_isLane 6 = .ok (.ireturn, 1) := by decide +kernel
theorem dX7_isLoose_0 : decode cX7_isLoose 0 = .ok (.aload_n 0, 1) := by decide +kernel
theorem dX7_isLoose_1 : decode cX7_isLoose 1 = .ok (.getfield 41, 3) := by decide +kernel
theorem dX7_isLoose_4 : decode cX7_isLoose 4 = .ok (.iconst 3, 1) := by decide +kernel
theorem dX7_isLoose_5 : decode cX7_isLoose 5 = .ok (.iload_n 1, 1) := by decide +kernel
theorem dX7_isLoose_6 : decode cX7_isLoose 6 = .ok (.iadd, 1) := by decide +kernel
theorem dX7_isLoose_7 : decode cX7_isLoose 7 = .ok (.iaload, 1) := by decide +kernel
theorem dX7_isLoose_8 : decode cX7_isLoose 8 = .ok (.ifCond .eq 15, 3) := by decide +kernel
theorem dX7_isLoose_11 : decode cX7_isLoose 11 = .ok (.aload_n 0, 1) := by decide +kernel
theorem dX7_isLoose_12 : decode cX7_isLoose 12 = .ok (.getfield 41, 3) := by decide +kernel
theorem dX7_isLoose_15 : decode cX7_isLoose 15 = .ok (.iconst 3, 1) := by decide +kernel
theorem dX7_isLoose_16 : decode cX7_isLoose 16 = .ok (.iload_n 1, 1) := by decide +kernel
theorem dX7_isLoose_17 : decode cX7_isLoose 17 = .ok (.iadd, 1) := by decide +kernel
theorem dX7_isLoose_18 : decode cX7_isLoose 18 = .ok (.iaload, 1) := by decide +kernel
theorem dX7_isLoose_19 : decode cX7_isLoose 19 = .ok (.iconst 2, 1) := by decide +kernel
theorem dX7_isLoose_20 : decode cX7_isLoose 20 = .ok (.if_icmp .ne 7, 3) := by decide +kernel
theorem dX7_isLoose_23 : decode cX7_isLoose 23 = .ok (.iconst 1, 1) := by decide +kernel
theorem dX7_isLoose_24 : decode cX7_isLoose 24 = .ok (.goto 4, 3) := by decide +kernel
theorem dX7_isLoose_27 : decode cX7_isLoose 27 = .ok (.iconst 0, 1) := by decide +kernel
theorem dX7_isLoose_28 : decode cX7_isLoose 28 = .ok (.ireturn, 1) := by decide +kernel
theorem dX7_putIn_0 : decode cX7_putIn 0 = .ok (.aload_n 0, 1) := by decide +kernel
theorem dX7_putIn_1 : decode cX7_putIn 1 = .ok (.iload_n 1, 1) := by decide +kernel
theorem dX7_putIn_2 : decode cX7_putIn 2 = .ok (.invokevirtual 132, 3) := by decide +kernel
theorem dX7_putIn_5 : decode cX7_putIn 5 = .ok (.ifCond .eq 10, 3) := by decide +kernel
theorem dX7_putIn_8 : decode cX7_putIn 8 = .ok (.iload_n 2, 1) := by decide +kernel
theorem dX7_putIn_9 : decode cX7_putIn 9 = .ok (.invokestatic 140, 3) := by decide +kernel
theorem dX7_putIn_12 : decode cX7_putIn 12 = .ok (.ifCond .ne 5, 3) := by decide +kernel
theorem dX7_putIn_15 : decode cX7_putIn 15 = .ok (.iconst (-1), 1) := by decide +kernel
theorem dX7_putIn_16 : decode cX7_putIn 16 = .ok (.ireturn, 1) := by decide +kernel
theorem dX7_putIn_17 : decode cX7_putIn 17 = .ok (.aload_n 0, 1) := by decide +kernel
theorem dX7_putIn_18 : decode cX7_putIn 18 = .ok (.iload_n 1, 1) := by decide +kernel
theorem dX7_putIn_19 : decode cX7_putIn 19 = .ok (.invokevirtual 143, 3) := by decide +kernel
theorem dX7_putIn_22 : decode cX7_putIn 22 = .ok (.ifCond .eq 15, 3) := by decide +kernel
theorem dX7_putIn_25 : decode cX7_putIn 25 = .ok (.aload_n 0, 1) := by decide +kernel
theorem dX7_putIn_26 : decode cX7_putIn 26 = .ok (.aload_n 0, 1) := by decide +kernel
theorem dX7_putIn_27 : decode cX7_putIn 27 = .ok (.getfield 41, 3) := by decide +kernel
theorem dX7_putIn_30 : decode cX7_putIn 30 = .ok (.iload_n 2, 1) := by decide +kernel
theorem dX7_putIn_31 : decode cX7_putIn 31 = .ok (.invokevirtual 146, 3) := by decide +kernel
theorem dX7_putIn_34 : decode cX7_putIn 34 = .ok (.ifCond .ne 6, 3) := by decide +kernel
theorem dX7_putIn_37 : decode cX7_putIn 37 = .ok (.bipush (-2), 2) := by decide +kernel
theorem dX7_putIn_39 : decode cX7_putIn 39 = .ok (.ireturn, 1) := by decide +kernel
theorem dX7_putIn_40 : decode cX7_putIn 40 = .ok (.aload_n 0, 1) := by decide +kernel
theorem dX7_putIn_41 : decode cX7_putIn 41 = .ok (.invokevirtual 149, 3) := by decide +kernel
theorem dX7_putIn_44 : decode cX7_putIn 44 = .ok (.aload_n 0, 1) := by decide +kernel
theorem dX7_putIn_45 : decode cX7_putIn 45 = .ok (.aload_n 0, 1) := by decide +kernel
theorem dX7_putIn_46 : decode cX7_putIn 46 = .ok (.getfield 41, 3) := by decide +kernel
theorem dX7_putIn_49 : decode cX7_putIn 49 = .ok (.iload_n 1, 1) := by decide +kernel
theorem dX7_putIn_50 : decode cX7_putIn 50 = .ok (.iload_n 2, 1) := by decide +kernel
theorem dX7_putIn_51 : decode cX7_putIn 51 = .ok (.invokevirtual 152, 3) := by decide +kernel
theorem dX7_putIn_54 : decode cX7_putIn 54 = .ok (.aload_n 0, 1) := by decide +kernel
theorem dX7_putIn_55 : decode cX7_putIn 55 = .ok (.aload_n 0, 1) := by decide +kernel
theorem dX7_putIn_56 : decode cX7_putIn 56 = .ok (.getfield 41, 3) := by decide +kernel
theorem dX7_putIn_59 : decode cX7_putIn 59 = .ok (.iconst 1, 1) := by decide +kernel
theorem dX7_putIn_60 : decode cX7_putIn 60 = .ok (.invokevirtual 120, 3) := by decide +kernel
theorem dX7_putIn_63 : decode cX7_putIn 63 = .ok (.ireturn, 1) := by decide +kernel
theorem dX7_pass_0 : decode cX7_pass 0 = .ok (.iload_n 1, 1) := by decide +kernel
theorem dX7_pass_1 : decode cX7_pass 1 = .ok (.iconst 1, 1) := by decide +kernel
theorem dX7_pass_2 : decode cX7_pass 2 = .ok (.bipush 60, 2) := by decide +kernel
theorem dX7_pass_4 : decode cX7_pass 4 = .ok (.invokestatic 78, 3) := by decide +kernel
theorem dX7_pass_7 : decode cX7_pass 7 = .ok (.ifCond .ne 5, 3) := by decide +kernel
theorem dX7_pass_10 : decode cX7_pass 10 = .ok (.iconst (-1), 1) := by decide +kernel
theorem dX7_pass_11 : decode cX7_pass 11 = .ok (.ireturn, 1) := by decide +kernel
theorem dX7_pass_12 : decode cX7_pass 12 = .ok (.aload_n 0, 1) := by decide +kernel
theorem dX7_pass_13 : decode cX7_pass 13 = .ok (.getfield 41, 3) := by decide +kernel
theorem dX7_pass_16 : decode cX7_pass 16 = .ok (.iconst 2, 1) := by decide +kernel
theorem dX7_pass_17 : decode cX7_pass 17 = .ok (.iaload, 1) := by decide +kernel
theorem dX7_pass_18 : decode cX7_pass 18 = .ok (.iload_n 1, 1) := by decide +kernel
theorem dX7_pass_19 : decode cX7_pass 19 = .ok (.iadd, 1) := by decide +kernel
theorem dX7_pass_20 : decode cX7_pass 20 = .ok (.sipush 999, 3) := by decide +kernel
theorem dX7_pass_23 : decode cX7_pass 23 = .ok (.if_icmp .le 6, 3) := by decide +kernel
theorem dX7_pass_26 : decode cX7_pass 26 = .ok (.bipush (-2), 2) := by decide +kernel
theorem dX7_pass_28 : decode cX7_pass 28 = .ok (.ireturn, 1) := by decide +kernel
theorem dX7_pass_29 : decode cX7_pass 29 = .ok (.aload_n 0, 1) := by decide +kernel
theorem dX7_pass_30 : decode cX7_pass 30 = .ok (.invokevirtual 149, 3) := by decide +kernel
theorem dX7_pass_33 : decode cX7_pass 33 = .ok (.iconst 0, 1) := by decide +kernel
theorem dX7_pass_34 : decode cX7_pass 34 = .ok (.istore_n 2, 1) := by decide +kernel
theorem dX7_pass_35 : decode cX7_pass 35 = .ok (.iconst 0, 1) := by decide +kernel
theorem dX7_pass_36 : decode cX7_pass 36 = .ok (.istore_n 3, 1) := by decide +kernel
theorem dX7_pass_37 : decode cX7_pass 37 = .ok (.iload_n 3, 1) := by decide +kernel
theorem dX7_pass_38 : decode cX7_pass 38 = .ok (.iload_n 1, 1) := by decide +kernel
theorem dX7_pass_39 : decode cX7_pass 39 = .ok (.if_icmp .ge 20, 3) := by decide +kernel
theorem dX7_pass_42 : decode cX7_pass 42 = .ok (.iload_n 2, 1) := by decide +kernel
theorem dX7_pass_43 : decode cX7_pass 43 = .ok (.aload_n 0, 1) := by decide +kernel
theorem dX7_pass_44 : decode cX7_pass 44 = .ok (.aload_n 0, 1) := by decide +kernel
theorem dX7_pass_45 : decode cX7_pass 45 = .ok (.getfield 41, 3) := by decide +kernel
theorem dX7_pass_48 : decode cX7_pass 48 = .ok (.invokevirtual 156, 3) := by decide +kernel
theorem dX7_pass_51 : decode cX7_pass 51 = .ok (.iadd, 1) := by decide +kernel
theorem dX7_pass_52 : decode cX7_pass 52 = .ok (.istore_n 2, 1) := by decide +kernel
theorem dX7_pass_53 : decode cX7_pass 53 = .ok (.iinc 3 1, 3) := by decide +kernel
theorem dX7_pass_56 : decode cX7_pass 56 = .ok (.goto (-19), 3) := by decide +kernel
theorem dX7_pass_59 : decode cX7_pass 59 = .ok (.iload_n 2, 1) := by decide +kernel
theorem dX7_pass_60 : decode cX7_pass 60 = .ok (.ireturn, 1) := by decide +kernel
theorem dX7_knob_0 : decode cX7_knob 0 = .ok (.iload_n 1, 1) := by decide +kernel
theorem dX7_knob_1 : decode cX7_knob 1 = .ok (.iconst 1, 1) := by decide +kernel
theorem dX7_knob_2 : decode cX7_knob 2 = .ok (.bipush 9, 2) := by decide +kernel
theorem dX7_knob_4 : decode cX7_knob 4 = .ok (.invokestatic 78, 3) := by decide +kernel
theorem dX7_knob_7 : decode cX7_knob 7 = .ok (.ifCond .ne 5, 3) := by decide +kernel
theorem dX7_knob_10 : decode cX7_knob 10 = .ok (.iconst (-1), 1) := by decide +kernel
theorem dX7_knob_11 : decode cX7_knob 11 = .ok (.ireturn, 1) := by decide +kernel
theorem dX7_knob_12 : decode cX7_knob 12 = .ok (.aload_n 0, 1) := by decide +kernel
theorem dX7_knob_13 : decode cX7_knob 13 = .ok (.invokevirtual 149, 3) := by decide +kernel
theorem dX7_knob_16 : decode cX7_knob 16 = .ok (.aload_n 0, 1) := by decide +kernel
theorem dX7_knob_17 : decode cX7_knob 17 = .ok (.getfield 41, 3) := by decide +kernel
theorem dX7_knob_20 : decode cX7_knob 20 = .ok (.iconst 0, 1) := by decide +kernel
theorem dX7_knob_21 : decode cX7_knob 21 = .ok (.iaload, 1) := by decide +kernel
theorem dX7_knob_22 : decode cX7_knob 22 = .ok (.istore_n 2, 1) := by decide +kernel
theorem dX7_knob_23 : decode cX7_knob 23 = .ok (.aload_n 0, 1) := by decide +kernel
theorem dX7_knob_24 : decode cX7_knob 24 = .ok (.getfield 41, 3) := by decide +kernel
theorem dX7_knob_27 : decode cX7_knob 27 = .ok (.iconst 0, 1) := by decide +kernel
theorem dX7_knob_28 : decode cX7_knob 28 = .ok (.iload_n 1, 1) := by decide +kernel
theorem dX7_knob_29 : decode cX7_knob 29 = .ok (.iastore, 1) := by decide +kernel
theorem dX7_knob_30 : decode cX7_knob 30 = .ok (.iload_n 2, 1) := by decide +kernel
theorem dX7_knob_31 : decode cX7_knob 31 = .ok (.ireturn, 1) := by decide +kernel
theorem dX7_take_0 : decode cX7_take 0 = .ok (.aload_n 0, 1) := by decide +kernel
theorem dX7_take_1 : decode cX7_take 1 = .ok (.iload_n 1, 1) := by decide +kernel
theorem dX7_take_2 : decode cX7_take 2 = .ok (.invokevirtual 132, 3) := by decide +kernel
theorem dX7_take_5 : decode cX7_take 5 = .ok (.ifCond .eq 11, 3) := by decide +kernel
theorem dX7_take_8 : decode cX7_take 8 = .ok (.aload_n 0, 1) := by decide +kernel
theorem dX7_take_9 : decode cX7_take 9 = .ok (.iload_n 2, 1) := by decide +kernel
theorem dX7_take_10 : decode cX7_take 10 = .ok (.invokevirtual 132, 3) := by decide +kernel
theorem dX7_take_13 : decode cX7_take 13 = .ok (.ifCond .ne 5, 3) := by decide +kernel
theorem dX7_take_16 : decode cX7_take 16 = .ok (.iconst (-1), 1) := by decide +kernel
theorem dX7_take_17 : decode cX7_take 17 = .ok (.ireturn, 1) := by decide +kernel
theorem dX7_take_18 : decode cX7_take 18 = .ok (.aload_n 0, 1) := by decide +kernel
theorem dX7_take_19 : decode cX7_take 19 = .ok (.aload_n 0, 1) := by decide +kernel
theorem dX7_take_20 : decode cX7_take 20 = .ok (.getfield 41, 3) := by decide +kernel
theorem dX7_take_23 : decode cX7_take 23 = .ok (.iload_n 1, 1) := by decide +kernel
theorem dX7_take_24 : decode cX7_take 24 = .ok (.iload_n 2, 1) := by decide +kernel
theorem dX7_take_25 : decode cX7_take 25 = .ok (.invokevirtual 160, 3) := by decide +kernel
theorem dX7_take_28 : decode cX7_take 28 = .ok (.ifCond .ne 6, 3) := by decide +kernel
theorem dX7_take_31 : decode cX7_take 31 = .ok (.bipush (-2), 2) := by decide +kernel
theorem dX7_take_33 : decode cX7_take 33 = .ok (.ireturn, 1) := by decide +kernel
theorem dX7_take_34 : decode cX7_take 34 = .ok (.aload_n 0, 1) := by decide +kernel
theorem dX7_take_35 : decode cX7_take 35 = .ok (.invokevirtual 149, 3) := by decide +kernel
theorem dX7_take_38 : decode cX7_take 38 = .ok (.aload_n 0, 1) := by decide +kernel
theorem dX7_take_39 : decode cX7_take 39 = .ok (.aload_n 0, 1) := by decide +kernel
theorem dX7_take_40 : decode cX7_take 40 = .ok (.getfield 41, 3) := by decide +kernel
theorem dX7_take_43 : decode cX7_take 43 = .ok (.iload_n 1, 1) := by decide +kernel
theorem dX7_take_44 : decode cX7_take 44 = .ok (.iload_n 2, 1) := by decide +kernel
theorem dX7_take_45 : decode cX7_take 45 = .ok (.invokevirtual 163, 3) := by decide +kernel
theorem dX7_take_48 : decode cX7_take 48 = .ok (.aload_n 0, 1) := by decide +kernel
theorem dX7_take_49 : decode cX7_take 49 = .ok (.aload_n 0, 1) := by decide +kernel
theorem dX7_take_50 : decode cX7_take 50 = .ok (.getfield 41, 3) := by decide +kernel
theorem dX7_take_53 : decode cX7_take 53 = .ok (.iload_n 1, 1) := by decide +kernel
theorem dX7_take_54 : decode cX7_take 54 = .ok (.iload_n 2, 1) := by decide +kernel
theorem dX7_take_55 : decode cX7_take 55 = .ok (.invokevirtual 136, 3) := by decide +kernel
theorem dX7_take_58 : decode cX7_take 58 = .ok (.ifCond .eq 7, 3) := by decide +kernel
theorem dX7_take_61 : decode cX7_take 61 = .ok (.iconst 1, 1) := by decide +kernel
theorem dX7_take_62 : decode cX7_take 62 = .ok (.goto 4, 3) := by decide +kernel
theorem dX7_take_65 : decode cX7_take 65 = .ok (.iconst 0, 1) := by decide +kernel
theorem dX7_take_66 : decode cX7_take 66 = .ok (.ireturn, 1) := by decide +kernel
theorem dX7_undo_0 : decode cX7_undo 0 = .ok (.aload_n 0, 1) := by decide +kernel
theorem dX7_undo_1 : decode cX7_undo 1 = .ok (.getfield 108, 3) := by decide +kernel
theorem dX7_undo_4 : decode cX7_undo 4 = .ok (.ifCond .ne 6, 3) := by decide +kernel
theorem dX7_undo_7 : decode cX7_undo 7 = .ok (.bipush (-2), 2) := by decide +kernel
theorem dX7_undo_9 : decode cX7_undo 9 = .ok (.ireturn, 1) := by decide +kernel
theorem dX7_undo_10 : decode cX7_undo 10 = .ok (.aload_n 0, 1) := by decide +kernel
theorem dX7_undo_11 : decode cX7_undo 11 = .ok (.dup, 1) := by decide +kernel
theorem dX7_undo_12 : decode cX7_undo 12 = .ok (.getfield 108, 3) := by decide +kernel
theorem dX7_undo_15 : decode cX7_undo 15 = .ok (.iconst 1, 1) := by decide +kernel
theorem dX7_undo_16 : decode cX7_undo 16 = .ok (.isub, 1) := by decide +kernel
theorem dX7_undo_17 : decode cX7_undo 17 = .ok (.putfield 108, 3) := by decide +kernel
theorem dX7_undo_20 : decode cX7_undo 20 = .ok (.iconst 0, 1) := by decide +kernel
theorem dX7_undo_21 : decode cX7_undo 21 = .ok (.istore_n 1, 1) := by decide +kernel
theorem dX7_undo_22 : decode cX7_undo 22 = .ok (.iload_n 1, 1) := by decide +kernel
theorem dX7_undo_23 : decode cX7_undo 23 = .ok (.bipush 48, 2) := by decide +kernel
theorem dX7_undo_25 : decode cX7_undo 25 = .ok (.if_icmp .ge 29, 3) := by decide +kernel
theorem dX7_undo_28 : decode cX7_undo 28 = .ok (.aload_n 0, 1) := by decide +kernel
theorem dX7_undo_29 : decode cX7_undo 29 = .ok (.getfield 41, 3) := by decide +kernel
theorem dX7_undo_32 : decode cX7_undo 32 = .ok (.iload_n 1, 1) := by decide +kernel
theorem dX7_undo_33 : decode cX7_undo 33 = .ok (.aload_n 0, 1) := by decide +kernel
theorem dX7_undo_34 : decode cX7_undo 34 = .ok (.getfield 47, 3) := by decide +kernel
theorem dX7_undo_37 : decode cX7_undo 37 = .ok (.bipush 48, 2) := by decide +kernel
theorem dX7_undo_39 : decode cX7_undo 39 = .ok (.aload_n 0, 1) := by decide +kernel
theorem dX7_undo_40 : decode cX7_undo 40 = .ok (.getfield 108, 3) := by decide +kernel
theorem dX7_undo_43 : decode cX7_undo 43 = .ok (.imul, 1) := by decide +kernel
theorem dX7_undo_44 : decode cX7_undo 44 = .ok (.iload_n 1, 1) := by decide +kernel
theorem dX7_undo_45 : decode cX7_undo 45 = .ok (.iadd, 1) := by decide +kernel
theorem dX7_undo_46 : decode cX7_undo 46 = .ok (.iaload, 1) := by decide +kernel
theorem dX7_undo_47 : decode cX7_undo 47 = .ok (.iastore, 1) := by decide +kernel
theorem dX7_undo_48 : decode cX7_undo 48 = .ok (.iinc 1 1, 3) := by decide +kernel
theorem dX7_undo_51 : decode cX7_undo 51 = .ok (.goto (-29), 3) := by decide +kernel
theorem dX7_undo_54 : decode cX7_undo 54 = .ok (.aload_n 0, 1) := by decide +kernel
theorem dX7_undo_55 : decode cX7_undo 55 = .ok (.getfield 108, 3) := by decide +kernel
theorem dX7_undo_58 : decode cX7_undo 58 = .ok (.ireturn, 1) := by decide +kernel
theorem dX7_falls_0 : decode cX7_falls 0 = .ok (.aload_n 0, 1) := by decide +kernel
theorem dX7_falls_1 : decode cX7_falls 1 = .ok (.iload_n 1, 1) := by decide +kernel
theorem dX7_falls_2 : decode cX7_falls 2 = .ok (.invokevirtual 132, 3) := by decide +kernel
theorem dX7_falls_5 : decode cX7_falls 5 = .ok (.ifCond .ne 5, 3) := by decide +kernel
theorem dX7_falls_8 : decode cX7_falls 8 = .ok (.iconst (-1), 1) := by decide +kernel
theorem dX7_falls_9 : decode cX7_falls 9 = .ok (.ireturn, 1) := by decide +kernel
theorem dX7_falls_10 : decode cX7_falls 10 = .ok (.aload_n 0, 1) := by decide +kernel
theorem dX7_falls_11 : decode cX7_falls 11 = .ok (.getfield 41, 3) := by decide +kernel
theorem dX7_falls_14 : decode cX7_falls 14 = .ok (.iconst 3, 1) := by decide +kernel
theorem dX7_falls_15 : decode cX7_falls 15 = .ok (.iload_n 1, 1) := by decide +kernel
theorem dX7_falls_16 : decode cX7_falls 16 = .ok (.iadd, 1) := by decide +kernel
theorem dX7_falls_17 : decode cX7_falls 17 = .ok (.iaload, 1) := by decide +kernel
theorem dX7_falls_18 : decode cX7_falls 18 = .ok (.iconst 1, 1) := by decide +kernel
theorem dX7_falls_19 : decode cX7_falls 19 = .ok (.if_icmp .ne 38, 3) := by decide +kernel
theorem dX7_falls_22 : decode cX7_falls 22 = .ok (.aload_n 0, 1) := by decide +kernel
theorem dX7_falls_23 : decode cX7_falls 23 = .ok (.getfield 17, 3) := by decide +kernel
theorem dX7_falls_26 : decode cX7_falls 26 = .ok (.iconst 0, 1) := by decide +kernel
theorem dX7_falls_27 : decode cX7_falls 27 = .ok (.iaload, 1) := by decide +kernel
theorem dX7_falls_28 : decode cX7_falls 28 = .ok (.aload_n 0, 1) := by decide +kernel
theorem dX7_falls_29 : decode cX7_falls 29 = .ok (.getfield 41, 3) := by decide +kernel
theorem dX7_falls_32 : decode cX7_falls 32 = .ok (.bipush 21, 2) := by decide +kernel
theorem dX7_falls_34 : decode cX7_falls 34 = .ok (.iload_n 1, 1) := by decide +kernel
theorem dX7_falls_35 : decode cX7_falls 35 = .ok (.iadd, 1) := by decide +kernel
theorem dX7_falls_36 : decode cX7_falls 36 = .ok (.iaload, 1) := by decide +kernel
theorem dX7_falls_37 : decode cX7_falls 37 = .ok (.isub, 1) := by decide +kernel
theorem dX7_falls_38 : decode cX7_falls 38 = .ok (.aload_n 0, 1) := by decide +kernel
theorem dX7_falls_39 : decode cX7_falls 39 = .ok (.getfield 41, 3) := by decide +kernel
theorem dX7_falls_42 : decode cX7_falls 42 = .ok (.iconst 0, 1) := by decide +kernel
theorem dX7_falls_43 : decode cX7_falls 43 = .ok (.iaload, 1) := by decide +kernel
theorem dX7_falls_44 : decode cX7_falls 44 = .ok (.iadd, 1) := by decide +kernel
theorem dX7_falls_45 : decode cX7_falls 45 = .ok (.iconst 1, 1) := by decide +kernel
theorem dX7_falls_46 : decode cX7_falls 46 = .ok (.isub, 1) := by decide +kernel
theorem dX7_falls_47 : decode cX7_falls 47 = .ok (.aload_n 0, 1) := by decide +kernel
theorem dX7_falls_48 : decode cX7_falls 48 = .ok (.getfield 41, 3) := by decide +kernel
theorem dX7_falls_51 : decode cX7_falls 51 = .ok (.iconst 0, 1) := by decide +kernel
theorem dX7_falls_52 : decode cX7_falls 52 = .ok (.iaload, 1) := by decide +kernel
theorem dX7_falls_53 : decode cX7_falls 53 = .ok (.idiv, 1) := by decide +kernel
theorem dX7_falls_54 : decode cX7_falls 54 = .ok (.goto 5, 3) := by decide +kernel
theorem dX7_falls_57 : decode cX7_falls 57 = .ok (.bipush (-4), 2) := by decide +kernel
theorem dX7_falls_59 : decode cX7_falls 59 = .ok (.ireturn, 1) := by decide +kernel
theorem dX7_goOn_0 : decode cX7_goOn 0 = .ok (.aload_n 0, 1) := by decide +kernel
theorem dX7_goOn_1 : decode cX7_goOn 1 = .ok (.getfield 44, 3) := by decide +kernel
theorem dX7_goOn_4 : decode cX7_goOn 4 = .ok (.iconst 3, 1) := by decide +kernel
theorem dX7_goOn_5 : decode cX7_goOn 5 = .ok (.iload_n 1, 1) := by decide +kernel
theorem dX7_goOn_6 : decode cX7_goOn 6 = .ok (.iadd, 1) := by decide +kernel
theorem dX7_goOn_7 : decode cX7_goOn 7 = .ok (.iaload, 1) := by decide +kernel
theorem dX7_goOn_8 : decode cX7_goOn 8 = .ok (.iconst 1, 1) := by decide +kernel
theorem dX7_goOn_9 : decode cX7_goOn 9 = .ok (.if_icmp .ne 15, 3) := by decide +kernel
theorem dX7_goOn_12 : decode cX7_goOn 12 = .ok (.aload_n 0, 1) := by decide +kernel
theorem dX7_goOn_13 : decode cX7_goOn 13 = .ok (.aload_n 0, 1) := by decide +kernel
theorem dX7_goOn_14 : decode cX7_goOn 14 = .ok (.getfield 44, 3) := by decide +kernel
theorem dX7_goOn_17 : decode cX7_goOn 17 = .ok (.invokevirtual 156, 3) := by decide +kernel
theorem dX7_goOn_20 : decode cX7_goOn 20 = .ok (.pop, 1) := by decide +kernel
theorem dX7_goOn_21 : decode cX7_goOn 21 = .ok (.goto (-21), 3) := by decide +kernel
theorem dX7_goOn_24 : decode cX7_goOn 24 = .ok (.return_, 1) := by decide +kernel
theorem dX7_willBe_0 : decode cX7_willBe 0 = .ok (.aload_n 0, 1) := by decide +kernel
theorem dX7_willBe_1 : decode cX7_willBe 1 = .ok (.iload_n 1, 1) := by decide +kernel
theorem dX7_willBe_2 : decode cX7_willBe 2 = .ok (.invokevirtual 132, 3) := by decide +kernel
theorem dX7_willBe_5 : decode cX7_willBe 5 = .ok (.ifCond .ne 5, 3) := by decide +kernel
theorem dX7_willBe_8 : decode cX7_willBe 8 = .ok (.iconst (-1), 1) := by decide +kernel
theorem dX7_willBe_9 : decode cX7_willBe 9 = .ok (.ireturn, 1) := by decide +kernel
theorem dX7_willBe_10 : decode cX7_willBe 10 = .ok (.aload_n 0, 1) := by decide +kernel
theorem dX7_willBe_11 : decode cX7_willBe 11 = .ok (.invokevirtual 166, 3) := by decide +kernel
theorem dX7_willBe_14 : decode cX7_willBe 14 = .ok (.aload_n 0, 1) := by decide +kernel
theorem dX7_willBe_15 : decode cX7_willBe 15 = .ok (.iload_n 1, 1) := by decide +kernel
theorem dX7_willBe_16 : decode cX7_willBe 16 = .ok (.invokevirtual 169, 3) := by decide +kernel
theorem dX7_willBe_19 : decode cX7_willBe 19 = .ok (.aload_n 0, 1) := by decide +kernel
theorem dX7_willBe_20 : decode cX7_willBe 20 = .ok (.getfield 41, 3) := by decide +kernel
theorem dX7_willBe_23 : decode cX7_willBe 23 = .ok (.iconst 3, 1) := by decide +kernel
theorem dX7_willBe_24 : decode cX7_willBe 24 = .ok (.iload_n 1, 1) := by decide +kernel
theorem dX7_willBe_25 : decode cX7_willBe 25 = .ok (.iadd, 1) := by decide +kernel
theorem dX7_willBe_26 : decode cX7_willBe 26 = .ok (.iaload, 1) := by decide +kernel
theorem dX7_willBe_27 : decode cX7_willBe 27 = .ok (.iconst 3, 1) := by decide +kernel
theorem dX7_willBe_28 : decode cX7_willBe 28 = .ok (.if_icmp .ne 8, 3) := by decide +kernel
theorem dX7_willBe_31 : decode cX7_willBe 31 = .ok (.bipush (-4), 2) := by decide +kernel
theorem dX7_willBe_33 : decode cX7_willBe 33 = .ok (.goto 12, 3) := by decide +kernel
theorem dX7_willBe_36 : decode cX7_willBe 36 = .ok (.aload_n 0, 1) := by decide +kernel
theorem dX7_willBe_37 : decode cX7_willBe 37 = .ok (.getfield 44, 3) := by decide +kernel
theorem dX7_willBe_40 : decode cX7_willBe 40 = .ok (.bipush 30, 2) := by decide +kernel
theorem dX7_willBe_42 : decode cX7_willBe 42 = .ok (.iload_n 1, 1) := by decide +kernel
theorem dX7_willBe_43 : decode cX7_willBe 43 = .ok (.iadd, 1) := by decide +kernel
theorem dX7_willBe_44 : decode cX7_willBe 44 = .ok (.iaload, 1) := by decide +kernel
theorem dX7_willBe_45 : decode cX7_willBe 45 = .ok (.ireturn, 1) := by decide +kernel
theorem dX7_contentOf_0 : decode cX7_contentOf 0 = .ok (.iconst 0, 1) := by decide +kernel
theorem dX7_contentOf_1 : decode cX7_contentOf 1 = .ok (.istore_n 2, 1) := by decide +kernel
theorem dX7_contentOf_2 : decode cX7_contentOf 2 = .ok (.iconst 0, 1) := by decide +kernel
theorem dX7_contentOf_3 : decode cX7_contentOf 3 = .ok (.istore_n 3, 1) := by decide +kernel
theorem dX7_contentOf_4 : decode cX7_contentOf 4 = .ok (.iload_n 3, 1) := by decide +kernel
theorem dX7_contentOf_5 : decode cX7_contentOf 5 = .ok (.aload_n 0, 1) := by decide +kernel
theorem dX7_contentOf_6 : decode cX7_contentOf 6 = .ok (.getfield 13, 3) := by decide +kernel
theorem dX7_contentOf_9 : decode cX7_contentOf 9 = .ok (.iconst 0, 1) := by decide +kernel
theorem dX7_contentOf_10 : decode cX7_contentOf 10 = .ok (.iaload, 1) := by decide +kernel
theorem dX7_contentOf_11 : decode cX7_contentOf 11 = .ok (.if_icmp .ge 46, 3) := by decide +kernel
theorem dX7_contentOf_14 : decode cX7_contentOf 14 = .ok (.aload_n 1, 1) := by decide +kernel
theorem dX7_contentOf_15 : decode cX7_contentOf 15 = .ok (.bipush 39, 2) := by decide +kernel
theorem dX7_contentOf_17 : decode cX7_contentOf 17 = .ok (.iload_n 3, 1) := by decide +kernel
theorem dX7_contentOf_18 : decode cX7_contentOf 18 = .ok (.iadd, 1) := by decide +kernel
theorem dX7_contentOf_19 : decode cX7_contentOf 19 = .ok (.iaload, 1) := by decide +kernel
theorem dX7_contentOf_20 : decode cX7_contentOf 20 = .ok (.istore 4, 2) := by decide +kernel
theorem dX7_contentOf_22 : decode cX7_contentOf 22 = .ok (.iload_n 2, 1) := by decide +kernel
theorem dX7_contentOf_23 : decode cX7_contentOf 23 = .ok (.iload 4, 2) := by decide +kernel
theorem dX7_contentOf_25 : decode cX7_contentOf 25 = .ok (.bipush (-4), 2) := by decide +kernel
theorem dX7_contentOf_27 : decode cX7_contentOf 27 = .ok (.if_icmp .eq 21, 3) := by decide +kernel
theorem dX7_contentOf_30 : decode cX7_contentOf 30 = .ok (.aload_n 0, 1) := by decide +kernel
theorem dX7_contentOf_31 : decode cX7_contentOf 31 = .ok (.aload_n 1, 1) := by decide +kernel
theorem dX7_contentOf_32 : decode cX7_contentOf 32 = .ok (.iload 4, 2) := by decide +kernel
theorem dX7_contentOf_34 : decode cX7_contentOf 34 = .ok (.iload_n 3, 1) := by decide +kernel
theorem dX7_contentOf_35 : decode cX7_contentOf 35 = .ok (.invokevirtual 136, 3) := by decide +kernel
theorem dX7_contentOf_38 : decode cX7_contentOf 38 = .ok (.ifCond .eq 10, 3) := by decide +kernel
theorem dX7_contentOf_41 : decode cX7_contentOf 41 = .ok (.iconst 1, 1) := by decide +kernel
theorem dX7_contentOf_42 : decode cX7_contentOf 42 = .ok (.iload 4, 2) := by decide +kernel
theorem dX7_contentOf_44 : decode cX7_contentOf 44 = .ok (.ishl, 1) := by decide +kernel
theorem dX7_contentOf_45 : decode cX7_contentOf 45 = .ok (.goto 4, 3) := by decide +kernel
theorem dX7_contentOf_48 : decode cX7_contentOf 48 = .ok (.iconst 0, 1) := by decide +kernel
theorem dX7_contentOf_49 : decode cX7_contentOf 49 = .ok (.ior, 1) := by decide +kernel
theorem dX7_contentOf_50 : decode cX7_contentOf 50 = .ok (.istore_n 2, 1) := by decide +kernel
theorem dX7_contentOf_51 : decode cX7_contentOf 51 = .ok (.iinc 3 1, 3) := by decide +kernel
theorem dX7_contentOf_54 : decode cX7_contentOf 54 = .ok (.goto (-50), 3) := by decide +kernel
theorem dX7_contentOf_57 : decode cX7_contentOf 57 = .ok (.iload_n 2, 1) := by decide +kernel
theorem dX7_contentOf_58 : decode cX7_contentOf 58 = .ok (.ireturn, 1) := by decide +kernel
theorem dX7_content_0 : decode cX7_content 0 = .ok (.aload_n 0, 1) := by decide +kernel
theorem dX7_content_1 : decode cX7_content 1 = .ok (.aload_n 0, 1) := by decide +kernel
theorem dX7_content_2 : decode cX7_content 2 = .ok (.getfield 41, 3) := by decide +kernel
theorem dX7_content_5 : decode cX7_content 5 = .ok (.invokevirtual 172, 3) := by decide +kernel
theorem dX7_content_8 : decode cX7_content 8 = .ok (.ireturn, 1) := by decide +kernel
theorem dX7_isRightBy_0 : decode cX7_isRightBy 0 = .ok (.aload_n 0, 1) := by decide +kernel
theorem dX7_isRightBy_1 : decode cX7_isRightBy 1 = .ok (.aload_n 0, 1) := by decide +kernel
theorem dX7_isRightBy_2 : decode cX7_isRightBy 2 = .ok (.getfield 44, 3) := by decide +kernel
theorem dX7_isRightBy_5 : decode cX7_isRightBy 5 = .ok (.iload_n 1, 1) := by decide +kernel
theorem dX7_isRightBy_6 : decode cX7_isRightBy 6 = .ok (.iload_n 2, 1) := by decide +kernel
theorem dX7_isRightBy_7 : decode cX7_isRightBy 7 = .ok (.invokevirtual 152, 3) := by decide +kernel
theorem dX7_isRightBy_10 : decode cX7_isRightBy 10 = .ok (.aload_n 0, 1) := by decide +kernel
theorem dX7_isRightBy_11 : decode cX7_isRightBy 11 = .ok (.iload_n 1, 1) := by decide +kernel
theorem dX7_isRightBy_12 : decode cX7_isRightBy 12 = .ok (.invokevirtual 169, 3) := by decide +kernel
theorem dX7_isRightBy_15 : decode cX7_isRightBy 15 = .ok (.aload_n 0, 1) := by decide +kernel
theorem dX7_isRightBy_16 : decode cX7_isRightBy 16 = .ok (.aload_n 0, 1) := by decide +kernel
theorem dX7_isRightBy_17 : decode cX7_isRightBy 17 = .ok (.getfield 44, 3) := by decide +kernel
theorem dX7_isRightBy_20 : decode cX7_isRightBy 20 = .ok (.iload_n 1, 1) := by decide +kernel
theorem dX7_isRightBy_21 : decode cX7_isRightBy 21 = .ok (.iload_n 1, 1) := by decide +kernel
theorem dX7_isRightBy_22 : decode cX7_isRightBy 22 = .ok (.invokevirtual 136, 3) := by decide +kernel
theorem dX7_isRightBy_25 : decode cX7_isRightBy 25 = .ok (.ireturn, 1) := by decide +kernel
theorem dX7_knobFor_0 : decode cX7_knobFor 0 = .ok (.aload_n 0, 1) := by decide +kernel
theorem dX7_knobFor_1 : decode cX7_knobFor 1 = .ok (.iload_n 1, 1) := by decide +kernel
theorem dX7_knobFor_2 : decode cX7_knobFor 2 = .ok (.invokevirtual 132, 3) := by decide +kernel
theorem dX7_knobFor_5 : decode cX7_knobFor 5 = .ok (.ifCond .eq 10, 3) := by decide +kernel
theorem dX7_knobFor_8 : decode cX7_knobFor 8 = .ok (.iload_n 2, 1) := by decide +kernel
theorem dX7_knobFor_9 : decode cX7_knobFor 9 = .ok (.invokestatic 140, 3) := by decide +kernel
theorem dX7_knobFor_12 : decode cX7_knobFor 12 = .ok (.ifCond .ne 5, 3) := by decide +kernel
theorem dX7_knobFor_15 : decode cX7_knobFor 15 = .ok (.iconst (-1), 1) := by decide +kernel
theorem dX7_knobFor_16 : decode cX7_knobFor 16 = .ok (.ireturn, 1) := by decide +kernel
theorem dX7_knobFor_17 : decode cX7_knobFor 17 = .ok (.aload_n 0, 1) := by decide +kernel
theorem dX7_knobFor_18 : decode cX7_knobFor 18 = .ok (.iload_n 1, 1) := by decide +kernel
theorem dX7_knobFor_19 : decode cX7_knobFor 19 = .ok (.invokevirtual 143, 3) := by decide +kernel
theorem dX7_knobFor_22 : decode cX7_knobFor 22 = .ok (.ifCond .ne 6, 3) := by decide +kernel
theorem dX7_knobFor_25 : decode cX7_knobFor 25 = .ok (.bipush (-2), 2) := by decide +kernel
theorem dX7_knobFor_27 : decode cX7_knobFor 27 = .ok (.ireturn, 1) := by decide +kernel
theorem dX7_knobFor_28 : decode cX7_knobFor 28 = .ok (.iconst 1, 1) := by decide +kernel
theorem dX7_knobFor_29 : decode cX7_knobFor 29 = .ok (.istore_n 3, 1) := by decide +kernel
theorem dX7_knobFor_30 : decode cX7_knobFor 30 = .ok (.iload_n 3, 1) := by decide +kernel
theorem dX7_knobFor_31 : decode cX7_knobFor 31 = .ok (.bipush 9, 2) := by decide +kernel
theorem dX7_knobFor_33 : decode cX7_knobFor 33 = .ok (.if_icmp .gt 31, 3) := by decide +kernel
theorem dX7_knobFor_36 : decode cX7_knobFor 36 = .ok (.aload_n 0, 1) := by decide +kernel
theorem dX7_knobFor_37 : decode cX7_knobFor 37 = .ok (.invokevirtual 166, 3) := by decide +kernel
theorem dX7_knobFor_40 : decode cX7_knobFor 40 = .ok (.aload_n 0, 1) := by decide +kernel
theorem dX7_knobFor_41 : decode cX7_knobFor 41 = .ok (.getfield 44, 3) := by decide +kernel
theorem dX7_knobFor_44 : decode cX7_knobFor 44 = .ok (.iconst 0, 1) := by decide +kernel
theorem dX7_knobFor_45 : decode cX7_knobFor 45 = .ok (.iload_n 3, 1) := by decide +kernel
theorem dX7_knobFor_46 : decode cX7_knobFor 46 = .ok (.iastore, 1) := by decide +kernel
theorem dX7_knobFor_47 : decode cX7_knobFor 47 = .ok (.aload_n 0, 1) := by decide +kernel
theorem dX7_knobFor_48 : decode cX7_knobFor 48 = .ok (.iload_n 1, 1) := by decide +kernel
theorem dX7_knobFor_49 : decode cX7_knobFor 49 = .ok (.iload_n 2, 1) := by decide +kernel
theorem dX7_knobFor_50 : decode cX7_knobFor 50 = .ok (.invokevirtual 175, 3) := by decide +kernel
theorem dX7_knobFor_53 : decode cX7_knobFor 53 = .ok (.ifCond .eq 5, 3) := by decide +kernel
theorem dX7_knobFor_56 : decode cX7_knobFor 56 = .ok (.iload_n 3, 1) := by decide +kernel
theorem dX7_knobFor_57 : decode cX7_knobFor 57 = .ok (.ireturn, 1) := by decide +kernel
theorem dX7_knobFor_58 : decode cX7_knobFor 58 = .ok (.iinc 3 1, 3) := by decide +kernel
theorem dX7_knobFor_61 : decode cX7_knobFor 61 = .ok (.goto (-31), 3) := by decide +kernel
theorem dX7_knobFor_64 : decode cX7_knobFor 64 = .ok (.bipush (-4), 2) := by decide +kernel
theorem dX7_knobFor_66 : decode cX7_knobFor 66 = .ok (.ireturn, 1) := by decide +kernel
theorem dX7_often_0 : decode cX7_often 0 = .ok (.aload_n 0, 1) := by decide +kernel
theorem dX7_often_1 : decode cX7_often 1 = .ok (.iload_n 1, 1) := by decide +kernel
theorem dX7_often_2 : decode cX7_often 2 = .ok (.invokevirtual 132, 3) := by decide +kernel
theorem dX7_often_5 : decode cX7_often 5 = .ok (.ifCond .eq 10, 3) := by decide +kernel
theorem dX7_often_8 : decode cX7_often 8 = .ok (.iload_n 2, 1) := by decide +kernel
theorem dX7_often_9 : decode cX7_often 9 = .ok (.invokestatic 140, 3) := by decide +kernel
theorem dX7_often_12 : decode cX7_often 12 = .ok (.ifCond .ne 5, 3) := by decide +kernel
theorem dX7_often_15 : decode cX7_often 15 = .ok (.iconst (-1), 1) := by decide +kernel
theorem dX7_often_16 : decode cX7_often 16 = .ok (.ireturn, 1) := by decide +kernel
theorem dX7_often_17 : decode cX7_often 17 = .ok (.aload_n 0, 1) := by decide +kernel
theorem dX7_often_18 : decode cX7_often 18 = .ok (.iload_n 1, 1) := by decide +kernel
theorem dX7_often_19 : decode cX7_often 19 = .ok (.invokevirtual 143, 3) := by decide +kernel
theorem dX7_often_22 : decode cX7_often 22 = .ok (.ifCond .ne 6, 3) := by decide +kernel
theorem dX7_often_25 : decode cX7_often 25 = .ok (.bipush (-2), 2) := by decide +kernel
theorem dX7_often_27 : decode cX7_often 27 = .ok (.ireturn, 1) := by decide +kernel
theorem dX7_often_28 : decode cX7_often 28 = .ok (.aload_n 0, 1) := by decide +kernel
theorem dX7_often_29 : decode cX7_often 29 = .ok (.invokevirtual 166, 3) := by decide +kernel
theorem dX7_often_32 : decode cX7_often 32 = .ok (.iconst 1, 1) := by decide +kernel
theorem dX7_often_33 : decode cX7_often 33 = .ok (.istore_n 3, 1) := by decide +kernel
theorem dX7_often_34 : decode cX7_often 34 = .ok (.iload_n 3, 1) := by decide +kernel
theorem dX7_often_35 : decode cX7_often 35 = .ok (.iconst 5, 1) := by decide +kernel
theorem dX7_often_36 : decode cX7_often 36 = .ok (.if_icmp .gt 20, 3) := by decide +kernel
theorem dX7_often_39 : decode cX7_often 39 = .ok (.aload_n 0, 1) := by decide +kernel
theorem dX7_often_40 : decode cX7_often 40 = .ok (.iload_n 1, 1) := by decide +kernel
theorem dX7_often_41 : decode cX7_often 41 = .ok (.iload_n 2, 1) := by decide +kernel
theorem dX7_often_42 : decode cX7_often 42 = .ok (.invokevirtual 175, 3) := by decide +kernel
theorem dX7_often_45 : decode cX7_often 45 = .ok (.ifCond .eq 5, 3) := by decide +kernel
theorem dX7_often_48 : decode cX7_often 48 = .ok (.iload_n 3, 1) := by decide +kernel
theorem dX7_often_49 : decode cX7_often 49 = .ok (.ireturn, 1) := by decide +kernel
theorem dX7_often_50 : decode cX7_often 50 = .ok (.iinc 3 1, 3) := by decide +kernel
theorem dX7_often_53 : decode cX7_often 53 = .ok (.goto (-19), 3) := by decide +kernel
theorem dX7_often_56 : decode cX7_often 56 = .ok (.bipush (-4), 2) := by decide +kernel
theorem dX7_often_58 : decode cX7_often 58 = .ok (.ireturn, 1) := by decide +kernel
theorem dX7_waits_0 : decode cX7_waits 0 = .ok (.aload_n 0, 1) := by decide +kernel
theorem dX7_waits_1 : decode cX7_waits 1 = .ok (.iload_n 1, 1) := by decide +kernel
theorem dX7_waits_2 : decode cX7_waits 2 = .ok (.invokevirtual 132, 3) := by decide +kernel
theorem dX7_waits_5 : decode cX7_waits 5 = .ok (.ifCond .eq 10, 3) := by decide +kernel
theorem dX7_waits_8 : decode cX7_waits 8 = .ok (.iload_n 2, 1) := by decide +kernel
theorem dX7_waits_9 : decode cX7_waits 9 = .ok (.invokestatic 140, 3) := by decide +kernel
theorem dX7_waits_12 : decode cX7_waits 12 = .ok (.ifCond .ne 5, 3) := by decide +kernel
theorem dX7_waits_15 : decode cX7_waits 15 = .ok (.iconst (-1), 1) := by decide +kernel
theorem dX7_waits_16 : decode cX7_waits 16 = .ok (.ireturn, 1) := by decide +kernel
theorem dX7_waits_17 : decode cX7_waits 17 = .ok (.aload_n 0, 1) := by decide +kernel
theorem dX7_waits_18 : decode cX7_waits 18 = .ok (.iload_n 1, 1) := by decide +kernel
theorem dX7_waits_19 : decode cX7_waits 19 = .ok (.invokevirtual 143, 3) := by decide +kernel
theorem dX7_waits_22 : decode cX7_waits 22 = .ok (.ifCond .ne 6, 3) := by decide +kernel
theorem dX7_waits_25 : decode cX7_waits 25 = .ok (.bipush (-2), 2) := by decide +kernel
theorem dX7_waits_27 : decode cX7_waits 27 = .ok (.ireturn, 1) := by decide +kernel
theorem dX7_waits_28 : decode cX7_waits 28 = .ok (.iconst 0, 1) := by decide +kernel
theorem dX7_waits_29 : decode cX7_waits 29 = .ok (.istore_n 3, 1) := by decide +kernel
theorem dX7_waits_30 : decode cX7_waits 30 = .ok (.iload_n 3, 1) := by decide +kernel
theorem dX7_waits_31 : decode cX7_waits 31 = .ok (.bipush 30, 2) := by decide +kernel
theorem dX7_waits_33 : decode cX7_waits 33 = .ok (.if_icmp .gt 48, 3) := by decide +kernel
theorem dX7_waits_36 : decode cX7_waits 36 = .ok (.aload_n 0, 1) := by decide +kernel
theorem dX7_waits_37 : decode cX7_waits 37 = .ok (.invokevirtual 166, 3) := by decide +kernel
theorem dX7_waits_40 : decode cX7_waits 40 = .ok (.iconst 0, 1) := by decide +kernel
theorem dX7_waits_41 : decode cX7_waits 41 = .ok (.istore 4, 2) := by decide +kernel
theorem dX7_waits_43 : decode cX7_waits 43 = .ok (.iload 4, 2) := by decide +kernel
theorem dX7_waits_45 : decode cX7_waits 45 = .ok (.iload_n 3, 1) := by decide +kernel
theorem dX7_waits_46 : decode cX7_waits 46 = .ok (.if_icmp .ge 18, 3) := by decide +kernel
theorem dX7_waits_49 : decode cX7_waits 49 = .ok (.aload_n 0, 1) := by decide +kernel
theorem dX7_waits_50 : decode cX7_waits 50 = .ok (.aload_n 0, 1) := by decide +kernel
theorem dX7_waits_51 : decode cX7_waits 51 = .ok (.getfield 44, 3) := by decide +kernel
theorem dX7_waits_54 : decode cX7_waits 54 = .ok (.invokevirtual 156, 3) := by decide +kernel
theorem dX7_waits_57 : decode cX7_waits 57 = .ok (.pop, 1) := by decide +kernel
theorem dX7_waits_58 : decode cX7_waits 58 = .ok (.iinc 4 1, 3) := by decide +kernel
theorem dX7_waits_61 : decode cX7_waits 61 = .ok (.goto (-18), 3) := by decide +kernel
theorem dX7_waits_64 : decode cX7_waits 64 = .ok (.aload_n 0, 1) := by decide +kernel
theorem dX7_waits_65 : decode cX7_waits 65 = .ok (.iload_n 1, 1) := by decide +kernel
theorem dX7_waits_66 : decode cX7_waits 66 = .ok (.iload_n 2, 1) := by decide +kernel
theorem dX7_waits_67 : decode cX7_waits 67 = .ok (.invokevirtual 175, 3) := by decide +kernel
theorem dX7_waits_70 : decode cX7_waits 70 = .ok (.ifCond .eq 5, 3) := by decide +kernel
theorem dX7_waits_73 : decode cX7_waits 73 = .ok (.iload_n 3, 1) := by decide +kernel
theorem dX7_waits_74 : decode cX7_waits 74 = .ok (.ireturn, 1) := by decide +kernel
theorem dX7_waits_75 : decode cX7_waits 75 = .ok (.iinc 3 1, 3) := by decide +kernel
theorem dX7_waits_78 : decode cX7_waits 78 = .ok (.goto (-48), 3) := by decide +kernel
theorem dX7_waits_81 : decode cX7_waits 81 = .ok (.bipush (-4), 2) := by decide +kernel
theorem dX7_waits_83 : decode cX7_waits 83 = .ok (.ireturn, 1) := by decide +kernel
theorem dX7_rightBy_0 : decode cX7_rightBy 0 = .ok (.iconst 0, 1) := by decide +kernel
theorem dX7_rightBy_1 : decode cX7_rightBy 1 = .ok (.istore_n 2, 1) := by decide +kernel
theorem dX7_rightBy_2 : decode cX7_rightBy 2 = .ok (.aload_n 0, 1) := by decide +kernel
theorem dX7_rightBy_3 : decode cX7_rightBy 3 = .ok (.invokevirtual 166, 3) := by decide +kernel
theorem dX7_rightBy_6 : decode cX7_rightBy 6 = .ok (.aload_n 0, 1) := by decide +kernel
theorem dX7_rightBy_7 : decode cX7_rightBy 7 = .ok (.getfield 44, 3) := by decide +kernel
theorem dX7_rightBy_10 : decode cX7_rightBy 10 = .ok (.iconst 0, 1) := by decide +kernel
theorem dX7_rightBy_11 : decode cX7_rightBy 11 = .ok (.iload_n 1, 1) := by decide +kernel
theorem dX7_rightBy_12 : decode cX7_rightBy 12 = .ok (.iastore, 1) := by decide +kernel
theorem dX7_rightBy_13 : decode cX7_rightBy 13 = .ok (.iconst 0, 1) := by decide +kernel
theorem dX7_rightBy_14 : decode cX7_rightBy 14 = .ok (.istore_n 3, 1) := by decide +kernel
theorem dX7_rightBy_15 : decode cX7_rightBy 15 = .ok (.iload_n 3, 1) := by decide +kernel
theorem dX7_rightBy_16 : decode cX7_rightBy 16 = .ok (.aload_n 0, 1) := by decide +kernel
theorem dX7_rightBy_17 : decode cX7_rightBy 17 = .ok (.getfield 13, 3) := by decide +kernel
theorem dX7_rightBy_20 : decode cX7_rightBy 20 = .ok (.iconst 0, 1) := by decide +kernel
theorem dX7_rightBy_21 : decode cX7_rightBy 21 = .ok (.iaload, 1) := by decide +kernel
theorem dX7_rightBy_22 : decode cX7_rightBy 22 = .ok (.if_icmp .ge 14, 3) := by decide +kernel
theorem dX7_rightBy_25 : decode cX7_rightBy 25 = .ok (.aload_n 0, 1) := by decide +kernel
theorem dX7_rightBy_26 : decode cX7_rightBy 26 = .ok (.iload_n 3, 1) := by decide +kernel
theorem dX7_rightBy_27 : decode cX7_rightBy 27 = .ok (.invokevirtual 169, 3) := by decide +kernel
theorem dX7_rightBy_30 : decode cX7_rightBy 30 = .ok (.iinc 3 1, 3) := by decide +kernel
theorem dX7_rightBy_33 : decode cX7_rightBy 33 = .ok (.goto (-18), 3) := by decide +kernel
theorem dX7_rightBy_36 : decode cX7_rightBy 36 = .ok (.iconst 0, 1) := by decide +kernel
theorem dX7_rightBy_37 : decode cX7_rightBy 37 = .ok (.istore_n 3, 1) := by decide +kernel
theorem dX7_rightBy_38 : decode cX7_rightBy 38 = .ok (.iload_n 3, 1) := by decide +kernel
theorem dX7_rightBy_39 : decode cX7_rightBy 39 = .ok (.aload_n 0, 1) := by decide +kernel
theorem dX7_rightBy_40 : decode cX7_rightBy 40 = .ok (.getfield 13, 3) := by decide +kernel
theorem dX7_rightBy_43 : decode cX7_rightBy 43 = .ok (.iconst 0, 1) := by decide +kernel
theorem dX7_rightBy_44 : decode cX7_rightBy 44 = .ok (.iaload, 1) := by decide +kernel
theorem dX7_rightBy_45 : decode cX7_rightBy 45 = .ok (.if_icmp .ge 44, 3) := by decide +kernel
theorem dX7_rightBy_48 : decode cX7_rightBy 48 = .ok (.iload_n 2, 1) := by decide +kernel
theorem dX7_rightBy_49 : decode cX7_rightBy 49 = .ok (.aload_n 0, 1) := by decide +kernel
theorem dX7_rightBy_50 : decode cX7_rightBy 50 = .ok (.getfield 41, 3) := by decide +kernel
theorem dX7_rightBy_53 : decode cX7_rightBy 53 = .ok (.iconst 3, 1) := by decide +kernel
theorem dX7_rightBy_54 : decode cX7_rightBy 54 = .ok (.iload_n 3, 1) := by decide +kernel
theorem dX7_rightBy_55 : decode cX7_rightBy 55 = .ok (.iadd, 1) := by decide +kernel
theorem dX7_rightBy_56 : decode cX7_rightBy 56 = .ok (.iaload, 1) := by decide +kernel
theorem dX7_rightBy_57 : decode cX7_rightBy 57 = .ok (.iconst 1, 1) := by decide +kernel
theorem dX7_rightBy_58 : decode cX7_rightBy 58 = .ok (.if_icmp .ne 22, 3) := by decide +kernel
theorem dX7_rightBy_61 : decode cX7_rightBy 61 = .ok (.aload_n 0, 1) := by decide +kernel
theorem dX7_rightBy_62 : decode cX7_rightBy 62 = .ok (.aload_n 0, 1) := by decide +kernel
theorem dX7_rightBy_63 : decode cX7_rightBy 63 = .ok (.getfield 44, 3) := by decide +kernel
theorem dX7_rightBy_66 : decode cX7_rightBy 66 = .ok (.iload_n 3, 1) := by decide +kernel
theorem dX7_rightBy_67 : decode cX7_rightBy 67 = .ok (.iload_n 3, 1) := by decide +kernel
theorem dX7_rightBy_68 : decode cX7_rightBy 68 = .ok (.invokevirtual 136, 3) := by decide +kernel
theorem dX7_rightBy_71 : decode cX7_rightBy 71 = .ok (.ifCond .eq 9, 3) := by decide +kernel
theorem dX7_rightBy_74 : decode cX7_rightBy 74 = .ok (.iconst 1, 1) := by decide +kernel
theorem dX7_rightBy_75 : decode cX7_rightBy 75 = .ok (.iload_n 3, 1) := by decide +kernel
theorem dX7_rightBy_76 : decode cX7_rightBy 76 = .ok (.ishl, 1) := by decide +kernel
theorem dX7_rightBy_77 : decode cX7_rightBy 77 = .ok (.goto 4, 3) := by decide +kernel
theorem dX7_rightBy_80 : decode cX7_rightBy 80 = .ok (.iconst 0, 1) := by decide +kernel
theorem dX7_rightBy_81 : decode cX7_rightBy 81 = .ok (.ior, 1) := by decide +kernel
theorem dX7_rightBy_82 : decode cX7_rightBy 82 = .ok (.istore_n 2, 1) := by decide +kernel
theorem dX7_rightBy_83 : decode cX7_rightBy 83 = .ok (.iinc 3 1, 3) := by decide +kernel
theorem dX7_rightBy_86 : decode cX7_rightBy 86 = .ok (.goto (-48), 3) := by decide +kernel
theorem dX7_rightBy_89 : decode cX7_rightBy 89 = .ok (.iload_n 2, 1) := by decide +kernel
theorem dX7_rightBy_90 : decode cX7_rightBy 90 = .ok (.ireturn, 1) := by decide +kernel
theorem dX7_harm_0 : decode cX7_harm 0 = .ok (.iload_n 1, 1) := by decide +kernel
theorem dX7_harm_1 : decode cX7_harm 1 = .ok (.iconst 1, 1) := by decide +kernel
theorem dX7_harm_2 : decode cX7_harm 2 = .ok (.bipush 9, 2) := by decide +kernel
theorem dX7_harm_4 : decode cX7_harm 4 = .ok (.invokestatic 78, 3) := by decide +kernel
theorem dX7_harm_7 : decode cX7_harm 7 = .ok (.ifCond .eq 24, 3) := by decide +kernel
theorem dX7_harm_10 : decode cX7_harm 10 = .ok (.aload_n 0, 1) := by decide +kernel
theorem dX7_harm_11 : decode cX7_harm 11 = .ok (.aload_n 0, 1) := by decide +kernel
theorem dX7_harm_12 : decode cX7_harm 12 = .ok (.getfield 41, 3) := by decide +kernel
theorem dX7_harm_15 : decode cX7_harm 15 = .ok (.iconst 0, 1) := by decide +kernel
theorem dX7_harm_16 : decode cX7_harm 16 = .ok (.iaload, 1) := by decide +kernel
theorem dX7_harm_17 : decode cX7_harm 17 = .ok (.invokevirtual 179, 3) := by decide +kernel
theorem dX7_harm_20 : decode cX7_harm 20 = .ok (.aload_n 0, 1) := by decide +kernel
theorem dX7_harm_21 : decode cX7_harm 21 = .ok (.iload_n 1, 1) := by decide +kernel
theorem dX7_harm_22 : decode cX7_harm 22 = .ok (.invokevirtual 179, 3) := by decide +kernel
theorem dX7_harm_25 : decode cX7_harm 25 = .ok (.iconst (-1), 1) := by decide +kernel
theorem dX7_harm_26 : decode cX7_harm 26 = .ok (.ixor, 1) := by decide +kernel
theorem dX7_harm_27 : decode cX7_harm 27 = .ok (.iand, 1) := by decide +kernel
theorem dX7_harm_28 : decode cX7_harm 28 = .ok (.goto 4, 3) := by decide +kernel
theorem dX7_harm_31 : decode cX7_harm 31 = .ok (.iconst (-1), 1) := by decide +kernel
theorem dX7_harm_32 : decode cX7_harm 32 = .ok (.ireturn, 1) := by decide +kernel
theorem dX7_isFor_0 : decode cX7_isFor 0 = .ok (.aload_n 0, 1) := by decide +kernel
theorem dX7_isFor_1 : decode cX7_isFor 1 = .ok (.aload_n 0, 1) := by decide +kernel
theorem dX7_isFor_2 : decode cX7_isFor 2 = .ok (.getfield 41, 3) := by decide +kernel
theorem dX7_isFor_5 : decode cX7_isFor 5 = .ok (.iload_n 1, 1) := by decide +kernel
theorem dX7_isFor_6 : decode cX7_isFor 6 = .ok (.iload_n 2, 1) := by decide +kernel
theorem dX7_isFor_7 : decode cX7_isFor 7 = .ok (.invokevirtual 160, 3) := by decide +kernel
theorem dX7_isFor_10 : decode cX7_isFor 10 = .ok (.ifCond .eq 20, 3) := by decide +kernel
theorem dX7_isFor_13 : decode cX7_isFor 13 = .ok (.aload_n 0, 1) := by decide +kernel
theorem dX7_isFor_14 : decode cX7_isFor 14 = .ok (.aload_n 0, 1) := by decide +kernel
theorem dX7_isFor_15 : decode cX7_isFor 15 = .ok (.getfield 41, 3) := by decide +kernel
theorem dX7_isFor_18 : decode cX7_isFor 18 = .ok (.iload_n 1, 1) := by decide +kernel
theorem dX7_isFor_19 : decode cX7_isFor 19 = .ok (.iload_n 2, 1) := by decide +kernel
theorem dX7_isFor_20 : decode cX7_isFor 20 = .ok (.invokevirtual 136, 3) := by decide +kernel
theorem dX7_isFor_23 : decode cX7_isFor 23 = .ok (.ifCond .eq 7, 3) := by decide +kernel
theorem dX7_isFor_26 : decode cX7_isFor 26 = .ok (.iconst 1, 1) := by decide +kernel
theorem dX7_isFor_27 : decode cX7_isFor 27 = .ok (.goto 4, 3) := by decide +kernel
theorem dX7_isFor_30 : decode cX7_isFor 30 = .ok (.iconst 0, 1) := by decide +kernel
theorem dX7_isFor_31 : decode cX7_isFor 31 = .ok (.ireturn, 1) := by decide +kernel
theorem dX7_measure_0 : decode cX7_measure 0 = .ok (.iconst 0, 1) := by decide +kernel
theorem dX7_measure_1 : decode cX7_measure 1 = .ok (.istore_n 1, 1) := by decide +kernel
theorem dX7_measure_2 : decode cX7_measure 2 = .ok (.iload_n 1, 1) := by decide +kernel
theorem dX7_measure_3 : decode cX7_measure 3 = .ok (.sipush 512, 3) := by decide +kernel
theorem dX7_measure_6 : decode cX7_measure 6 = .ok (.if_icmp .ge 27, 3) := by decide +kernel
theorem dX7_measure_9 : decode cX7_measure 9 = .ok (.aload_n 0, 1) := by decide +kernel
theorem dX7_measure_10 : decode cX7_measure 10 = .ok (.getfield 53, 3) := by decide +kernel
theorem dX7_measure_13 : decode cX7_measure 13 = .ok (.sipush 512, 3) := by decide +kernel
theorem dX7_measure_16 : decode cX7_measure 16 = .ok (.aload_n 0, 1) := by decide +kernel
theorem dX7_measure_17 : decode cX7_measure 17 = .ok (.getfield 13, 3) := by decide +kernel
theorem dX7_measure_20 : decode cX7_measure 20 = .ok (.iconst 0, 1) := by decide +kernel
theorem dX7_measure_21 : decode cX7_measure 21 = .ok (.iaload, 1) := by decide +kernel
theorem dX7_measure_22 : decode cX7_measure 22 = .ok (.imul, 1) := by decide +kernel
theorem dX7_measure_23 : decode cX7_measure 23 = .ok (.iload_n 1, 1) := by decide +kernel
theorem dX7_measure_24 : decode cX7_measure 24 = .ok (.iadd, 1) := by decide +kernel
theorem dX7_measure_25 : decode cX7_measure 25 = .ok (.iconst 0, 1) := by decide +kernel
theorem dX7_measure_26 : decode cX7_measure 26 = .ok (.iastore, 1) := by decide +kernel
theorem dX7_measure_27 : decode cX7_measure 27 = .ok (.iinc 1 1, 3) := by decide +kernel
theorem dX7_measure_30 : decode cX7_measure 30 = .ok (.goto (-28), 3) := by decide +kernel
theorem dX7_measure_33 : decode cX7_measure 33 = .ok (.aload_n 0, 1) := by decide +kernel
theorem dX7_measure_34 : decode cX7_measure 34 = .ok (.getfield 13, 3) := by decide +kernel
theorem dX7_measure_37 : decode cX7_measure 37 = .ok (.iconst 0, 1) := by decide +kernel
theorem dX7_measure_38 : decode cX7_measure 38 = .ok (.iaload, 1) := by decide +kernel
theorem dX7_measure_39 : decode cX7_measure 39 = .ok (.iconst 1, 1) := by decide +kernel
theorem dX7_measure_40 : decode cX7_measure 40 = .ok (.isub, 1) := by decide +kernel
theorem dX7_measure_41 : decode cX7_measure 41 = .ok (.istore_n 1, 1) := by decide +kernel
theorem dX7_measure_42 : decode cX7_measure 42 = .ok (.iload_n 1, 1) := by decide +kernel
theorem dX7_measure_43 : decode cX7_measure 43 = .ok (.ifCond .lt 131, 3) := by decide +kernel
theorem dX7_measure_46 : decode cX7_measure 46 = .ok (.iconst 0, 1) := by decide +kernel
theorem dX7_measure_47 : decode cX7_measure 47 = .ok (.istore_n 2, 1) := by decide +kernel
theorem dX7_measure_48 : decode cX7_measure 48 = .ok (.iload_n 2, 1) := by decide +kernel
theorem dX7_measure_49 : decode cX7_measure 49 = .ok (.sipush 512, 3) := by decide +kernel
theorem dX7_measure_52 : decode cX7_measure 52 = .ok (.if_icmp .ge 116, 3) := by decide +kernel
theorem dX7_measure_55 : decode cX7_measure 55 = .ok (.aload_n 0, 1) := by decide +kernel
theorem dX7_measure_56 : decode cX7_measure 56 = .ok (.getfield 53, 3) := by decide +kernel
theorem dX7_measure_59 : decode cX7_measure 59 = .ok (.sipush 512, 3) := by decide +kernel
theorem dX7_measure_62 : decode cX7_measure 62 = .ok (.iload_n 1, 1) := by decide +kernel
theorem dX7_measure_63 : decode cX7_measure 63 = .ok (.iconst 1, 1) := by decide +kernel
theorem dX7_measure_64 : decode cX7_measure 64 = .ok (.iadd, 1) := by decide +kernel
theorem dX7_measure_65 : decode cX7_measure 65 = .ok (.imul, 1) := by decide +kernel
theorem dX7_measure_66 : decode cX7_measure 66 = .ok (.iload_n 2, 1) := by decide +kernel
theorem dX7_measure_67 : decode cX7_measure 67 = .ok (.iadd, 1) := by decide +kernel
theorem dX7_measure_68 : decode cX7_measure 68 = .ok (.iaload, 1) := by decide +kernel
theorem dX7_measure_69 : decode cX7_measure 69 = .ok (.istore_n 3, 1) := by decide +kernel
theorem dX7_measure_70 : decode cX7_measure 70 = .ok (.iconst 0, 1) := by decide +kernel
theorem dX7_measure_71 : decode cX7_measure 71 = .ok (.istore 4, 2) := by decide +kernel
theorem dX7_measure_73 : decode cX7_measure 73 = .ok (.iload 4, 2) := by decide +kernel
theorem dX7_measure_75 : decode cX7_measure 75 = .ok (.aload_n 0, 1) := by decide +kernel
theorem dX7_measure_76 : decode cX7_measure 76 = .ok (.getfield 13, 3) := by decide +kernel
theorem dX7_measure_79 : decode cX7_measure 79 = .ok (.iconst 0, 1) := by decide +kernel
theorem dX7_measure_80 : decode cX7_measure 80 = .ok (.iaload, 1) := by decide +kernel
theorem dX7_measure_81 : decode cX7_measure 81 = .ok (.if_icmp .ge 68, 3) := by decide +kernel
theorem dX7_measure_84 : decode cX7_measure 84 = .ok (.iload_n 2, 1) := by decide +kernel
theorem dX7_measure_85 : decode cX7_measure 85 = .ok (.iload 4, 2) := by decide +kernel
theorem dX7_measure_87 : decode cX7_measure 87 = .ok (.ishr, 1) := by decide +kernel
theorem dX7_measure_88 : decode cX7_measure 88 = .ok (.iconst 1, 1) := by decide +kernel
theorem dX7_measure_89 : decode cX7_measure 89 = .ok (.iand, 1) := by decide +kernel
theorem dX7_measure_90 : decode cX7_measure 90 = .ok (.ifCond .ne 37, 3) := by decide +kernel
theorem dX7_measure_93 : decode cX7_measure 93 = .ok (.aload_n 0, 1) := by decide +kernel
theorem dX7_measure_94 : decode cX7_measure 94 = .ok (.iload_n 1, 1) := by decide +kernel
theorem dX7_measure_95 : decode cX7_measure 95 = .ok (.iload 4, 2) := by decide +kernel
theorem dX7_measure_97 : decode cX7_measure 97 = .ok (.invokevirtual 183, 3) := by decide +kernel
theorem dX7_measure_100 : decode cX7_measure 100 = .ok (.ifCond .eq 27, 3) := by decide +kernel
theorem dX7_measure_103 : decode cX7_measure 103 = .ok (.iconst 1, 1) := by decide +kernel
theorem dX7_measure_104 : decode cX7_measure 104 = .ok (.aload_n 0, 1) := by decide +kernel
theorem dX7_measure_105 : decode cX7_measure 105 = .ok (.getfield 53, 3) := by decide +kernel
theorem dX7_measure_108 : decode cX7_measure 108 = .ok (.sipush 512, 3) := by decide +kernel
theorem dX7_measure_111 : decode cX7_measure 111 = .ok (.iload_n 1, 1) := by decide +kernel
theorem dX7_measure_112 : decode cX7_measure 112 = .ok (.iconst 1, 1) := by decide +kernel
theorem dX7_measure_113 : decode cX7_measure 113 = .ok (.iadd, 1) := by decide +kernel
theorem dX7_measure_114 : decode cX7_measure 114 = .ok (.imul, 1) := by decide +kernel
theorem dX7_measure_115 : decode cX7_measure 115 = .ok (.iload_n 2, 1) := by decide +kernel
theorem dX7_measure_116 : decode cX7_measure 116 = .ok (.iconst 1, 1) := by decide +kernel
theorem dX7_measure_117 : decode cX7_measure 117 = .ok (.iload 4, 2) := by decide +kernel
theorem dX7_measure_119 : decode cX7_measure 119 = .ok (.ishl, 1) := by decide +kernel
theorem dX7_measure_120 : decode cX7_measure 120 = .ok (.ior, 1) := by decide +kernel
theorem dX7_measure_121 : decode cX7_measure 121 = .ok (.iadd, 1) := by decide +kernel
theorem dX7_measure_122 : decode cX7_measure 122 = .ok (.iaload, 1) := by decide +kernel
theorem dX7_measure_123 : decode cX7_measure 123 = .ok (.iadd, 1) := by decide +kernel
theorem dX7_measure_124 : decode cX7_measure 124 = .ok (.goto 4, 3) := by decide +kernel
theorem dX7_measure_127 : decode cX7_measure 127 = .ok (.iconst 0, 1) := by decide +kernel
theorem dX7_measure_128 : decode cX7_measure 128 = .ok (.istore 5, 2) := by decide +kernel
theorem dX7_measure_130 : decode cX7_measure 130 = .ok (.iload 5, 2) := by decide +kernel
theorem dX7_measure_132 : decode cX7_measure 132 = .ok (.iload_n 3, 1) := by decide +kernel
theorem dX7_measure_133 : decode cX7_measure 133 = .ok (.if_icmp .le 8, 3) := by decide +kernel
theorem dX7_measure_136 : decode cX7_measure 136 = .ok (.iload 5, 2) := by decide +kernel
theorem dX7_measure_138 : decode cX7_measure 138 = .ok (.goto 4, 3) := by decide +kernel
theorem dX7_measure_141 : decode cX7_measure 141 = .ok (.iload_n 3, 1) := by decide +kernel
theorem dX7_measure_142 : decode cX7_measure 142 = .ok (.istore_n 3, 1) := by decide +kernel
theorem dX7_measure_143 : decode cX7_measure 143 = .ok (.iinc 4 1, 3) := by decide +kernel
theorem dX7_measure_146 : decode cX7_measure 146 = .ok (.goto (-73), 3) := by decide +kernel
theorem dX7_measure_149 : decode cX7_measure 149 = .ok (.aload_n 0, 1) := by decide +kernel
theorem dX7_measure_150 : decode cX7_measure 150 = .ok (.getfield 53, 3) := by decide +kernel
theorem dX7_measure_153 : decode cX7_measure 153 = .ok (.sipush 512, 3) := by decide +kernel
theorem dX7_measure_156 : decode cX7_measure 156 = .ok (.iload_n 1, 1) := by decide +kernel
theorem dX7_measure_157 : decode cX7_measure 157 = .ok (.imul, 1) := by decide +kernel
theorem dX7_measure_158 : decode cX7_measure 158 = .ok (.iload_n 2, 1) := by decide +kernel
theorem dX7_measure_159 : decode cX7_measure 159 = .ok (.iadd, 1) := by decide +kernel
theorem dX7_measure_160 : decode cX7_measure 160 = .ok (.iload_n 3, 1) := by decide +kernel
theorem dX7_measure_161 : decode cX7_measure 161 = .ok (.iastore, 1) := by decide +kernel
theorem dX7_measure_162 : decode cX7_measure 162 = .ok (.iinc 2 1, 3) := by decide +kernel
theorem dX7_measure_165 : decode cX7_measure 165 = .ok (.goto (-117), 3) := by decide +kernel
theorem dX7_measure_168 : decode cX7_measure 168 = .ok (.iinc 1 (-1), 3) := by decide +kernel
theorem dX7_measure_171 : decode cX7_measure 171 = .ok (.goto (-129), 3) := by decide +kernel
theorem dX7_measure_174 : decode cX7_measure 174 = .ok (.return_, 1) := by decide +kernel
theorem dX7_giveAll_0 : decode cX7_giveAll 0 = .ok (.aload_n 0, 1) := by decide +kernel
theorem dX7_giveAll_1 : decode cX7_giveAll 1 = .ok (.invokevirtual 186, 3) := by decide +kernel
theorem dX7_giveAll_4 : decode cX7_giveAll 4 = .ok (.iconst 0, 1) := by decide +kernel
theorem dX7_giveAll_5 : decode cX7_giveAll 5 = .ok (.istore_n 1, 1) := by decide +kernel
theorem dX7_giveAll_6 : decode cX7_giveAll 6 = .ok (.iconst 0, 1) := by decide +kernel
theorem dX7_giveAll_7 : decode cX7_giveAll 7 = .ok (.istore_n 2, 1) := by decide +kernel
theorem dX7_giveAll_8 : decode cX7_giveAll 8 = .ok (.iload_n 2, 1) := by decide +kernel
theorem dX7_giveAll_9 : decode cX7_giveAll 9 = .ok (.aload_n 0, 1) := by decide +kernel
theorem dX7_giveAll_10 : decode cX7_giveAll 10 = .ok (.getfield 13, 3) := by decide +kernel
theorem dX7_giveAll_13 : decode cX7_giveAll 13 = .ok (.iconst 0, 1) := by decide +kernel
theorem dX7_giveAll_14 : decode cX7_giveAll 14 = .ok (.iaload, 1) := by decide +kernel
theorem dX7_giveAll_15 : decode cX7_giveAll 15 = .ok (.if_icmp .ge 148, 3) := by decide +kernel
theorem dX7_giveAll_18 : decode cX7_giveAll 18 = .ok (.aload_n 0, 1) := by decide +kernel
theorem dX7_giveAll_19 : decode cX7_giveAll 19 = .ok (.getfield 56, 3) := by decide +kernel
theorem dX7_giveAll_22 : decode cX7_giveAll 22 = .ok (.iload_n 2, 1) := by decide +kernel
theorem dX7_giveAll_23 : decode cX7_giveAll 23 = .ok (.bipush (-4), 2) := by decide +kernel
theorem dX7_giveAll_25 : decode cX7_giveAll 25 = .ok (.iastore, 1) := by decide +kernel
theorem dX7_giveAll_26 : decode cX7_giveAll 26 = .ok (.iconst 0, 1) := by decide +kernel
theorem dX7_giveAll_27 : decode cX7_giveAll 27 = .ok (.istore_n 3, 1) := by decide +kernel
theorem dX7_giveAll_28 : decode cX7_giveAll 28 = .ok (.iload_n 3, 1) := by decide +kernel
theorem dX7_giveAll_29 : decode cX7_giveAll 29 = .ok (.aload_n 0, 1) := by decide +kernel
theorem dX7_giveAll_30 : decode cX7_giveAll 30 = .ok (.getfield 13, 3) := by decide +kernel
theorem dX7_giveAll_33 : decode cX7_giveAll 33 = .ok (.iconst 0, 1) := by decide +kernel
theorem dX7_giveAll_34 : decode cX7_giveAll 34 = .ok (.iaload, 1) := by decide +kernel
theorem dX7_giveAll_35 : decode cX7_giveAll 35 = .ok (.if_icmp .ge 96, 3) := by decide +kernel
theorem dX7_giveAll_38 : decode cX7_giveAll 38 = .ok (.aload_n 0, 1) := by decide +kernel
theorem dX7_giveAll_39 : decode cX7_giveAll 39 = .ok (.getfield 56, 3) := by decide +kernel
theorem dX7_giveAll_42 : decode cX7_giveAll 42 = .ok (.iload_n 2, 1) := by decide +kernel
theorem dX7_giveAll_43 : decode cX7_giveAll 43 = .ok (.iaload, 1) := by decide +kernel
theorem dX7_giveAll_44 : decode cX7_giveAll 44 = .ok (.bipush (-4), 2) := by decide +kernel
theorem dX7_giveAll_46 : decode cX7_giveAll 46 = .ok (.if_icmp .ne 85, 3) := by decide +kernel
theorem dX7_giveAll_49 : decode cX7_giveAll 49 = .ok (.iload_n 1, 1) := by decide +kernel
theorem dX7_giveAll_50 : decode cX7_giveAll 50 = .ok (.iload_n 3, 1) := by decide +kernel
theorem dX7_giveAll_51 : decode cX7_giveAll 51 = .ok (.ishr, 1) := by decide +kernel
theorem dX7_giveAll_52 : decode cX7_giveAll 52 = .ok (.iconst 1, 1) := by decide +kernel
theorem dX7_giveAll_53 : decode cX7_giveAll 53 = .ok (.iand, 1) := by decide +kernel
theorem dX7_giveAll_54 : decode cX7_giveAll 54 = .ok (.ifCond .ne 16, 3) := by decide +kernel
theorem dX7_giveAll_57 : decode cX7_giveAll 57 = .ok (.aload_n 0, 1) := by decide +kernel
theorem dX7_giveAll_58 : decode cX7_giveAll 58 = .ok (.iload_n 2, 1) := by decide +kernel
theorem dX7_giveAll_59 : decode cX7_giveAll 59 = .ok (.iload_n 3, 1) := by decide +kernel
theorem dX7_giveAll_60 : decode cX7_giveAll 60 = .ok (.invokevirtual 183, 3) := by decide +kernel
theorem dX7_giveAll_63 : decode cX7_giveAll 63 = .ok (.ifCond .eq 7, 3) := by decide +kernel
theorem dX7_giveAll_66 : decode cX7_giveAll 66 = .ok (.iconst 1, 1) := by decide +kernel
theorem dX7_giveAll_67 : decode cX7_giveAll 67 = .ok (.goto 4, 3) := by decide +kernel
theorem dX7_giveAll_70 : decode cX7_giveAll 70 = .ok (.iconst 0, 1) := by decide +kernel
theorem dX7_giveAll_71 : decode cX7_giveAll 71 = .ok (.istore 4, 2) := by decide +kernel
theorem dX7_giveAll_73 : decode cX7_giveAll 73 = .ok (.aload_n 0, 1) := by decide +kernel
theorem dX7_giveAll_74 : decode cX7_giveAll 74 = .ok (.getfield 56, 3) := by decide +kernel
theorem dX7_giveAll_77 : decode cX7_giveAll 77 = .ok (.iload_n 2, 1) := by decide +kernel
theorem dX7_giveAll_78 : decode cX7_giveAll 78 = .ok (.iload 4, 2) := by decide +kernel
theorem dX7_giveAll_80 : decode cX7_giveAll 80 = .ok (.ifCond .eq 42, 3) := by decide +kernel
theorem dX7_giveAll_83 : decode cX7_giveAll 83 = .ok (.iconst 1, 1) := by decide +kernel
theorem dX7_giveAll_84 : decode cX7_giveAll 84 = .ok (.aload_n 0, 1) := by decide +kernel
theorem dX7_giveAll_85 : decode cX7_giveAll 85 = .ok (.getfield 53, 3) := by decide +kernel
theorem dX7_giveAll_88 : decode cX7_giveAll 88 = .ok (.sipush 512, 3) := by decide +kernel
theorem dX7_giveAll_91 : decode cX7_giveAll 91 = .ok (.iload_n 2, 1) := by decide +kernel
theorem dX7_giveAll_92 : decode cX7_giveAll 92 = .ok (.iconst 1, 1) := by decide +kernel
theorem dX7_giveAll_93 : decode cX7_giveAll 93 = .ok (.iadd, 1) := by decide +kernel
theorem dX7_giveAll_94 : decode cX7_giveAll 94 = .ok (.imul, 1) := by decide +kernel
theorem dX7_giveAll_95 : decode cX7_giveAll 95 = .ok (.iload_n 1, 1) := by decide +kernel
theorem dX7_giveAll_96 : decode cX7_giveAll 96 = .ok (.iconst 1, 1) := by decide +kernel
theorem dX7_giveAll_97 : decode cX7_giveAll 97 = .ok (.iload_n 3, 1) := by decide +kernel
theorem dX7_giveAll_98 : decode cX7_giveAll 98 = .ok (.ishl, 1) := by decide +kernel
theorem dX7_giveAll_99 : decode cX7_giveAll 99 = .ok (.ior, 1) := by decide +kernel
theorem dX7_giveAll_100 : decode cX7_giveAll 100 = .ok (.iadd, 1) := by decide +kernel
theorem dX7_giveAll_101 : decode cX7_giveAll 101 = .ok (.iaload, 1) := by decide +kernel
theorem dX7_giveAll_102 : decode cX7_giveAll 102 = .ok (.iadd, 1) := by decide +kernel
theorem dX7_giveAll_103 : decode cX7_giveAll 103 = .ok (.aload_n 0, 1) := by decide +kernel
theorem dX7_giveAll_104 : decode cX7_giveAll 104 = .ok (.getfield 53, 3) := by decide +kernel
theorem dX7_giveAll_107 : decode cX7_giveAll 107 = .ok (.sipush 512, 3) := by decide +kernel
theorem dX7_giveAll_110 : decode cX7_giveAll 110 = .ok (.iload_n 2, 1) := by decide +kernel
theorem dX7_giveAll_111 : decode cX7_giveAll 111 = .ok (.imul, 1) := by decide +kernel
theorem dX7_giveAll_112 : decode cX7_giveAll 112 = .ok (.iload_n 1, 1) := by decide +kernel
theorem dX7_giveAll_113 : decode cX7_giveAll 113 = .ok (.iadd, 1) := by decide +kernel
theorem dX7_giveAll_114 : decode cX7_giveAll 114 = .ok (.iaload, 1) := by decide +kernel
theorem dX7_giveAll_115 : decode cX7_giveAll 115 = .ok (.if_icmp .ne 7, 3) := by decide +kernel
theorem dX7_giveAll_118 : decode cX7_giveAll 118 = .ok (.iload_n 3, 1) := by decide +kernel
theorem dX7_giveAll_119 : decode cX7_giveAll 119 = .ok (.goto 5, 3) := by decide +kernel
theorem dX7_giveAll_122 : decode cX7_giveAll 122 = .ok (.bipush (-4), 2) := by decide +kernel
theorem dX7_giveAll_124 : decode cX7_giveAll 124 = .ok (.iastore, 1) := by decide +kernel
theorem dX7_giveAll_125 : decode cX7_giveAll 125 = .ok (.iinc 3 1, 3) := by decide +kernel
theorem dX7_giveAll_128 : decode cX7_giveAll 128 = .ok (.goto (-100), 3) := by decide +kernel
theorem dX7_giveAll_131 : decode cX7_giveAll 131 = .ok (.iload_n 1, 1) := by decide +kernel
theorem dX7_giveAll_132 : decode cX7_giveAll 132 = .ok (.aload_n 0, 1) := by decide +kernel
theorem dX7_giveAll_133 : decode cX7_giveAll 133 = .ok (.getfield 56, 3) := by decide +kernel
theorem dX7_giveAll_136 : decode cX7_giveAll 136 = .ok (.iload_n 2, 1) := by decide +kernel
theorem dX7_giveAll_137 : decode cX7_giveAll 137 = .ok (.iaload, 1) := by decide +kernel
theorem dX7_giveAll_138 : decode cX7_giveAll 138 = .ok (.bipush (-4), 2) := by decide +kernel
theorem dX7_giveAll_140 : decode cX7_giveAll 140 = .ok (.if_icmp .ne 7, 3) := by decide +kernel
theorem dX7_giveAll_143 : decode cX7_giveAll 143 = .ok (.iconst 0, 1) := by decide +kernel
theorem dX7_giveAll_144 : decode cX7_giveAll 144 = .ok (.goto 11, 3) := by decide +kernel
theorem dX7_giveAll_147 : decode cX7_giveAll 147 = .ok (.iconst 1, 1) := by decide +kernel
theorem dX7_giveAll_148 : decode cX7_giveAll 148 = .ok (.aload_n 0, 1) := by decide +kernel
theorem dX7_giveAll_149 : decode cX7_giveAll 149 = .ok (.getfield 56, 3) := by decide +kernel
theorem dX7_giveAll_152 : decode cX7_giveAll 152 = .ok (.iload_n 2, 1) := by decide +kernel
theorem dX7_giveAll_153 : decode cX7_giveAll 153 = .ok (.iaload, 1) := by decide +kernel
theorem dX7_giveAll_154 : decode cX7_giveAll 154 = .ok (.ishl, 1) := by decide +kernel
theorem dX7_giveAll_155 : decode cX7_giveAll 155 = .ok (.ior, 1) := by decide +kernel
theorem dX7_giveAll_156 : decode cX7_giveAll 156 = .ok (.istore_n 1, 1) := by decide +kernel
theorem dX7_giveAll_157 : decode cX7_giveAll 157 = .ok (.iinc 2 1, 3) := by decide +kernel
theorem dX7_giveAll_160 : decode cX7_giveAll 160 = .ok (.goto (-152), 3) := by decide +kernel
theorem dX7_giveAll_163 : decode cX7_giveAll 163 = .ok (.return_, 1) := by decide +kernel
theorem dX7_share_0 : decode cX7_share 0 = .ok (.iload_n 1, 1) := by decide +kernel
theorem dX7_share_1 : decode cX7_share 1 = .ok (.iconst (-1), 1) := by decide +kernel
theorem dX7_share_2 : decode cX7_share 2 = .ok (.if_icmp .eq 13, 3) := by decide +kernel
theorem dX7_share_5 : decode cX7_share 5 = .ok (.aload_n 0, 1) := by decide +kernel
theorem dX7_share_6 : decode cX7_share 6 = .ok (.iload_n 1, 1) := by decide +kernel
theorem dX7_share_7 : decode cX7_share 7 = .ok (.invokevirtual 132, 3) := by decide +kernel
theorem dX7_share_10 : decode cX7_share 10 = .ok (.ifCond .ne 5, 3) := by decide +kernel
theorem dX7_share_13 : decode cX7_share 13 = .ok (.iconst (-1), 1) := by decide +kernel
theorem dX7_share_14 : decode cX7_share 14 = .ok (.ireturn, 1) := by decide +kernel
theorem dX7_share_15 : decode cX7_share 15 = .ok (.aload_n 0, 1) := by decide +kernel
theorem dX7_share_16 : decode cX7_share 16 = .ok (.invokevirtual 189, 3) := by decide +kernel
theorem dX7_share_19 : decode cX7_share 19 = .ok (.iload_n 1, 1) := by decide +kernel
theorem dX7_share_20 : decode cX7_share 20 = .ok (.iconst (-1), 1) := by decide +kernel
theorem dX7_share_21 : decode cX7_share 21 = .ok (.if_icmp .ne 12, 3) := by decide +kernel
theorem dX7_share_24 : decode cX7_share 24 = .ok (.aload_n 0, 1) := by decide +kernel
theorem dX7_share_25 : decode cX7_share 25 = .ok (.getfield 53, 3) := by decide +kernel
theorem dX7_share_28 : decode cX7_share 28 = .ok (.iconst 0, 1) := by decide +kernel
theorem dX7_share_29 : decode cX7_share 29 = .ok (.iaload, 1) := by decide +kernel
theorem dX7_share_30 : decode cX7_share 30 = .ok (.goto 9, 3) := by decide +kernel
theorem dX7_share_33 : decode cX7_share 33 = .ok (.aload_n 0, 1) := by decide +kernel
theorem dX7_share_34 : decode cX7_share 34 = .ok (.getfield 56, 3) := by decide +kernel
theorem dX7_share_37 : decode cX7_share 37 = .ok (.iload_n 1, 1) := by decide +kernel
theorem dX7_share_38 : decode cX7_share 38 = .ok (.iaload, 1) := by decide +kernel
theorem dX7_share_39 : decode cX7_share 39 = .ok (.ireturn, 1) := by decide +kernel
theorem dX7_round_0 : decode cX7_round 0 = .ok (.aload_n 0, 1) := by decide +kernel
theorem dX7_round_1 : decode cX7_round 1 = .ok (.invokevirtual 189, 3) := by decide +kernel
theorem dX7_round_4 : decode cX7_round 4 = .ok (.iconst 0, 1) := by decide +kernel
theorem dX7_round_5 : decode cX7_round 5 = .ok (.istore_n 1, 1) := by decide +kernel
theorem dX7_round_6 : decode cX7_round 6 = .ok (.iconst 0, 1) := by decide +kernel
theorem dX7_round_7 : decode cX7_round 7 = .ok (.istore_n 2, 1) := by decide +kernel
theorem dX7_round_8 : decode cX7_round 8 = .ok (.iload_n 2, 1) := by decide +kernel
theorem dX7_round_9 : decode cX7_round 9 = .ok (.aload_n 0, 1) := by decide +kernel
theorem dX7_round_10 : decode cX7_round 10 = .ok (.getfield 13, 3) := by decide +kernel
theorem dX7_round_13 : decode cX7_round 13 = .ok (.iconst 0, 1) := by decide +kernel
theorem dX7_round_14 : decode cX7_round 14 = .ok (.iaload, 1) := by decide +kernel
theorem dX7_round_15 : decode cX7_round 15 = .ok (.if_icmp .ge 38, 3) := by decide +kernel
theorem dX7_round_18 : decode cX7_round 18 = .ok (.iload_n 1, 1) := by decide +kernel
theorem dX7_round_19 : decode cX7_round 19 = .ok (.aload_n 0, 1) := by decide +kernel
theorem dX7_round_20 : decode cX7_round 20 = .ok (.getfield 56, 3) := by decide +kernel
theorem dX7_round_23 : decode cX7_round 23 = .ok (.iload_n 2, 1) := by decide +kernel
theorem dX7_round_24 : decode cX7_round 24 = .ok (.iaload, 1) := by decide +kernel
theorem dX7_round_25 : decode cX7_round 25 = .ok (.bipush (-4), 2) := by decide +kernel
theorem dX7_round_27 : decode cX7_round 27 = .ok (.if_icmp .eq 17, 3) := by decide +kernel
theorem dX7_round_30 : decode cX7_round 30 = .ok (.aload_n 0, 1) := by decide +kernel
theorem dX7_round_31 : decode cX7_round 31 = .ok (.getfield 56, 3) := by decide +kernel
theorem dX7_round_34 : decode cX7_round 34 = .ok (.iload_n 2, 1) := by decide +kernel
theorem dX7_round_35 : decode cX7_round 35 = .ok (.iaload, 1) := by decide +kernel
theorem dX7_round_36 : decode cX7_round 36 = .ok (.iload_n 2, 1) := by decide +kernel
theorem dX7_round_37 : decode cX7_round 37 = .ok (.if_icmp .eq 7, 3) := by decide +kernel
theorem dX7_round_40 : decode cX7_round 40 = .ok (.iconst 1, 1) := by decide +kernel
theorem dX7_round_41 : decode cX7_round 41 = .ok (.goto 4, 3) := by decide +kernel
theorem dX7_round_44 : decode cX7_round 44 = .ok (.iconst 0, 1) := by decide +kernel
theorem dX7_round_45 : decode cX7_round 45 = .ok (.iadd, 1) := by decide +kernel
theorem dX7_round_46 : decode cX7_round 46 = .ok (.istore_n 1, 1) := by decide +kernel
theorem dX7_round_47 : decode cX7_round 47 = .ok (.iinc 2 1, 3) := by decide +kernel
theorem dX7_round_50 : decode cX7_round 50 = .ok (.goto (-42), 3) := by decide +kernel
theorem dX7_round_53 : decode cX7_round 53 = .ok (.iload_n 1, 1) := by decide +kernel
theorem dX7_round_54 : decode cX7_round 54 = .ok (.ireturn, 1) := by decide +kernel
theorem dX7_seen_0 : decode cX7_seen 0 = .ok (.iload_n 1, 1) := by decide +kernel
theorem dX7_seen_1 : decode cX7_seen 1 = .ok (.iconst 0, 1) := by decide +kernel
theorem dX7_seen_2 : decode cX7_seen 2 = .ok (.iconst 3, 1) := by decide +kernel
theorem dX7_seen_3 : decode cX7_seen 3 = .ok (.invokestatic 78, 3) := by decide +kernel
theorem dX7_seen_6 : decode cX7_seen 6 = .ok (.ifCond .eq 32, 3) := by decide +kernel
theorem dX7_seen_9 : decode cX7_seen 9 = .ok (.iload_n 2, 1) := by decide +kernel
theorem dX7_seen_10 : decode cX7_seen 10 = .ok (.invokestatic 140, 3) := by decide +kernel
theorem dX7_seen_13 : decode cX7_seen 13 = .ok (.ifCond .eq 25, 3) := by decide +kernel
theorem dX7_seen_16 : decode cX7_seen 16 = .ok (.iload_n 3, 1) := by decide +kernel
theorem dX7_seen_17 : decode cX7_seen 17 = .ok (.iconst 1, 1) := by decide +kernel
theorem dX7_seen_18 : decode cX7_seen 18 = .ok (.bipush 9, 2) := by decide +kernel
theorem dX7_seen_20 : decode cX7_seen 20 = .ok (.invokestatic 78, 3) := by decide +kernel
theorem dX7_seen_23 : decode cX7_seen 23 = .ok (.ifCond .eq 15, 3) := by decide +kernel
theorem dX7_seen_26 : decode cX7_seen 26 = .ok (.iload 4, 2) := by decide +kernel
theorem dX7_seen_28 : decode cX7_seen 28 = .ok (.iconst 0, 1) := by decide +kernel
theorem dX7_seen_29 : decode cX7_seen 29 = .ok (.sipush 999, 3) := by decide +kernel
theorem dX7_seen_32 : decode cX7_seen 32 = .ok (.invokestatic 78, 3) := by decide +kernel
theorem dX7_seen_35 : decode cX7_seen 35 = .ok (.ifCond .ne 5, 3) := by decide +kernel
theorem dX7_seen_38 : decode cX7_seen 38 = .ok (.iconst (-1), 1) := by decide +kernel
theorem dX7_seen_39 : decode cX7_seen 39 = .ok (.ireturn, 1) := by decide +kernel
theorem dX7_seen_40 : decode cX7_seen 40 = .ok (.aload_n 0, 1) := by decide +kernel
theorem dX7_seen_41 : decode cX7_seen 41 = .ok (.getfield 111, 3) := by decide +kernel
theorem dX7_seen_44 : decode cX7_seen 44 = .ok (.bipush 6, 2) := by decide +kernel
theorem dX7_seen_46 : decode cX7_seen 46 = .ok (.if_icmp .ne 6, 3) := by decide +kernel
theorem dX7_seen_49 : decode cX7_seen 49 = .ok (.bipush (-3), 2) := by decide +kernel
theorem dX7_seen_51 : decode cX7_seen 51 = .ok (.ireturn, 1) := by decide +kernel
theorem dX7_seen_52 : decode cX7_seen 52 = .ok (.aload_n 0, 1) := by decide +kernel
theorem dX7_seen_53 : decode cX7_seen 53 = .ok (.getfield 59, 3) := by decide +kernel
theorem dX7_seen_56 : decode cX7_seen 56 = .ok (.aload_n 0, 1) := by decide +kernel
theorem dX7_seen_57 : decode cX7_seen 57 = .ok (.getfield 111, 3) := by decide +kernel
theorem dX7_seen_60 : decode cX7_seen 60 = .ok (.iload_n 1, 1) := by decide +kernel
theorem dX7_seen_61 : decode cX7_seen 61 = .ok (.iastore, 1) := by decide +kernel
theorem dX7_seen_62 : decode cX7_seen 62 = .ok (.aload_n 0, 1) := by decide +kernel
theorem dX7_seen_63 : decode cX7_seen 63 = .ok (.getfield 62, 3) := by decide +kernel
theorem dX7_seen_66 : decode cX7_seen 66 = .ok (.aload_n 0, 1) := by decide +kernel
theorem dX7_seen_67 : decode cX7_seen 67 = .ok (.getfield 111, 3) := by decide +kernel
theorem dX7_seen_70 : decode cX7_seen 70 = .ok (.iload_n 2, 1) := by decide +kernel
theorem dX7_seen_71 : decode cX7_seen 71 = .ok (.iastore, 1) := by decide +kernel
theorem dX7_seen_72 : decode cX7_seen 72 = .ok (.aload_n 0, 1) := by decide +kernel
theorem dX7_seen_73 : decode cX7_seen 73 = .ok (.getfield 65, 3) := by decide +kernel
theorem dX7_seen_76 : decode cX7_seen 76 = .ok (.aload_n 0, 1) := by decide +kernel
theorem dX7_seen_77 : decode cX7_seen 77 = .ok (.getfield 111, 3) := by decide +kernel
theorem dX7_seen_80 : decode cX7_seen 80 = .ok (.iload_n 3, 1) := by decide +kernel
theorem dX7_seen_81 : decode cX7_seen 81 = .ok (.iastore, 1) := by decide +kernel
theorem dX7_seen_82 : decode cX7_seen 82 = .ok (.aload_n 0, 1) := by decide +kernel
theorem dX7_seen_83 : decode cX7_seen 83 = .ok (.getfield 68, 3) := by decide +kernel
theorem dX7_seen_86 : decode cX7_seen 86 = .ok (.aload_n 0, 1) := by decide +kernel
theorem dX7_seen_87 : decode cX7_seen 87 = .ok (.getfield 111, 3) := by decide +kernel
theorem dX7_seen_90 : decode cX7_seen 90 = .ok (.iload 4, 2) := by decide +kernel
theorem dX7_seen_92 : decode cX7_seen 92 = .ok (.iastore, 1) := by decide +kernel
theorem dX7_seen_93 : decode cX7_seen 93 = .ok (.aload_n 0, 1) := by decide +kernel
theorem dX7_seen_94 : decode cX7_seen 94 = .ok (.dup, 1) := by decide +kernel
theorem dX7_seen_95 : decode cX7_seen 95 = .ok (.getfield 111, 3) := by decide +kernel
theorem dX7_seen_98 : decode cX7_seen 98 = .ok (.iconst 1, 1) := by decide +kernel
theorem dX7_seen_99 : decode cX7_seen 99 = .ok (.iadd, 1) := by decide +kernel
theorem dX7_seen_100 : decode cX7_seen 100 = .ok (.putfield 111, 3) := by decide +kernel
theorem dX7_seen_103 : decode cX7_seen 103 = .ok (.aload_n 0, 1) := by decide +kernel
theorem dX7_seen_104 : decode cX7_seen 104 = .ok (.getfield 111, 3) := by decide +kernel
theorem dX7_seen_107 : decode cX7_seen 107 = .ok (.ireturn, 1) := by decide +kernel
theorem dX7_forget_0 : decode cX7_forget 0 = .ok (.aload_n 0, 1) := by decide +kernel
theorem dX7_forget_1 : decode cX7_forget 1 = .ok (.getfield 111, 3) := by decide +kernel
theorem dX7_forget_4 : decode cX7_forget 4 = .ok (.istore_n 1, 1) := by decide +kernel
theorem dX7_forget_5 : decode cX7_forget 5 = .ok (.aload_n 0, 1) := by decide +kernel
theorem dX7_forget_6 : decode cX7_forget 6 = .ok (.iconst 0, 1) := by decide +kernel
theorem dX7_forget_7 : decode cX7_forget 7 = .ok (.putfield 111, 3) := by decide +kernel
theorem dX7_forget_10 : decode cX7_forget 10 = .ok (.iload_n 1, 1) := by decide +kernel
theorem dX7_forget_11 : decode cX7_forget 11 = .ok (.ireturn, 1) := by decide +kernel
theorem dX7_hot_0 : decode cX7_hot 0 = .ok (.iload_n 1, 1) := by decide +kernel
theorem dX7_hot_1 : decode cX7_hot 1 = .ok (.iconst 0, 1) := by decide +kernel
theorem dX7_hot_2 : decode cX7_hot 2 = .ok (.iconst 1, 1) := by decide +kernel
theorem dX7_hot_3 : decode cX7_hot 3 = .ok (.invokestatic 78, 3) := by decide +kernel
theorem dX7_hot_6 : decode cX7_hot 6 = .ok (.ifCond .ne 5, 3) := by decide +kernel
theorem dX7_hot_9 : decode cX7_hot 9 = .ok (.iconst (-1), 1) := by decide +kernel
theorem dX7_hot_10 : decode cX7_hot 10 = .ok (.ireturn, 1) := by decide +kernel
theorem dX7_hot_11 : decode cX7_hot 11 = .ok (.iconst 0, 1) := by decide +kernel
theorem dX7_hot_12 : decode cX7_hot 12 = .ok (.istore_n 2, 1) := by decide +kernel
theorem dX7_hot_13 : decode cX7_hot 13 = .ok (.bipush (-4), 2) := by decide +kernel
theorem dX7_hot_15 : decode cX7_hot 15 = .ok (.istore_n 3, 1) := by decide +kernel
theorem dX7_hot_16 : decode cX7_hot 16 = .ok (.iconst 0, 1) := by decide +kernel
theorem dX7_hot_17 : decode cX7_hot 17 = .ok (.istore 4, 2) := by decide +kernel
theorem dX7_hot_19 : decode cX7_hot 19 = .ok (.iload 4, 2) := by decide +kernel
theorem dX7_hot_21 : decode cX7_hot 21 = .ok (.bipush 30, 2) := by decide +kernel
theorem dX7_hot_23 : decode cX7_hot 23 = .ok (.if_icmp .gt 138, 3) := by decide +kernel
theorem dX7_hot_26 : decode cX7_hot 26 = .ok (.iconst 1, 1) := by decide +kernel
theorem dX7_hot_27 : decode cX7_hot 27 = .ok (.istore 5, 2) := by decide +kernel
theorem dX7_hot_29 : decode cX7_hot 29 = .ok (.iconst 0, 1) := by decide +kernel
theorem dX7_hot_30 : decode cX7_hot 30 = .ok (.istore 6, 2) := by decide +kernel
theorem dX7_hot_32 : decode cX7_hot 32 = .ok (.iload 6, 2) := by decide +kernel
theorem dX7_hot_34 : decode cX7_hot 34 = .ok (.aload_n 0, 1) := by decide +kernel
theorem dX7_hot_35 : decode cX7_hot 35 = .ok (.getfield 111, 3) := by decide +kernel
theorem dX7_hot_38 : decode cX7_hot 38 = .ok (.if_icmp .ge 88, 3) := by decide +kernel
theorem dX7_hot_41 : decode cX7_hot 41 = .ok (.aload_n 0, 1) := by decide +kernel
theorem dX7_hot_42 : decode cX7_hot 42 = .ok (.getfield 17, 3) := by decide +kernel
theorem dX7_hot_45 : decode cX7_hot 45 = .ok (.iconst 0, 1) := by decide +kernel
theorem dX7_hot_46 : decode cX7_hot 46 = .ok (.iaload, 1) := by decide +kernel
theorem dX7_hot_47 : decode cX7_hot 47 = .ok (.aload_n 0, 1) := by decide +kernel
theorem dX7_hot_48 : decode cX7_hot 48 = .ok (.getfield 65, 3) := by decide +kernel
theorem dX7_hot_51 : decode cX7_hot 51 = .ok (.iload 6, 2) := by decide +kernel
theorem dX7_hot_53 : decode cX7_hot 53 = .ok (.iaload, 1) := by decide +kernel
theorem dX7_hot_54 : decode cX7_hot 54 = .ok (.iadd, 1) := by decide +kernel
theorem dX7_hot_55 : decode cX7_hot 55 = .ok (.iconst 1, 1) := by decide +kernel
theorem dX7_hot_56 : decode cX7_hot 56 = .ok (.isub, 1) := by decide +kernel
theorem dX7_hot_57 : decode cX7_hot 57 = .ok (.aload_n 0, 1) := by decide +kernel
theorem dX7_hot_58 : decode cX7_hot 58 = .ok (.getfield 65, 3) := by decide +kernel
theorem dX7_hot_61 : decode cX7_hot 61 = .ok (.iload 6, 2) := by decide +kernel
theorem dX7_hot_63 : decode cX7_hot 63 = .ok (.iaload, 1) := by decide +kernel
theorem dX7_hot_64 : decode cX7_hot 64 = .ok (.idiv, 1) := by decide +kernel
theorem dX7_hot_65 : decode cX7_hot 65 = .ok (.istore 7, 2) := by decide +kernel
theorem dX7_hot_67 : decode cX7_hot 67 = .ok (.iload 5, 2) := by decide +kernel
theorem dX7_hot_69 : decode cX7_hot 69 = .ok (.ifCond .eq 48, 3) := by decide +kernel
theorem dX7_hot_72 : decode cX7_hot 72 = .ok (.iload 7, 2) := by decide +kernel
theorem dX7_hot_74 : decode cX7_hot 74 = .ok (.aload_n 0, 1) := by decide +kernel
theorem dX7_hot_75 : decode cX7_hot 75 = .ok (.getfield 59, 3) := by decide +kernel
theorem dX7_hot_78 : decode cX7_hot 78 = .ok (.iload 6, 2) := by decide +kernel
theorem dX7_hot_80 : decode cX7_hot 80 = .ok (.iaload, 1) := by decide +kernel
theorem dX7_hot_81 : decode cX7_hot 81 = .ok (.iload 4, 2) := by decide +kernel
theorem dX7_hot_83 : decode cX7_hot 83 = .ok (.aload_n 0, 1) := by decide +kernel
theorem dX7_hot_84 : decode cX7_hot 84 = .ok (.getfield 62, 3) := by decide +kernel
theorem dX7_hot_87 : decode cX7_hot 87 = .ok (.iload 6, 2) := by decide +kernel
theorem dX7_hot_89 : decode cX7_hot 89 = .ok (.iaload, 1) := by decide +kernel
theorem dX7_hot_90 : decode cX7_hot 90 = .ok (.ifCond .ne 7, 3) := by decide +kernel
theorem dX7_hot_93 : decode cX7_hot 93 = .ok (.iconst 2, 1) := by decide +kernel
theorem dX7_hot_94 : decode cX7_hot 94 = .ok (.goto 4, 3) := by decide +kernel
theorem dX7_hot_97 : decode cX7_hot 97 = .ok (.iconst 0, 1) := by decide +kernel
theorem dX7_hot_98 : decode cX7_hot 98 = .ok (.iadd, 1) := by decide +kernel
theorem dX7_hot_99 : decode cX7_hot 99 = .ok (.invokestatic 124, 3) := by decide +kernel
theorem dX7_hot_102 : decode cX7_hot 102 = .ok (.imul, 1) := by decide +kernel
theorem dX7_hot_103 : decode cX7_hot 103 = .ok (.aload_n 0, 1) := by decide +kernel
theorem dX7_hot_104 : decode cX7_hot 104 = .ok (.getfield 68, 3) := by decide +kernel
theorem dX7_hot_107 : decode cX7_hot 107 = .ok (.iload 6, 2) := by decide +kernel
theorem dX7_hot_109 : decode cX7_hot 109 = .ok (.iaload, 1) := by decide +kernel
theorem dX7_hot_110 : decode cX7_hot 110 = .ok (.if_icmp .ne 7, 3) := by decide +kernel
theorem dX7_hot_113 : decode cX7_hot 113 = .ok (.iconst 1, 1) := by decide +kernel
theorem dX7_hot_114 : decode cX7_hot 114 = .ok (.goto 4, 3) := by decide +kernel
theorem dX7_hot_117 : decode cX7_hot 117 = .ok (.iconst 0, 1) := by decide +kernel
theorem dX7_hot_118 : decode cX7_hot 118 = .ok (.istore 5, 2) := by decide +kernel
theorem dX7_hot_120 : decode cX7_hot 120 = .ok (.iinc 6 1, 3) := by decide +kernel
theorem dX7_hot_123 : decode cX7_hot 123 = .ok (.goto (-91), 3) := by decide +kernel
theorem dX7_hot_126 : decode cX7_hot 126 = .ok (.iload 5, 2) := by decide +kernel
theorem dX7_hot_128 : decode cX7_hot 128 = .ok (.ifCond .eq 12, 3) := by decide +kernel
theorem dX7_hot_131 : decode cX7_hot 131 = .ok (.iload_n 2, 1) := by decide +kernel
theorem dX7_hot_132 : decode cX7_hot 132 = .ok (.ifCond .ne 8, 3) := by decide +kernel
theorem dX7_hot_135 : decode cX7_hot 135 = .ok (.iload 4, 2) := by decide +kernel
theorem dX7_hot_137 : decode cX7_hot 137 = .ok (.goto 4, 3) := by decide +kernel
theorem dX7_hot_140 : decode cX7_hot 140 = .ok (.iload_n 3, 1) := by decide +kernel
theorem dX7_hot_141 : decode cX7_hot 141 = .ok (.istore_n 3, 1) := by decide +kernel
theorem dX7_hot_142 : decode cX7_hot 142 = .ok (.iload_n 2, 1) := by decide +kernel
theorem dX7_hot_143 : decode cX7_hot 143 = .ok (.iload 5, 2) := by decide +kernel
theorem dX7_hot_145 : decode cX7_hot 145 = .ok (.ifCond .eq 7, 3) := by decide +kernel
theorem dX7_hot_148 : decode cX7_hot 148 = .ok (.iconst 1, 1) := by decide +kernel
theorem dX7_hot_149 : decode cX7_hot 149 = .ok (.goto 4, 3) := by decide +kernel
theorem dX7_hot_152 : decode cX7_hot 152 = .ok (.iconst 0, 1) := by decide +kernel
theorem dX7_hot_153 : decode cX7_hot 153 = .ok (.iadd, 1) := by decide +kernel
theorem dX7_hot_154 : decode cX7_hot 154 = .ok (.istore_n 2, 1) := by decide +kernel
theorem dX7_hot_155 : decode cX7_hot 155 = .ok (.iinc 4 1, 3) := by decide +kernel
theorem dX7_hot_158 : decode cX7_hot 158 = .ok (.goto (-139), 3) := by decide +kernel
theorem dX7_hot_161 : decode cX7_hot 161 = .ok (.iload_n 1, 1) := by decide +kernel
theorem dX7_hot_162 : decode cX7_hot 162 = .ok (.ifCond .ne 7, 3) := by decide +kernel
theorem dX7_hot_165 : decode cX7_hot 165 = .ok (.iload_n 2, 1) := by decide +kernel
theorem dX7_hot_166 : decode cX7_hot 166 = .ok (.goto 4, 3) := by decide +kernel
theorem dX7_hot_169 : decode cX7_hot 169 = .ok (.iload_n 3, 1) := by decide +kernel
theorem dX7_hot_170 : decode cX7_hot 170 = .ok (.ireturn, 1) := by decide +kernel
theorem dX7_part_0 : decode cX7_part 0 = .ok (.iload_n 0, 1) := by decide +kernel
theorem dX7_part_1 : decode cX7_part 1 = .ok (.istore_n 3, 1) := by decide +kernel
theorem dX7_part_2 : decode cX7_part 2 = .ok (.iload_n 1, 1) := by decide +kernel
theorem dX7_part_3 : decode cX7_part 3 = .ok (.istore 4, 2) := by decide +kernel
theorem dX7_part_5 : decode cX7_part 5 = .ok (.iload 4, 2) := by decide +kernel
theorem dX7_part_7 : decode cX7_part 7 = .ok (.ifCond .eq 19, 3) := by decide +kernel
theorem dX7_part_10 : decode cX7_part 10 = .ok (.iload_n 3, 1) := by decide +kernel
theorem dX7_part_11 : decode cX7_part 11 = .ok (.iload 4, 2) := by decide +kernel
theorem dX7_part_13 : decode cX7_part 13 = .ok (.irem, 1) := by decide +kernel
theorem dX7_part_14 : decode cX7_part 14 = .ok (.istore 5, 2) := by decide +kernel
theorem dX7_part_16 : decode cX7_part 16 = .ok (.iload 4, 2) := by decide +kernel
theorem dX7_part_18 : decode cX7_part 18 = .ok (.istore_n 3, 1) := by decide +kernel
theorem dX7_part_19 : decode cX7_part 19 = .ok (.iload 5, 2) := by decide +kernel
theorem dX7_part_21 : decode cX7_part 21 = .ok (.istore 4, 2) := by decide +kernel
theorem dX7_part_23 : decode cX7_part 23 = .ok (.goto (-18), 3) := by decide +kernel
theorem dX7_part_26 : decode cX7_part 26 = .ok (.iload_n 2, 1) := by decide +kernel
theorem dX7_part_27 : decode cX7_part 27 = .ok (.ifCond .ne 9, 3) := by decide +kernel
theorem dX7_part_30 : decode cX7_part 30 = .ok (.iload_n 0, 1) := by decide +kernel
theorem dX7_part_31 : decode cX7_part 31 = .ok (.iload_n 3, 1) := by decide +kernel
theorem dX7_part_32 : decode cX7_part 32 = .ok (.idiv, 1) := by decide +kernel
theorem dX7_part_33 : decode cX7_part 33 = .ok (.goto 6, 3) := by decide +kernel
theorem dX7_part_36 : decode cX7_part 36 = .ok (.iload_n 1, 1) := by decide +kernel
theorem dX7_part_37 : decode cX7_part 37 = .ok (.iload_n 3, 1) := by decide +kernel
theorem dX7_part_38 : decode cX7_part 38 = .ok (.idiv, 1) := by decide +kernel
theorem dX7_part_39 : decode cX7_part 39 = .ok (.ireturn, 1) := by decide +kernel
theorem dX7_left_0 : decode cX7_left 0 = .ok (.aload_n 0, 1) := by decide +kernel
theorem dX7_left_1 : decode cX7_left 1 = .ok (.iload_n 1, 1) := by decide +kernel
theorem dX7_left_2 : decode cX7_left 2 = .ok (.invokevirtual 132, 3) := by decide +kernel
theorem dX7_left_5 : decode cX7_left 5 = .ok (.ifCond .eq 22, 3) := by decide +kernel
theorem dX7_left_8 : decode cX7_left 8 = .ok (.iload_n 2, 1) := by decide +kernel
theorem dX7_left_9 : decode cX7_left 9 = .ok (.iconst 0, 1) := by decide +kernel
theorem dX7_left_10 : decode cX7_left 10 = .ok (.bipush 8, 2) := by decide +kernel
theorem dX7_left_12 : decode cX7_left 12 = .ok (.invokestatic 78, 3) := by decide +kernel
theorem dX7_left_15 : decode cX7_left 15 = .ok (.ifCond .eq 12, 3) := by decide +kernel
theorem dX7_left_18 : decode cX7_left 18 = .ok (.iload_n 3, 1) := by decide +kernel
theorem dX7_left_19 : decode cX7_left 19 = .ok (.iconst 0, 1) := by decide +kernel
theorem dX7_left_20 : decode cX7_left 20 = .ok (.iconst 1, 1) := by decide +kernel
theorem dX7_left_21 : decode cX7_left 21 = .ok (.invokestatic 78, 3) := by decide +kernel
theorem dX7_left_24 : decode cX7_left 24 = .ok (.ifCond .ne 5, 3) := by decide +kernel
theorem dX7_left_27 : decode cX7_left 27 = .ok (.iconst (-1), 1) := by decide +kernel
theorem dX7_left_28 : decode cX7_left 28 = .ok (.ireturn, 1) := by decide +kernel
theorem dX7_left_29 : decode cX7_left 29 = .ok (.aload_n 0, 1) := by decide +kernel
theorem dX7_left_30 : decode cX7_left 30 = .ok (.getfield 41, 3) := by decide +kernel
theorem dX7_left_33 : decode cX7_left 33 = .ok (.iconst 3, 1) := by decide +kernel
theorem dX7_left_34 : decode cX7_left 34 = .ok (.iload_n 1, 1) := by decide +kernel
theorem dX7_left_35 : decode cX7_left 35 = .ok (.iadd, 1) := by decide +kernel
theorem dX7_left_36 : decode cX7_left 36 = .ok (.iaload, 1) := by decide +kernel
theorem dX7_left_37 : decode cX7_left 37 = .ok (.iconst 2, 1) := by decide +kernel
theorem dX7_left_38 : decode cX7_left 38 = .ok (.if_icmp .eq 6, 3) := by decide +kernel
theorem dX7_left_41 : decode cX7_left 41 = .ok (.bipush (-2), 2) := by decide +kernel
theorem dX7_left_43 : decode cX7_left 43 = .ok (.ireturn, 1) := by decide +kernel
theorem dX7_left_44 : decode cX7_left 44 = .ok (.iconst 0, 1) := by decide +kernel
theorem dX7_left_45 : decode cX7_left 45 = .ok (.istore 4, 2) := by decide +kernel
theorem dX7_left_47 : decode cX7_left 47 = .ok (.iconst 0, 1) := by decide +kernel
theorem dX7_left_48 : decode cX7_left 48 = .ok (.istore 5, 2) := by decide +kernel
theorem dX7_left_50 : decode cX7_left 50 = .ok (.iload 5, 2) := by decide +kernel
theorem dX7_left_52 : decode cX7_left 52 = .ok (.aload_n 0, 1) := by decide +kernel
theorem dX7_left_53 : decode cX7_left 53 = .ok (.getfield 13, 3) := by decide +kernel
theorem dX7_left_56 : decode cX7_left 56 = .ok (.iconst 0, 1) := by decide +kernel
theorem dX7_left_57 : decode cX7_left 57 = .ok (.iaload, 1) := by decide +kernel
theorem dX7_left_58 : decode cX7_left 58 = .ok (.if_icmp .ge 48, 3) := by decide +kernel
theorem dX7_left_61 : decode cX7_left 61 = .ok (.iload 4, 2) := by decide +kernel
theorem dX7_left_63 : decode cX7_left 63 = .ok (.aload_n 0, 1) := by decide +kernel
theorem dX7_left_64 : decode cX7_left 64 = .ok (.getfield 41, 3) := by decide +kernel
theorem dX7_left_67 : decode cX7_left 67 = .ok (.iconst 3, 1) := by decide +kernel
theorem dX7_left_68 : decode cX7_left 68 = .ok (.iload 5, 2) := by decide +kernel
theorem dX7_left_70 : decode cX7_left 70 = .ok (.iadd, 1) := by decide +kernel
theorem dX7_left_71 : decode cX7_left 71 = .ok (.iaload, 1) := by decide +kernel
theorem dX7_left_72 : decode cX7_left 72 = .ok (.iconst 2, 1) := by decide +kernel
theorem dX7_left_73 : decode cX7_left 73 = .ok (.if_icmp .ne 23, 3) := by decide +kernel
theorem dX7_left_76 : decode cX7_left 76 = .ok (.aload_n 0, 1) := by decide +kernel
theorem dX7_left_77 : decode cX7_left 77 = .ok (.getfield 29, 3) := by decide +kernel
theorem dX7_left_80 : decode cX7_left 80 = .ok (.iload 5, 2) := by decide +kernel
theorem dX7_left_82 : decode cX7_left 82 = .ok (.iaload, 1) := by decide +kernel
theorem dX7_left_83 : decode cX7_left 83 = .ok (.aload_n 0, 1) := by decide +kernel
theorem dX7_left_84 : decode cX7_left 84 = .ok (.getfield 29, 3) := by decide +kernel
theorem dX7_left_87 : decode cX7_left 87 = .ok (.iload_n 1, 1) := by decide +kernel
theorem dX7_left_88 : decode cX7_left 88 = .ok (.iaload, 1) := by decide +kernel
theorem dX7_left_89 : decode cX7_left 89 = .ok (.if_icmp .ne 7, 3) := by decide +kernel
theorem dX7_left_92 : decode cX7_left 92 = .ok (.iconst 1, 1) := by decide +kernel
theorem dX7_left_93 : decode cX7_left 93 = .ok (.goto 4, 3) := by decide +kernel
theorem dX7_left_96 : decode cX7_left 96 = .ok (.iconst 0, 1) := by decide +kernel
theorem dX7_left_97 : decode cX7_left 97 = .ok (.iadd, 1) := by decide +kernel
theorem dX7_left_98 : decode cX7_left 98 = .ok (.istore 4, 2) := by decide +kernel
theorem dX7_left_100 : decode cX7_left 100 = .ok (.iinc 5 1, 3) := by decide +kernel
theorem dX7_left_103 : decode cX7_left 103 = .ok (.goto (-53), 3) := by decide +kernel
theorem dX7_left_106 : decode cX7_left 106 = .ok (.iload_n 2, 1) := by decide +kernel
theorem dX7_left_107 : decode cX7_left 107 = .ok (.iload 4, 2) := by decide +kernel
theorem dX7_left_109 : decode cX7_left 109 = .ok (.if_icmp .le 7, 3) := by decide +kernel
theorem dX7_left_112 : decode cX7_left 112 = .ok (.iconst 0, 1) := by decide +kernel
theorem dX7_left_113 : decode cX7_left 113 = .ok (.goto 7, 3) := by decide +kernel
theorem dX7_left_116 : decode cX7_left 116 = .ok (.iload 4, 2) := by decide +kernel
theorem dX7_left_118 : decode cX7_left 118 = .ok (.iload_n 2, 1) := by decide +kernel
theorem dX7_left_119 : decode cX7_left 119 = .ok (.isub, 1) := by decide +kernel
theorem dX7_left_120 : decode cX7_left 120 = .ok (.iload 4, 2) := by decide +kernel
theorem dX7_left_122 : decode cX7_left 122 = .ok (.iload_n 3, 1) := by decide +kernel
theorem dX7_left_123 : decode cX7_left 123 = .ok (.invokestatic 192, 3) := by decide +kernel
theorem dX7_left_126 : decode cX7_left 126 = .ok (.ireturn, 1) := by decide +kernel
theorem dX7_takeRight_0 : decode cX7_takeRight 0 = .ok (.iconst 0, 1) := by decide +kernel
theorem dX7_takeRight_1 : decode cX7_takeRight 1 = .ok (.istore_n 2, 1) := by decide +kernel
theorem dX7_takeRight_2 : decode cX7_takeRight 2 = .ok (.iload_n 2, 1) := by decide +kernel
theorem dX7_takeRight_3 : decode cX7_takeRight 3 = .ok (.aload_n 0, 1) := by decide +kernel
theorem dX7_takeRight_4 : decode cX7_takeRight 4 = .ok (.getfield 13, 3) := by decide +kernel
theorem dX7_takeRight_7 : decode cX7_takeRight 7 = .ok (.iconst 0, 1) := by decide +kernel
theorem dX7_takeRight_8 : decode cX7_takeRight 8 = .ok (.iaload, 1) := by decide +kernel
theorem dX7_takeRight_9 : decode cX7_takeRight 9 = .ok (.if_icmp .ge 46, 3) := by decide +kernel
theorem dX7_takeRight_12 : decode cX7_takeRight 12 = .ok (.aload_n 0, 1) := by decide +kernel
theorem dX7_takeRight_13 : decode cX7_takeRight 13 = .ok (.aload_n 0, 1) := by decide +kernel
theorem dX7_takeRight_14 : decode cX7_takeRight 14 = .ok (.getfield 44, 3) := by decide +kernel
theorem dX7_takeRight_17 : decode cX7_takeRight 17 = .ok (.iload_n 1, 1) := by decide +kernel
theorem dX7_takeRight_18 : decode cX7_takeRight 18 = .ok (.iload_n 2, 1) := by decide +kernel
theorem dX7_takeRight_19 : decode cX7_takeRight 19 = .ok (.invokevirtual 160, 3) := by decide +kernel
theorem dX7_takeRight_22 : decode cX7_takeRight 22 = .ok (.ifCond .eq 27, 3) := by decide +kernel
theorem dX7_takeRight_25 : decode cX7_takeRight 25 = .ok (.aload_n 0, 1) := by decide +kernel
theorem dX7_takeRight_26 : decode cX7_takeRight 26 = .ok (.aload_n 0, 1) := by decide +kernel
theorem dX7_takeRight_27 : decode cX7_takeRight 27 = .ok (.getfield 44, 3) := by decide +kernel
theorem dX7_takeRight_30 : decode cX7_takeRight 30 = .ok (.iload_n 1, 1) := by decide +kernel
theorem dX7_takeRight_31 : decode cX7_takeRight 31 = .ok (.iload_n 2, 1) := by decide +kernel
theorem dX7_takeRight_32 : decode cX7_takeRight 32 = .ok (.invokevirtual 136, 3) := by decide +kernel
theorem dX7_takeRight_35 : decode cX7_takeRight 35 = .ok (.ifCond .eq 14, 3) := by decide +kernel
theorem dX7_takeRight_38 : decode cX7_takeRight 38 = .ok (.aload_n 0, 1) := by decide +kernel
theorem dX7_takeRight_39 : decode cX7_takeRight 39 = .ok (.aload_n 0, 1) := by decide +kernel
theorem dX7_takeRight_40 : decode cX7_takeRight 40 = .ok (.getfield 44, 3) := by decide +kernel
theorem dX7_takeRight_43 : decode cX7_takeRight 43 = .ok (.iload_n 1, 1) := by decide +kernel
theorem dX7_takeRight_44 : decode cX7_takeRight 44 = .ok (.iload_n 2, 1) := by decide +kernel
theorem dX7_takeRight_45 : decode cX7_takeRight 45 = .ok (.invokevirtual 163, 3) := by decide +kernel
theorem dX7_takeRight_48 : decode cX7_takeRight 48 = .ok (.return_, 1) := by decide +kernel
theorem dX7_takeRight_49 : decode cX7_takeRight 49 = .ok (.iinc 2 1, 3) := by decide +kernel
theorem dX7_takeRight_52 : decode cX7_takeRight 52 = .ok (.goto (-50), 3) := by decide +kernel
theorem dX7_takeRight_55 : decode cX7_takeRight 55 = .ok (.return_, 1) := by decide +kernel
theorem dX7_morning_0 : decode cX7_morning 0 = .ok (.iload_n 1, 1) := by decide +kernel
theorem dX7_morning_1 : decode cX7_morning 1 = .ok (.iconst 0, 1) := by decide +kernel
theorem dX7_morning_2 : decode cX7_morning 2 = .ok (.sipush 9999, 3) := by decide +kernel
theorem dX7_morning_5 : decode cX7_morning 5 = .ok (.invokestatic 78, 3) := by decide +kernel
theorem dX7_morning_8 : decode cX7_morning 8 = .ok (.ifCond .eq 22, 3) := by decide +kernel
theorem dX7_morning_11 : decode cX7_morning 11 = .ok (.iload_n 2, 1) := by decide +kernel
theorem dX7_morning_12 : decode cX7_morning 12 = .ok (.iconst 1, 1) := by decide +kernel
theorem dX7_morning_13 : decode cX7_morning 13 = .ok (.bipush 40, 2) := by decide +kernel
theorem dX7_morning_15 : decode cX7_morning 15 = .ok (.invokestatic 78, 3) := by decide +kernel
theorem dX7_morning_18 : decode cX7_morning 18 = .ok (.ifCond .eq 12, 3) := by decide +kernel
theorem dX7_morning_21 : decode cX7_morning 21 = .ok (.iload_n 3, 1) := by decide +kernel
theorem dX7_morning_22 : decode cX7_morning 22 = .ok (.iconst 0, 1) := by decide +kernel
theorem dX7_morning_23 : decode cX7_morning 23 = .ok (.iconst 1, 1) := by decide +kernel
theorem dX7_morning_24 : decode cX7_morning 24 = .ok (.invokestatic 78, 3) := by decide +kernel
theorem dX7_morning_27 : decode cX7_morning 27 = .ok (.ifCond .ne 5, 3) := by decide +kernel
theorem dX7_morning_30 : decode cX7_morning 30 = .ok (.iconst (-1), 1) := by decide +kernel
theorem dX7_morning_31 : decode cX7_morning 31 = .ok (.ireturn, 1) := by decide +kernel
theorem dX7_morning_32 : decode cX7_morning 32 = .ok (.aload_n 0, 1) := by decide +kernel
theorem dX7_morning_33 : decode cX7_morning 33 = .ok (.invokevirtual 166, 3) := by decide +kernel
theorem dX7_morning_36 : decode cX7_morning 36 = .ok (.iconst 0, 1) := by decide +kernel
theorem dX7_morning_37 : decode cX7_morning 37 = .ok (.istore 4, 2) := by decide +kernel
theorem dX7_morning_39 : decode cX7_morning 39 = .ok (.iload 4, 2) := by decide +kernel
theorem dX7_morning_41 : decode cX7_morning 41 = .ok (.iload_n 2, 1) := by decide +kernel
theorem dX7_morning_42 : decode cX7_morning 42 = .ok (.if_icmp .ge 113, 3) := by decide +kernel
theorem dX7_morning_45 : decode cX7_morning 45 = .ok (.ldc2_w 196, 3) := by decide +kernel
theorem dX7_morning_48 : decode cX7_morning 48 = .ok (.iload_n 1, 1) := by decide +kernel
theorem dX7_morning_49 : decode cX7_morning 49 = .ok (.i2l, 1) := by decide +kernel
theorem dX7_morning_50 : decode cX7_morning 50 = .ok (.lmul, 1) := by decide +kernel
theorem dX7_morning_51 : decode cX7_morning 51 = .ok (.ldc2_w 198, 3) := by decide +kernel
theorem dX7_morning_54 : decode cX7_morning 54 = .ok (.iload 4, 2) := by decide +kernel
theorem dX7_morning_56 : decode cX7_morning 56 = .ok (.i2l, 1) := by decide +kernel
theorem dX7_morning_57 : decode cX7_morning 57 = .ok (.lmul, 1) := by decide +kernel
theorem dX7_morning_58 : decode cX7_morning 58 = .ok (.ladd, 1) := by decide +kernel
theorem dX7_morning_59 : decode cX7_morning 59 = .ok (.lconst 1, 1) := by decide +kernel
theorem dX7_morning_60 : decode cX7_morning 60 = .ok (.ladd, 1) := by decide +kernel
theorem dX7_morning_61 : decode cX7_morning 61 = .ok (.lstore 5, 2) := by decide +kernel
theorem dX7_morning_63 : decode cX7_morning 63 = .ok (.lload 5, 2) := by decide +kernel
theorem dX7_morning_65 : decode cX7_morning 65 = .ok (.lload 5, 2) := by decide +kernel
theorem dX7_morning_67 : decode cX7_morning 67 = .ok (.lmul, 1) := by decide +kernel
theorem dX7_morning_68 : decode cX7_morning 68 = .ok (.ldc2_w 200, 3) := by decide +kernel
theorem dX7_morning_71 : decode cX7_morning 71 = .ok (.lrem, 1) := by decide +kernel
theorem dX7_morning_72 : decode cX7_morning 72 = .ok (.l2i, 1) := by decide +kernel
theorem dX7_morning_73 : decode cX7_morning 73 = .ok (.iconst 4, 1) := by decide +kernel
theorem dX7_morning_74 : decode cX7_morning 74 = .ok (.idiv, 1) := by decide +kernel
theorem dX7_morning_75 : decode cX7_morning 75 = .ok (.istore 7, 2) := by decide +kernel
theorem dX7_morning_77 : decode cX7_morning 77 = .ok (.iload 7, 2) := by decide +kernel
theorem dX7_morning_79 : decode cX7_morning 79 = .ok (.aload_n 0, 1) := by decide +kernel
theorem dX7_morning_80 : decode cX7_morning 80 = .ok (.getfield 13, 3) := by decide +kernel
theorem dX7_morning_83 : decode cX7_morning 83 = .ok (.iconst 0, 1) := by decide +kernel
theorem dX7_morning_84 : decode cX7_morning 84 = .ok (.iaload, 1) := by decide +kernel
theorem dX7_morning_85 : decode cX7_morning 85 = .ok (.irem, 1) := by decide +kernel
theorem dX7_morning_86 : decode cX7_morning 86 = .ok (.istore 8, 2) := by decide +kernel
theorem dX7_morning_88 : decode cX7_morning 88 = .ok (.iload 7, 2) := by decide +kernel
theorem dX7_morning_90 : decode cX7_morning 90 = .ok (.bipush 16, 2) := by decide +kernel
theorem dX7_morning_92 : decode cX7_morning 92 = .ok (.idiv, 1) := by decide +kernel
theorem dX7_morning_93 : decode cX7_morning 93 = .ok (.iconst 2, 1) := by decide +kernel
theorem dX7_morning_94 : decode cX7_morning 94 = .ok (.irem, 1) := by decide +kernel
theorem dX7_morning_95 : decode cX7_morning 95 = .ok (.istore 9, 2) := by decide +kernel
theorem dX7_morning_97 : decode cX7_morning 97 = .ok (.aload_n 0, 1) := by decide +kernel
theorem dX7_morning_98 : decode cX7_morning 98 = .ok (.getfield 44, 3) := by decide +kernel
theorem dX7_morning_101 : decode cX7_morning 101 = .ok (.iconst 3, 1) := by decide +kernel
theorem dX7_morning_102 : decode cX7_morning 102 = .ok (.iload 8, 2) := by decide +kernel
theorem dX7_morning_104 : decode cX7_morning 104 = .ok (.iadd, 1) := by decide +kernel
theorem dX7_morning_105 : decode cX7_morning 105 = .ok (.iaload, 1) := by decide +kernel
theorem dX7_morning_106 : decode cX7_morning 106 = .ok (.ifCond .ne 28, 3) := by decide +kernel
theorem dX7_morning_109 : decode cX7_morning 109 = .ok (.aload_n 0, 1) := by decide +kernel
theorem dX7_morning_110 : decode cX7_morning 110 = .ok (.aload_n 0, 1) := by decide +kernel
theorem dX7_morning_111 : decode cX7_morning 111 = .ok (.getfield 44, 3) := by decide +kernel
theorem dX7_morning_114 : decode cX7_morning 114 = .ok (.iload 9, 2) := by decide +kernel
theorem dX7_morning_116 : decode cX7_morning 116 = .ok (.invokevirtual 146, 3) := by decide +kernel
theorem dX7_morning_119 : decode cX7_morning 119 = .ok (.ifCond .eq 15, 3) := by decide +kernel
theorem dX7_morning_122 : decode cX7_morning 122 = .ok (.aload_n 0, 1) := by decide +kernel
theorem dX7_morning_123 : decode cX7_morning 123 = .ok (.aload_n 0, 1) := by decide +kernel
theorem dX7_morning_124 : decode cX7_morning 124 = .ok (.getfield 44, 3) := by decide +kernel
theorem dX7_morning_127 : decode cX7_morning 127 = .ok (.iload 8, 2) := by decide +kernel
theorem dX7_morning_129 : decode cX7_morning 129 = .ok (.iload 9, 2) := by decide +kernel
theorem dX7_morning_131 : decode cX7_morning 131 = .ok (.invokevirtual 152, 3) := by decide +kernel
theorem dX7_morning_134 : decode cX7_morning 134 = .ok (.aload_n 0, 1) := by decide +kernel
theorem dX7_morning_135 : decode cX7_morning 135 = .ok (.iload 8, 2) := by decide +kernel
theorem dX7_morning_137 : decode cX7_morning 137 = .ok (.invokevirtual 202, 3) := by decide +kernel
theorem dX7_morning_140 : decode cX7_morning 140 = .ok (.aload_n 0, 1) := by decide +kernel
theorem dX7_morning_141 : decode cX7_morning 141 = .ok (.aload_n 0, 1) := by decide +kernel
theorem dX7_morning_142 : decode cX7_morning 142 = .ok (.getfield 44, 3) := by decide +kernel
theorem dX7_morning_145 : decode cX7_morning 145 = .ok (.invokevirtual 156, 3) := by decide +kernel
theorem dX7_morning_148 : decode cX7_morning 148 = .ok (.pop, 1) := by decide +kernel
theorem dX7_morning_149 : decode cX7_morning 149 = .ok (.iinc 4 1, 3) := by decide +kernel
theorem dX7_morning_152 : decode cX7_morning 152 = .ok (.goto (-113), 3) := by decide +kernel
theorem dX7_morning_155 : decode cX7_morning 155 = .ok (.iload_n 3, 1) := by decide +kernel
theorem dX7_morning_156 : decode cX7_morning 156 = .ok (.ifCond .ne 14, 3) := by decide +kernel
theorem dX7_morning_159 : decode cX7_morning 159 = .ok (.aload_n 0, 1) := by decide +kernel
theorem dX7_morning_160 : decode cX7_morning 160 = .ok (.aload_n 0, 1) := by decide +kernel
theorem dX7_morning_161 : decode cX7_morning 161 = .ok (.getfield 44, 3) := by decide +kernel
theorem dX7_morning_164 : decode cX7_morning 164 = .ok (.invokevirtual 172, 3) := by decide +kernel
theorem dX7_morning_167 : decode cX7_morning 167 = .ok (.goto 9, 3) := by decide +kernel
theorem dX7_morning_170 : decode cX7_morning 170 = .ok (.aload_n 0, 1) := by decide +kernel
theorem dX7_morning_171 : decode cX7_morning 171 = .ok (.getfield 44, 3) := by decide +kernel
theorem dX7_morning_174 : decode cX7_morning 174 = .ok (.iconst 1, 1) := by decide +kernel
theorem dX7_morning_175 : decode cX7_morning 175 = .ok (.iaload, 1) := by decide +kernel
theorem dX7_morning_176 : decode cX7_morning 176 = .ok (.ireturn, 1) := by decide +kernel
theorem dX7_keep_0 : decode cX7_keep 0 = .ok (.aload_n 0, 1) := by decide +kernel
theorem dX7_keep_1 : decode cX7_keep 1 = .ok (.getfield 114, 3) := by decide +kernel
theorem dX7_keep_4 : decode cX7_keep 4 = .ok (.iconst 2, 1) := by decide +kernel
theorem dX7_keep_5 : decode cX7_keep 5 = .ok (.if_icmp .ne 6, 3) := by decide +kernel
theorem dX7_keep_8 : decode cX7_keep 8 = .ok (.bipush (-3), 2) := by decide +kernel
theorem dX7_keep_10 : decode cX7_keep 10 = .ok (.ireturn, 1) := by decide +kernel
theorem dX7_keep_11 : decode cX7_keep 11 = .ok (.iconst 0, 1) := by decide +kernel
theorem dX7_keep_12 : decode cX7_keep 12 = .ok (.istore_n 1, 1) := by decide +kernel
theorem dX7_keep_13 : decode cX7_keep 13 = .ok (.iload_n 1, 1) := by decide +kernel
theorem dX7_keep_14 : decode cX7_keep 14 = .ok (.bipush 48, 2) := by decide +kernel
theorem dX7_keep_16 : decode cX7_keep 16 = .ok (.if_icmp .ge 29, 3) := by decide +kernel
theorem dX7_keep_19 : decode cX7_keep 19 = .ok (.aload_n 0, 1) := by decide +kernel
theorem dX7_keep_20 : decode cX7_keep 20 = .ok (.getfield 50, 3) := by decide +kernel
theorem dX7_keep_23 : decode cX7_keep 23 = .ok (.bipush 48, 2) := by decide +kernel
theorem dX7_keep_25 : decode cX7_keep 25 = .ok (.aload_n 0, 1) := by decide +kernel
theorem dX7_keep_26 : decode cX7_keep 26 = .ok (.getfield 114, 3) := by decide +kernel
theorem dX7_keep_29 : decode cX7_keep 29 = .ok (.imul, 1) := by decide +kernel
theorem dX7_keep_30 : decode cX7_keep 30 = .ok (.iload_n 1, 1) := by decide +kernel
theorem dX7_keep_31 : decode cX7_keep 31 = .ok (.iadd, 1) := by decide +kernel
theorem dX7_keep_32 : decode cX7_keep 32 = .ok (.aload_n 0, 1) := by decide +kernel
theorem dX7_keep_33 : decode cX7_keep 33 = .ok (.getfield 41, 3) := by decide +kernel
theorem dX7_keep_36 : decode cX7_keep 36 = .ok (.iload_n 1, 1) := by decide +kernel
theorem dX7_keep_37 : decode cX7_keep 37 = .ok (.iaload, 1) := by decide +kernel
theorem dX7_keep_38 : decode cX7_keep 38 = .ok (.iastore, 1) := by decide +kernel
theorem dX7_keep_39 : decode cX7_keep 39 = .ok (.iinc 1 1, 3) := by decide +kernel
theorem dX7_keep_42 : decode cX7_keep 42 = .ok (.goto (-29), 3) := by decide +kernel
theorem dX7_keep_45 : decode cX7_keep 45 = .ok (.aload_n 0, 1) := by decide +kernel
theorem dX7_keep_46 : decode cX7_keep 46 = .ok (.dup, 1) := by decide +kernel
theorem dX7_keep_47 : decode cX7_keep 47 = .ok (.getfield 114, 3) := by decide +kernel
theorem dX7_keep_50 : decode cX7_keep 50 = .ok (.iconst 1, 1) := by decide +kernel
theorem dX7_keep_51 : decode cX7_keep 51 = .ok (.iadd, 1) := by decide +kernel
theorem dX7_keep_52 : decode cX7_keep 52 = .ok (.putfield 114, 3) := by decide +kernel
theorem dX7_keep_55 : decode cX7_keep 55 = .ok (.aload_n 0, 1) := by decide +kernel
theorem dX7_keep_56 : decode cX7_keep 56 = .ok (.getfield 114, 3) := by decide +kernel
theorem dX7_keep_59 : decode cX7_keep 59 = .ok (.ireturn, 1) := by decide +kernel
theorem dX7_back_0 : decode cX7_back 0 = .ok (.aload_n 0, 1) := by decide +kernel
theorem dX7_back_1 : decode cX7_back 1 = .ok (.getfield 114, 3) := by decide +kernel
theorem dX7_back_4 : decode cX7_back 4 = .ok (.ifCond .ne 6, 3) := by decide +kernel
theorem dX7_back_7 : decode cX7_back 7 = .ok (.bipush (-2), 2) := by decide +kernel
theorem dX7_back_9 : decode cX7_back 9 = .ok (.ireturn, 1) := by decide +kernel
theorem dX7_back_10 : decode cX7_back 10 = .ok (.aload_n 0, 1) := by decide +kernel
theorem dX7_back_11 : decode cX7_back 11 = .ok (.dup, 1) := by decide +kernel
theorem dX7_back_12 : decode cX7_back 12 = .ok (.getfield 114, 3) := by decide +kernel
theorem dX7_back_15 : decode cX7_back 15 = .ok (.iconst 1, 1) := by decide +kernel
theorem dX7_back_16 : decode cX7_back 16 = .ok (.isub, 1) := by decide +kernel
theorem dX7_back_17 : decode cX7_back 17 = .ok (.putfield 114, 3) := by decide +kernel
theorem dX7_back_20 : decode cX7_back 20 = .ok (.iconst 0, 1) := by decide +kernel
theorem dX7_back_21 : decode cX7_back 21 = .ok (.istore_n 1, 1) := by decide +kernel
theorem dX7_back_22 : decode cX7_back 22 = .ok (.iload_n 1, 1) := by decide +kernel
theorem dX7_back_23 : decode cX7_back 23 = .ok (.bipush 48, 2) := by decide +kernel
theorem dX7_back_25 : decode cX7_back 25 = .ok (.if_icmp .ge 29, 3) := by decide +kernel
theorem dX7_back_28 : decode cX7_back 28 = .ok (.aload_n 0, 1) := by decide +kernel
theorem dX7_back_29 : decode cX7_back 29 = .ok (.getfield 41, 3) := by decide +kernel
theorem dX7_back_32 : decode cX7_back 32 = .ok (.iload_n 1, 1) := by decide +kernel
theorem dX7_back_33 : decode cX7_back 33 = .ok (.aload_n 0, 1) := by decide +kernel
theorem dX7_back_34 : decode cX7_back 34 = .ok (.getfield 50, 3) := by decide +kernel
theorem dX7_back_37 : decode cX7_back 37 = .ok (.bipush 48, 2) := by decide +kernel
theorem dX7_back_39 : decode cX7_back 39 = .ok (.aload_n 0, 1) := by decide +kernel
theorem dX7_back_40 : decode cX7_back 40 = .ok (.getfield 114, 3) := by decide +kernel
theorem dX7_back_43 : decode cX7_back 43 = .ok (.imul, 1) := by decide +kernel
theorem dX7_back_44 : decode cX7_back 44 = .ok (.iload_n 1, 1) := by decide +kernel
theorem dX7_back_45 : decode cX7_back 45 = .ok (.iadd, 1) := by decide +kernel
theorem dX7_back_46 : decode cX7_back 46 = .ok (.iaload, 1) := by decide +kernel
theorem dX7_back_47 : decode cX7_back 47 = .ok (.iastore, 1) := by decide +kernel
theorem dX7_back_48 : decode cX7_back 48 = .ok (.iinc 1 1, 3) := by decide +kernel
theorem dX7_back_51 : decode cX7_back 51 = .ok (.goto (-29), 3) := by decide +kernel
theorem dX7_back_54 : decode cX7_back 54 = .ok (.aload_n 0, 1) := by decide +kernel
theorem dX7_back_55 : decode cX7_back 55 = .ok (.iconst 0, 1) := by decide +kernel
theorem dX7_back_56 : decode cX7_back 56 = .ok (.putfield 108, 3) := by decide +kernel
theorem dX7_back_59 : decode cX7_back 59 = .ok (.aload_n 0, 1) := by decide +kernel
theorem dX7_back_60 : decode cX7_back 60 = .ok (.getfield 114, 3) := by decide +kernel
theorem dX7_back_63 : decode cX7_back 63 = .ok (.ireturn, 1) := by decide +kernel
theorem dX7_count_0 : decode cX7_count 0 = .ok (.iload_n 1, 1) := by decide +kernel
theorem dX7_count_1 : decode cX7_count 1 = .ok (.tableswitch 130 0 11 #[63, 70, 77, 84, 91, 98, 98, 98, 110, 115, 120, 125], 63) := by decide +kernel
theorem dX7_count_64 : decode cX7_count 64 = .ok (.aload_n 0, 1) := by decide +kernel
theorem dX7_count_65 : decode cX7_count 65 = .ok (.getfield 13, 3) := by decide +kernel
theorem dX7_count_68 : decode cX7_count 68 = .ok (.iconst 0, 1) := by decide +kernel
theorem dX7_count_69 : decode cX7_count 69 = .ok (.iaload, 1) := by decide +kernel
theorem dX7_count_70 : decode cX7_count 70 = .ok (.ireturn, 1) := by decide +kernel
theorem dX7_count_71 : decode cX7_count 71 = .ok (.aload_n 0, 1) := by decide +kernel
theorem dX7_count_72 : decode cX7_count 72 = .ok (.getfield 17, 3) := by decide +kernel
theorem dX7_count_75 : decode cX7_count 75 = .ok (.iconst 0, 1) := by decide +kernel
theorem dX7_count_76 : decode cX7_count 76 = .ok (.iaload, 1) := by decide +kernel
theorem dX7_count_77 : decode cX7_count 77 = .ok (.ireturn, 1) := by decide +kernel
theorem dX7_count_78 : decode cX7_count 78 = .ok (.aload_n 0, 1) := by decide +kernel
theorem dX7_count_79 : decode cX7_count 79 = .ok (.getfield 41, 3) := by decide +kernel
theorem dX7_count_82 : decode cX7_count 82 = .ok (.iconst 0, 1) := by decide +kernel
theorem dX7_count_83 : decode cX7_count 83 = .ok (.iaload, 1) := by decide +kernel
theorem dX7_count_84 : decode cX7_count 84 = .ok (.ireturn, 1) := by decide +kernel
theorem dX7_count_85 : decode cX7_count 85 = .ok (.aload_n 0, 1) := by decide +kernel
theorem dX7_count_86 : decode cX7_count 86 = .ok (.getfield 41, 3) := by decide +kernel
theorem dX7_count_89 : decode cX7_count 89 = .ok (.iconst 1, 1) := by decide +kernel
theorem dX7_count_90 : decode cX7_count 90 = .ok (.iaload, 1) := by decide +kernel
theorem dX7_count_91 : decode cX7_count 91 = .ok (.ireturn, 1) := by decide +kernel
theorem dX7_count_92 : decode cX7_count 92 = .ok (.aload_n 0, 1) := by decide +kernel
theorem dX7_count_93 : decode cX7_count 93 = .ok (.getfield 41, 3) := by decide +kernel
theorem dX7_count_96 : decode cX7_count 96 = .ok (.iconst 2, 1) := by decide +kernel
theorem dX7_count_97 : decode cX7_count 97 = .ok (.iaload, 1) := by decide +kernel
theorem dX7_count_98 : decode cX7_count 98 = .ok (.ireturn, 1) := by decide +kernel
theorem dX7_count_99 : decode cX7_count 99 = .ok (.aload_n 0, 1) := by decide +kernel
theorem dX7_count_100 : decode cX7_count 100 = .ok (.aload_n 0, 1) := by decide +kernel
theorem dX7_count_101 : decode cX7_count 101 = .ok (.getfield 41, 3) := by decide +kernel
theorem dX7_count_104 : decode cX7_count 104 = .ok (.iload_n 1, 1) := by decide +kernel
theorem dX7_count_105 : decode cX7_count 105 = .ok (.iconst 4, 1) := by decide +kernel
theorem dX7_count_106 : decode cX7_count 106 = .ok (.isub, 1) := by decide +kernel
theorem dX7_count_107 : decode cX7_count 107 = .ok (.invokevirtual 120, 3) := by decide +kernel
theorem dX7_count_110 : decode cX7_count 110 = .ok (.ireturn, 1) := by decide +kernel
theorem dX7_count_111 : decode cX7_count 111 = .ok (.aload_n 0, 1) := by decide +kernel
theorem dX7_count_112 : decode cX7_count 112 = .ok (.getfield 111, 3) := by decide +kernel
theorem dX7_count_115 : decode cX7_count 115 = .ok (.ireturn, 1) := by decide +kernel
theorem dX7_count_116 : decode cX7_count 116 = .ok (.aload_n 0, 1) := by decide +kernel
theorem dX7_count_117 : decode cX7_count 117 = .ok (.getfield 108, 3) := by decide +kernel
theorem dX7_count_120 : decode cX7_count 120 = .ok (.ireturn, 1) := by decide +kernel
theorem dX7_count_121 : decode cX7_count 121 = .ok (.aload_n 0, 1) := by decide +kernel
theorem dX7_count_122 : decode cX7_count 122 = .ok (.getfield 114, 3) := by decide +kernel
theorem dX7_count_125 : decode cX7_count 125 = .ok (.ireturn, 1) := by decide +kernel
theorem dX7_count_126 : decode cX7_count 126 = .ok (.aload_n 0, 1) := by decide +kernel
theorem dX7_count_127 : decode cX7_count 127 = .ok (.getfield 82, 3) := by decide +kernel
theorem dX7_count_130 : decode cX7_count 130 = .ok (.ireturn, 1) := by decide +kernel
theorem dX7_count_131 : decode cX7_count 131 = .ok (.iconst (-1), 1) := by decide +kernel
theorem dX7_count_132 : decode cX7_count 132 = .ok (.ireturn, 1) := by decide +kernel
