theorem dX7_tryGrafts_0 : decode cX7_tryGrafts 0 = .ok (.aload_n 0, 1) := by decide +kernel
theorem dX7_tryGrafts_1 : decode cX7_tryGrafts 1 = .ok (.getfield 44, 3) := by decide +kernel
theorem dX7_tryGrafts_4 : decode cX7_tryGrafts 4 = .ok (.bipush 26, 2) := by decide +kernel
theorem dX7_tryGrafts_6 : decode cX7_tryGrafts 6 = .ok (.iload_n 1, 1) := by decide +kernel
theorem dX7_tryGrafts_7 : decode cX7_tryGrafts 7 = .ok (.imul, 1) := by decide +kernel
theorem dX7_tryGrafts_8 : decode cX7_tryGrafts 8 = .ok (.aload_n 0, 1) := by decide +kernel
theorem dX7_tryGrafts_9 : decode cX7_tryGrafts 9 = .ok (.getfield 38, 3) := by decide +kernel
theorem dX7_tryGrafts_12 : decode cX7_tryGrafts 12 = .ok (.iconst 0, 1) := by decide +kernel
theorem dX7_tryGrafts_13 : decode cX7_tryGrafts 13 = .ok (.bipush 26, 2) := by decide +kernel
theorem dX7_tryGrafts_15 : decode cX7_tryGrafts 15 = .ok (.invokestatic 198, 3) := by decide +kernel
theorem dX7_tryGrafts_18 : decode cX7_tryGrafts 18 = .ok (.aload_n 0, 1) := by decide +kernel
theorem dX7_tryGrafts_19 : decode cX7_tryGrafts 19 = .ok (.aload_n 0, 1) := by decide +kernel
theorem dX7_tryGrafts_20 : decode cX7_tryGrafts 20 = .ok (.getfield 38, 3) := by decide +kernel
theorem dX7_tryGrafts_23 : decode cX7_tryGrafts 23 = .ok (.invokevirtual 331, 3) := by decide +kernel
theorem dX7_tryGrafts_26 : decode cX7_tryGrafts 26 = .ok (.istore 4, 2) := by decide +kernel
theorem dX7_tryGrafts_28 : decode cX7_tryGrafts 28 = .ok (.iload 4, 2) := by decide +kernel
theorem dX7_tryGrafts_30 : decode cX7_tryGrafts 30 = .ok (.aload_n 0, 1) := by decide +kernel
theorem dX7_tryGrafts_31 : decode cX7_tryGrafts 31 = .ok (.getfield 357, 3) := by decide +kernel
theorem dX7_tryGrafts_34 : decode cX7_tryGrafts 34 = .ok (.if_icmp .lt 21, 3) := by decide +kernel
theorem dX7_tryGrafts_37 : decode cX7_tryGrafts 37 = .ok (.iload 4, 2) := by decide +kernel
theorem dX7_tryGrafts_39 : decode cX7_tryGrafts 39 = .ok (.aload_n 0, 1) := by decide +kernel
theorem dX7_tryGrafts_40 : decode cX7_tryGrafts 40 = .ok (.getfield 357, 3) := by decide +kernel
theorem dX7_tryGrafts_43 : decode cX7_tryGrafts 43 = .ok (.if_icmp .ne 56, 3) := by decide +kernel
theorem dX7_tryGrafts_46 : decode cX7_tryGrafts 46 = .ok (.lload_n 2, 1) := by decide +kernel
theorem dX7_tryGrafts_47 : decode cX7_tryGrafts 47 = .ok (.aload_n 0, 1) := by decide +kernel
theorem dX7_tryGrafts_48 : decode cX7_tryGrafts 48 = .ok (.getfield 360, 3) := by decide +kernel
theorem dX7_tryGrafts_51 : decode cX7_tryGrafts 51 = .ok (.lcmp, 1) := by decide +kernel
theorem dX7_tryGrafts_52 : decode cX7_tryGrafts 52 = .ok (.ifCond .le 47, 3) := by decide +kernel
theorem dX7_tryGrafts_55 : decode cX7_tryGrafts 55 = .ok (.aload_n 0, 1) := by decide +kernel
theorem dX7_tryGrafts_56 : decode cX7_tryGrafts 56 = .ok (.iload 4, 2) := by decide +kernel
theorem dX7_tryGrafts_58 : decode cX7_tryGrafts 58 = .ok (.putfield 357, 3) := by decide +kernel
theorem dX7_tryGrafts_61 : decode cX7_tryGrafts 61 = .ok (.aload_n 0, 1) := by decide +kernel
theorem dX7_tryGrafts_62 : decode cX7_tryGrafts 62 = .ok (.lload_n 2, 1) := by decide +kernel
theorem dX7_tryGrafts_63 : decode cX7_tryGrafts 63 = .ok (.putfield 360, 3) := by decide +kernel
theorem dX7_tryGrafts_66 : decode cX7_tryGrafts 66 = .ok (.aload_n 0, 1) := by decide +kernel
theorem dX7_tryGrafts_67 : decode cX7_tryGrafts 67 = .ok (.iload_n 1, 1) := by decide +kernel
theorem dX7_tryGrafts_68 : decode cX7_tryGrafts 68 = .ok (.putfield 364, 3) := by decide +kernel
theorem dX7_tryGrafts_71 : decode cX7_tryGrafts 71 = .ok (.aload_n 0, 1) := by decide +kernel
theorem dX7_tryGrafts_72 : decode cX7_tryGrafts 72 = .ok (.getfield 47, 3) := by decide +kernel
theorem dX7_tryGrafts_75 : decode cX7_tryGrafts 75 = .ok (.iconst 0, 1) := by decide +kernel
theorem dX7_tryGrafts_76 : decode cX7_tryGrafts 76 = .ok (.aload_n 0, 1) := by decide +kernel
theorem dX7_tryGrafts_77 : decode cX7_tryGrafts 77 = .ok (.getfield 50, 3) := by decide +kernel
theorem dX7_tryGrafts_80 : decode cX7_tryGrafts 80 = .ok (.iconst 0, 1) := by decide +kernel
theorem dX7_tryGrafts_81 : decode cX7_tryGrafts 81 = .ok (.iload_n 1, 1) := by decide +kernel
theorem dX7_tryGrafts_82 : decode cX7_tryGrafts 82 = .ok (.invokestatic 198, 3) := by decide +kernel
theorem dX7_tryGrafts_85 : decode cX7_tryGrafts 85 = .ok (.aload_n 0, 1) := by decide +kernel
theorem dX7_tryGrafts_86 : decode cX7_tryGrafts 86 = .ok (.getfield 53, 3) := by decide +kernel
theorem dX7_tryGrafts_89 : decode cX7_tryGrafts 89 = .ok (.iconst 0, 1) := by decide +kernel
theorem dX7_tryGrafts_90 : decode cX7_tryGrafts 90 = .ok (.aload_n 0, 1) := by decide +kernel
theorem dX7_tryGrafts_91 : decode cX7_tryGrafts 91 = .ok (.getfield 56, 3) := by decide +kernel
theorem dX7_tryGrafts_94 : decode cX7_tryGrafts 94 = .ok (.iconst 0, 1) := by decide +kernel
theorem dX7_tryGrafts_95 : decode cX7_tryGrafts 95 = .ok (.iload_n 1, 1) := by decide +kernel
theorem dX7_tryGrafts_96 : decode cX7_tryGrafts 96 = .ok (.invokestatic 198, 3) := by decide +kernel
theorem dX7_tryGrafts_99 : decode cX7_tryGrafts 99 = .ok (.iconst 0, 1) := by decide +kernel
theorem dX7_tryGrafts_100 : decode cX7_tryGrafts 100 = .ok (.istore 5, 2) := by decide +kernel
theorem dX7_tryGrafts_102 : decode cX7_tryGrafts 102 = .ok (.iload 5, 2) := by decide +kernel
theorem dX7_tryGrafts_104 : decode cX7_tryGrafts 104 = .ok (.aload_n 0, 1) := by decide +kernel
theorem dX7_tryGrafts_105 : decode cX7_tryGrafts 105 = .ok (.getfield 20, 3) := by decide +kernel
theorem dX7_tryGrafts_108 : decode cX7_tryGrafts 108 = .ok (.bipush 7, 2) := by decide +kernel
theorem dX7_tryGrafts_110 : decode cX7_tryGrafts 110 = .ok (.iaload, 1) := by decide +kernel
theorem dX7_tryGrafts_111 : decode cX7_tryGrafts 111 = .ok (.if_icmp .ge 136, 3) := by decide +kernel
theorem dX7_tryGrafts_114 : decode cX7_tryGrafts 114 = .ok (.iconst 0, 1) := by decide +kernel
theorem dX7_tryGrafts_115 : decode cX7_tryGrafts 115 = .ok (.istore 6, 2) := by decide +kernel
theorem dX7_tryGrafts_117 : decode cX7_tryGrafts 117 = .ok (.iload 6, 2) := by decide +kernel
theorem dX7_tryGrafts_119 : decode cX7_tryGrafts 119 = .ok (.aload_n 0, 1) := by decide +kernel
theorem dX7_tryGrafts_120 : decode cX7_tryGrafts 120 = .ok (.getfield 20, 3) := by decide +kernel
theorem dX7_tryGrafts_123 : decode cX7_tryGrafts 123 = .ok (.bipush 7, 2) := by decide +kernel
theorem dX7_tryGrafts_125 : decode cX7_tryGrafts 125 = .ok (.iaload, 1) := by decide +kernel
theorem dX7_tryGrafts_126 : decode cX7_tryGrafts 126 = .ok (.if_icmp .ge 115, 3) := by decide +kernel
theorem dX7_tryGrafts_129 : decode cX7_tryGrafts 129 = .ok (.aload_n 0, 1) := by decide +kernel
theorem dX7_tryGrafts_130 : decode cX7_tryGrafts 130 = .ok (.getfield 44, 3) := by decide +kernel
theorem dX7_tryGrafts_133 : decode cX7_tryGrafts 133 = .ok (.bipush 26, 2) := by decide +kernel
theorem dX7_tryGrafts_135 : decode cX7_tryGrafts 135 = .ok (.iload_n 1, 1) := by decide +kernel
theorem dX7_tryGrafts_136 : decode cX7_tryGrafts 136 = .ok (.imul, 1) := by decide +kernel
theorem dX7_tryGrafts_137 : decode cX7_tryGrafts 137 = .ok (.aload_n 0, 1) := by decide +kernel
theorem dX7_tryGrafts_138 : decode cX7_tryGrafts 138 = .ok (.getfield 38, 3) := by decide +kernel
theorem dX7_tryGrafts_141 : decode cX7_tryGrafts 141 = .ok (.iconst 0, 1) := by decide +kernel
theorem dX7_tryGrafts_142 : decode cX7_tryGrafts 142 = .ok (.bipush 26, 2) := by decide +kernel
theorem dX7_tryGrafts_144 : decode cX7_tryGrafts 144 = .ok (.invokestatic 198, 3) := by decide +kernel
theorem dX7_tryGrafts_147 : decode cX7_tryGrafts 147 = .ok (.aload_n 0, 1) := by decide +kernel
theorem dX7_tryGrafts_148 : decode cX7_tryGrafts 148 = .ok (.aload_n 0, 1) := by decide +kernel
theorem dX7_tryGrafts_149 : decode cX7_tryGrafts 149 = .ok (.getfield 38, 3) := by decide +kernel
theorem dX7_tryGrafts_152 : decode cX7_tryGrafts 152 = .ok (.iload 5, 2) := by decide +kernel
theorem dX7_tryGrafts_154 : decode cX7_tryGrafts 154 = .ok (.iload 6, 2) := by decide +kernel
theorem dX7_tryGrafts_156 : decode cX7_tryGrafts 156 = .ok (.invokevirtual 354, 3) := by decide +kernel
theorem dX7_tryGrafts_159 : decode cX7_tryGrafts 159 = .ok (.istore 7, 2) := by decide +kernel
theorem dX7_tryGrafts_161 : decode cX7_tryGrafts 161 = .ok (.iload 7, 2) := by decide +kernel
theorem dX7_tryGrafts_163 : decode cX7_tryGrafts 163 = .ok (.ifCond .ne 6, 3) := by decide +kernel
theorem dX7_tryGrafts_166 : decode cX7_tryGrafts 166 = .ok (.goto 69, 3) := by decide +kernel
theorem dX7_tryGrafts_169 : decode cX7_tryGrafts 169 = .ok (.aload_n 0, 1) := by decide +kernel
theorem dX7_tryGrafts_170 : decode cX7_tryGrafts 170 = .ok (.aload_n 0, 1) := by decide +kernel
theorem dX7_tryGrafts_171 : decode cX7_tryGrafts 171 = .ok (.getfield 38, 3) := by decide +kernel
theorem dX7_tryGrafts_174 : decode cX7_tryGrafts 174 = .ok (.iload 5, 2) := by decide +kernel
theorem dX7_tryGrafts_176 : decode cX7_tryGrafts 176 = .ok (.iload 6, 2) := by decide +kernel
theorem dX7_tryGrafts_178 : decode cX7_tryGrafts 178 = .ok (.invokevirtual 367, 3) := by decide +kernel
theorem dX7_tryGrafts_181 : decode cX7_tryGrafts 181 = .ok (.aload_n 0, 1) := by decide +kernel
theorem dX7_tryGrafts_182 : decode cX7_tryGrafts 182 = .ok (.getfield 38, 3) := by decide +kernel
theorem dX7_tryGrafts_185 : decode cX7_tryGrafts 185 = .ok (.iconst 0, 1) := by decide +kernel
theorem dX7_tryGrafts_186 : decode cX7_tryGrafts 186 = .ok (.aload_n 0, 1) := by decide +kernel
theorem dX7_tryGrafts_187 : decode cX7_tryGrafts 187 = .ok (.getfield 44, 3) := by decide +kernel
theorem dX7_tryGrafts_190 : decode cX7_tryGrafts 190 = .ok (.bipush 26, 2) := by decide +kernel
theorem dX7_tryGrafts_192 : decode cX7_tryGrafts 192 = .ok (.iload_n 1, 1) := by decide +kernel
theorem dX7_tryGrafts_193 : decode cX7_tryGrafts 193 = .ok (.iconst 1, 1) := by decide +kernel
theorem dX7_tryGrafts_194 : decode cX7_tryGrafts 194 = .ok (.iadd, 1) := by decide +kernel
theorem dX7_tryGrafts_195 : decode cX7_tryGrafts 195 = .ok (.imul, 1) := by decide +kernel
theorem dX7_tryGrafts_196 : decode cX7_tryGrafts 196 = .ok (.bipush 26, 2) := by decide +kernel
theorem dX7_tryGrafts_198 : decode cX7_tryGrafts 198 = .ok (.invokestatic 198, 3) := by decide +kernel
theorem dX7_tryGrafts_201 : decode cX7_tryGrafts 201 = .ok (.aload_n 0, 1) := by decide +kernel
theorem dX7_tryGrafts_202 : decode cX7_tryGrafts 202 = .ok (.getfield 47, 3) := by decide +kernel
theorem dX7_tryGrafts_205 : decode cX7_tryGrafts 205 = .ok (.iload_n 1, 1) := by decide +kernel
theorem dX7_tryGrafts_206 : decode cX7_tryGrafts 206 = .ok (.bipush 10, 2) := by decide +kernel
theorem dX7_tryGrafts_208 : decode cX7_tryGrafts 208 = .ok (.iload 5, 2) := by decide +kernel
theorem dX7_tryGrafts_210 : decode cX7_tryGrafts 210 = .ok (.imul, 1) := by decide +kernel
theorem dX7_tryGrafts_211 : decode cX7_tryGrafts 211 = .ok (.iload 6, 2) := by decide +kernel
theorem dX7_tryGrafts_213 : decode cX7_tryGrafts 213 = .ok (.iadd, 1) := by decide +kernel
theorem dX7_tryGrafts_214 : decode cX7_tryGrafts 214 = .ok (.iastore, 1) := by decide +kernel
theorem dX7_tryGrafts_215 : decode cX7_tryGrafts 215 = .ok (.aload_n 0, 1) := by decide +kernel
theorem dX7_tryGrafts_216 : decode cX7_tryGrafts 216 = .ok (.getfield 53, 3) := by decide +kernel
theorem dX7_tryGrafts_219 : decode cX7_tryGrafts 219 = .ok (.iload_n 1, 1) := by decide +kernel
theorem dX7_tryGrafts_220 : decode cX7_tryGrafts 220 = .ok (.iload 7, 2) := by decide +kernel
theorem dX7_tryGrafts_222 : decode cX7_tryGrafts 222 = .ok (.iastore, 1) := by decide +kernel
theorem dX7_tryGrafts_223 : decode cX7_tryGrafts 223 = .ok (.aload_n 0, 1) := by decide +kernel
theorem dX7_tryGrafts_224 : decode cX7_tryGrafts 224 = .ok (.iload_n 1, 1) := by decide +kernel
theorem dX7_tryGrafts_225 : decode cX7_tryGrafts 225 = .ok (.iconst 1, 1) := by decide +kernel
theorem dX7_tryGrafts_226 : decode cX7_tryGrafts 226 = .ok (.iadd, 1) := by decide +kernel
theorem dX7_tryGrafts_227 : decode cX7_tryGrafts 227 = .ok (.lload_n 2, 1) := by decide +kernel
theorem dX7_tryGrafts_228 : decode cX7_tryGrafts 228 = .ok (.iload 7, 2) := by decide +kernel
theorem dX7_tryGrafts_230 : decode cX7_tryGrafts 230 = .ok (.i2l, 1) := by decide +kernel
theorem dX7_tryGrafts_231 : decode cX7_tryGrafts 231 = .ok (.lmul, 1) := by decide +kernel
theorem dX7_tryGrafts_232 : decode cX7_tryGrafts 232 = .ok (.invokevirtual 371, 3) := by decide +kernel
theorem dX7_tryGrafts_235 : decode cX7_tryGrafts 235 = .ok (.iinc 6 1, 3) := by decide +kernel
theorem dX7_tryGrafts_238 : decode cX7_tryGrafts 238 = .ok (.goto (-121), 3) := by decide +kernel
theorem dX7_tryGrafts_241 : decode cX7_tryGrafts 241 = .ok (.iinc 5 1, 3) := by decide +kernel
theorem dX7_tryGrafts_244 : decode cX7_tryGrafts 244 = .ok (.goto (-142), 3) := by decide +kernel
theorem dX7_tryGrafts_247 : decode cX7_tryGrafts 247 = .ok (.return_, 1) := by decide +kernel
def f_X7_tryGrafts_l117 (ds : am_D) : am_F := am_th (i_il 6) (am_th (i_al 0) (am_th (i_gr 7 15) (am_th (i_ic (7)) (am_th (i_ia 0) (am_br (b_2 (fun x y => decide (y ≤ x))) (am_th (i_inc 5 (1)) (am_to 102)) (am_th (i_al 0) (am_th (i_gr 7 25) (am_th (i_ic (26)) (am_th (i_il 1) (am_th (i_2 (fun x y => x * y)) (am_th (i_al 0) (am_th (i_gr 7 23) (am_th (i_ic (0)) (am_th (i_ic (26)) (am_th (i_cs 5 d_X7_copy) (am_th (i_al 0) (am_th (i_al 0) (am_th (i_gr 7 23) (am_th (i_il 5) (am_th (i_il 6) (am_th (i_cv 7 3 d_X7_oddsIn) (am_th (i_is 7) (am_th (i_il 7) (am_sq 235 (am_br (b_1 (fun x => decide (¬ x = 0))) (am_th (i_al 0) (am_th (i_al 0) (am_th (i_gr 7 23) (am_th (i_il 5) (am_th (i_il 6) (am_th (i_cv 7 3 d_X7_grafts) (am_th (i_al 0) (am_th (i_gr 7 23) (am_th (i_ic (0)) (am_th (i_al 0) (am_th (i_gr 7 25) (am_th (i_ic (26)) (am_th (i_il 1) (am_th (i_ic (1)) (am_th (i_2 (fun x y => x + y)) (am_th (i_2 (fun x y => x * y)) (am_th (i_ic (26)) (am_th (i_cs 5 d_X7_copy) (am_th (i_al 0) (am_th (i_gr 7 26) (am_th (i_il 1) (am_th (i_ic (10)) (am_th (i_il 5) (am_th (i_2 (fun x y => x * y)) (am_th (i_il 6) (am_th (i_2 (fun x y => x + y)) (am_th (i_iS) (am_th (i_al 0) (am_th (i_gr 7 28) (am_th (i_il 1) (am_th (i_il 7) (am_th (i_iS) (am_th (i_al 0) (am_th (i_il 1) (am_th (i_ic (1)) (am_th (i_2 (fun x y => x + y)) (am_th (i_ll 2) (am_th (i_il 7) (am_th (i_i2l) (am_th (j_2 (fun x y => x * y)) (am_th (i_cv 7 2 ds) (am_to 235)))))))))))))))))))))))))))))))))))))))))) (am_to 235)) (am_th (i_inc 6 (1)) (am_to 117))))))))))))))))))))))))))
def f_X7_tryGrafts_l102 (ds : am_D) : am_F := am_th (i_il 5) (am_th (i_al 0) (am_th (i_gr 7 15) (am_th (i_ic (7)) (am_th (i_ia 0) (am_br (b_2 (fun x y => decide (y ≤ x))) (am_to 247) (am_th (i_ic (0)) (am_th (i_is 6) (am_lp 5000 117 (f_X7_tryGrafts_l117 ds)))))))))
def f_X7_tryGrafts (ds : am_D) : am_F := am_th (i_al 0) (am_th (i_gr 7 25) (am_th (i_ic (26)) (am_th (i_il 1) (am_th (i_2 (fun x y => x * y)) (am_th (i_al 0) (am_th (i_gr 7 23) (am_th (i_ic (0)) (am_th (i_ic (26)) (am_th (i_cs 5 d_X7_copy) (am_th (i_al 0) (am_th (i_al 0) (am_th (i_gr 7 23) (am_th (i_cv 7 1 d_X7_standIn) (am_th (i_is 4) (am_th (i_il 4) (am_th (i_al 0) (am_th (i_gi 7 30) (am_br (b_2 (fun x y => decide (x < y))) (am_th (i_al 0) (am_th (i_il 4) (am_th (i_pi 7 30) (am_th (i_al 0) (am_th (i_ll 2) (am_th (i_pl 7 32) (am_th (i_al 0) (am_th (i_il 1) (am_th (i_pi 7 31) (am_th (i_al 0) (am_th (i_gr 7 26) (am_th (i_ic (0)) (am_th (i_al 0) (am_th (i_gr 7 27) (am_th (i_ic (0)) (am_th (i_il 1) (am_th (i_cs 5 d_X7_copy) (am_th (i_al 0) (am_th (i_gr 7 28) (am_th (i_ic (0)) (am_th (i_al 0) (am_th (i_gr 7 29) (am_th (i_ic (0)) (am_th (i_il 1) (am_th (i_cs 5 d_X7_copy) (am_th (i_ic (0)) (am_th (i_is 5) (am_sq 247 (am_lp 5000 102 (f_X7_tryGrafts_l102 ds)) (r_v))))))))))))))))))))))))))))) (am_th (i_il 4) (am_th (i_al 0) (am_th (i_gi 7 30) (am_br (b_2 (fun x y => decide (¬ x = y))) (am_th (i_ic (0)) (am_th (i_is 5) (am_sq 247 (am_lp 5000 102 (f_X7_tryGrafts_l102 ds)) (r_v)))) (am_th (i_ll 2) (am_th (i_al 0) (am_th (i_gl 7 32) (am_th (j_cmp) (am_br (b_1 (fun x => decide (x ≤ 0))) (am_th (i_ic (0)) (am_th (i_is 5) (am_sq 247 (am_lp 5000 102 (f_X7_tryGrafts_l102 ds)) (r_v)))) (am_th (i_al 0) (am_th (i_il 4) (am_th (i_pi 7 30) (am_th (i_al 0) (am_th (i_ll 2) (am_th (i_pl 7 32) (am_th (i_al 0) (am_th (i_il 1) (am_th (i_pi 7 31) (am_th (i_al 0) (am_th (i_gr 7 26) (am_th (i_ic (0)) (am_th (i_al 0) (am_th (i_gr 7 27) (am_th (i_ic (0)) (am_th (i_il 1) (am_th (i_cs 5 d_X7_copy) (am_th (i_al 0) (am_th (i_gr 7 28) (am_th (i_ic (0)) (am_th (i_al 0) (am_th (i_gr 7 29) (am_th (i_ic (0)) (am_th (i_il 1) (am_th (i_cs 5 d_X7_copy) (am_th (i_ic (0)) (am_th (i_is 5) (am_sq 247 (am_lp 5000 102 (f_X7_tryGrafts_l102 ds)) (r_v))))))))))))))))))))))))))))))))))))))))))))))))))))))))
def d_X7_tryGrafts : Nat → am_D
  | 0 => fun _ _ => none
  | n + 1 => am_den 8 (f_X7_tryGrafts (d_X7_tryGrafts n))
set_option maxHeartbeats 4000000 in
set_option maxRecDepth 100000 in
theorem b_X7_tryGrafts (n : Nat) {ds : am_D} (ih : am_M yX7_tryGrafts cX7_tryGrafts 8 none (4 + n) (93 + n * 27) ds) : am_Body yX7_tryGrafts cX7_tryGrafts 8 none (4 + (n + 1)) (93 + (n + 1) * 27) (f_X7_tryGrafts ds) := by
  intro p l e R s m args below meth c g n0 z0 r0 u0 C hr hn
  have C : am_Cx p l e R s m args below meth c g RX7 cX7_tryGrafts 8 n0 z0 (am_len u0) (am_wt u0) (4 + (n + 1)) (93 + (n + 1) * 27) := C
  have l117 : am_Snd (am_GM p l e R s m args below meth c g 8 n0 z0 r0 u0) (am_Rt r0 u0) 117 (f_X7_tryGrafts_l117 ds) := by
    unfold f_X7_tryGrafts_l117
    exact (so_th (so_iload C dX7_tryGrafts_117) (so_th (so_aload_n C dX7_tryGrafts_119 rfl) (so_th (so_getr C fl_RX7_20 dX7_tryGrafts_120) (so_th (so_bipush C dX7_tryGrafts_123 (by decide)) (so_th (so_iald C dX7_tryGrafts_125) (so_br (so_icmp_ge C dX7_tryGrafts_126 (by decide)) (so_th (so_iinc C dX7_tryGrafts_241 (by decide) (by decide)) (so_goto C dX7_tryGrafts_244 (by decide) (so_to))) (so_th (so_aload_n C dX7_tryGrafts_129 rfl) (so_th (so_getr C fl_RX7_44 dX7_tryGrafts_130) (so_th (so_bipush C dX7_tryGrafts_133 (by decide)) (so_th (so_iload_n C dX7_tryGrafts_135 rfl) (so_th (so_imul C dX7_tryGrafts_136) (so_th (so_aload_n C dX7_tryGrafts_137 rfl) (so_th (so_getr C fl_RX7_38 dX7_tryGrafts_138) (so_th (so_iconst C dX7_tryGrafts_141 (by decide)) (so_th (so_bipush C dX7_tryGrafts_142 (by decide)) (so_th (so_cs C m_X7_copy k_602 k_604 k_603 k_475 ⟨by decide, by decide, by decide +kernel⟩ (by omega) dX7_tryGrafts_144) (so_th (so_aload_n C dX7_tryGrafts_147 rfl) (so_th (so_aload_n C dX7_tryGrafts_148 rfl) (so_th (so_getr C fl_RX7_38 dX7_tryGrafts_149) (so_th (so_iload C dX7_tryGrafts_152) (so_th (so_iload C dX7_tryGrafts_154) (so_th (so_cv C m_X7_oddsIn rfl k_698 k_700 k_699 k_701 k_475 ⟨by decide, by decide, by decide +kernel⟩ (by omega) dX7_tryGrafts_156) (so_th (so_istore C dX7_tryGrafts_159 (by decide)) (so_th (so_iload C dX7_tryGrafts_161) (so_sq (so_br (so_if_ne C dX7_tryGrafts_163 (by decide)) (so_th (so_aload_n C dX7_tryGrafts_169 rfl) (so_th (so_aload_n C dX7_tryGrafts_170 rfl) (so_th (so_getr C fl_RX7_38 dX7_tryGrafts_171) (so_th (so_iload C dX7_tryGrafts_174) (so_th (so_iload C dX7_tryGrafts_176) (so_th (so_cv C m_X7_grafts rfl k_702 k_704 k_703 k_705 k_475 ⟨by decide, by decide, by decide +kernel⟩ (by omega) dX7_tryGrafts_178) (so_th (so_aload_n C dX7_tryGrafts_181 rfl) (so_th (so_getr C fl_RX7_38 dX7_tryGrafts_182) (so_th (so_iconst C dX7_tryGrafts_185 (by decide)) (so_th (so_aload_n C dX7_tryGrafts_186 rfl) (so_th (so_getr C fl_RX7_44 dX7_tryGrafts_187) (so_th (so_bipush C dX7_tryGrafts_190 (by decide)) (so_th (so_iload_n C dX7_tryGrafts_192 rfl) (so_th (so_iconst C dX7_tryGrafts_193 (by decide)) (so_th (so_iadd C dX7_tryGrafts_194) (so_th (so_imul C dX7_tryGrafts_195) (so_th (so_bipush C dX7_tryGrafts_196 (by decide)) (so_th (so_cs C m_X7_copy k_602 k_604 k_603 k_475 ⟨by decide, by decide, by decide +kernel⟩ (by omega) dX7_tryGrafts_198) (so_th (so_aload_n C dX7_tryGrafts_201 rfl) (so_th (so_getr C fl_RX7_47 dX7_tryGrafts_202) (so_th (so_iload_n C dX7_tryGrafts_205 rfl) (so_th (so_bipush C dX7_tryGrafts_206 (by decide)) (so_th (so_iload C dX7_tryGrafts_208) (so_th (so_imul C dX7_tryGrafts_210) (so_th (so_iload C dX7_tryGrafts_211) (so_th (so_iadd C dX7_tryGrafts_213) (so_th (so_iast C dX7_tryGrafts_214) (so_th (so_aload_n C dX7_tryGrafts_215 rfl) (so_th (so_getr C fl_RX7_53 dX7_tryGrafts_216) (so_th (so_iload_n C dX7_tryGrafts_219 rfl) (so_th (so_iload C dX7_tryGrafts_220) (so_th (so_iast C dX7_tryGrafts_222) (so_th (so_aload_n C dX7_tryGrafts_223 rfl) (so_th (so_iload_n C dX7_tryGrafts_224 rfl) (so_th (so_iconst C dX7_tryGrafts_225 (by decide)) (so_th (so_iadd C dX7_tryGrafts_226) (so_th (so_lload_n C dX7_tryGrafts_227 rfl) (so_th (so_iload C dX7_tryGrafts_228) (so_th (so_i2l C dX7_tryGrafts_230) (so_th (so_lmul C dX7_tryGrafts_231) (so_th (so_cv C ih rfl k_706 k_708 k_707 k_709 k_475 ⟨by decide, by decide, by decide +kernel⟩ (by omega) dX7_tryGrafts_232) (so_to)))))))))))))))))))))))))))))))))))))))))) (so_goto C dX7_tryGrafts_166 (by decide) (so_to))) (so_th (so_iinc C dX7_tryGrafts_235 (by decide) (by decide)) (so_goto C dX7_tryGrafts_238 (by decide) (so_to))))))))))))))))))))))))))))
  have l102 : am_Snd (am_GM p l e R s m args below meth c g 8 n0 z0 r0 u0) (am_Rt r0 u0) 102 (f_X7_tryGrafts_l102 ds) := by
    unfold f_X7_tryGrafts_l102
    exact (so_th (so_iload C dX7_tryGrafts_102) (so_th (so_aload_n C dX7_tryGrafts_104 rfl) (so_th (so_getr C fl_RX7_20 dX7_tryGrafts_105) (so_th (so_bipush C dX7_tryGrafts_108 (by decide)) (so_th (so_iald C dX7_tryGrafts_110) (so_br (so_icmp_ge C dX7_tryGrafts_111 (by decide)) (so_to) (so_th (so_iconst C dX7_tryGrafts_114 (by decide)) (so_th (so_istore C dX7_tryGrafts_115 (by decide)) (so_lp l117 5000)))))))))
  unfold f_X7_tryGrafts
  exact (so_th (so_aload_n C dX7_tryGrafts_0 rfl) (so_th (so_getr C fl_RX7_44 dX7_tryGrafts_1) (so_th (so_bipush C dX7_tryGrafts_4 (by decide)) (so_th (so_iload_n C dX7_tryGrafts_6 rfl) (so_th (so_imul C dX7_tryGrafts_7) (so_th (so_aload_n C dX7_tryGrafts_8 rfl) (so_th (so_getr C fl_RX7_38 dX7_tryGrafts_9) (so_th (so_iconst C dX7_tryGrafts_12 (by decide)) (so_th (so_bipush C dX7_tryGrafts_13 (by decide)) (so_th (so_cs C m_X7_copy k_602 k_604 k_603 k_475 ⟨by decide, by decide, by decide +kernel⟩ (by omega) dX7_tryGrafts_15) (so_th (so_aload_n C dX7_tryGrafts_18 rfl) (so_th (so_aload_n C dX7_tryGrafts_19 rfl) (so_th (so_getr C fl_RX7_38 dX7_tryGrafts_20) (so_th (so_cv C m_X7_standIn rfl k_670 k_672 k_671 k_673 k_475 ⟨by decide, by decide, by decide +kernel⟩ (by omega) dX7_tryGrafts_23) (so_th (so_istore C dX7_tryGrafts_26 (by decide)) (so_th (so_iload C dX7_tryGrafts_28) (so_th (so_aload_n C dX7_tryGrafts_30 rfl) (so_th (so_geti C fl_RX7_357 (by decide) dX7_tryGrafts_31) (so_br (so_icmp_lt C dX7_tryGrafts_34 (by decide)) (so_th (so_aload_n C dX7_tryGrafts_55 rfl) (so_th (so_iload C dX7_tryGrafts_56) (so_th (so_puti C fl_RX7_357 fp_7 (Or.inl rfl) dX7_tryGrafts_58) (so_th (so_aload_n C dX7_tryGrafts_61 rfl) (so_th (so_lload_n C dX7_tryGrafts_62 rfl) (so_th (so_putl C fl_RX7_360 fp_7 (Or.inl rfl) dX7_tryGrafts_63) (so_th (so_aload_n C dX7_tryGrafts_66 rfl) (so_th (so_iload_n C dX7_tryGrafts_67 rfl) (so_th (so_puti C fl_RX7_364 fp_7 (Or.inl rfl) dX7_tryGrafts_68) (so_th (so_aload_n C dX7_tryGrafts_71 rfl) (so_th (so_getr C fl_RX7_47 dX7_tryGrafts_72) (so_th (so_iconst C dX7_tryGrafts_75 (by decide)) (so_th (so_aload_n C dX7_tryGrafts_76 rfl) (so_th (so_getr C fl_RX7_50 dX7_tryGrafts_77) (so_th (so_iconst C dX7_tryGrafts_80 (by decide)) (so_th (so_iload_n C dX7_tryGrafts_81 rfl) (so_th (so_cs C m_X7_copy k_602 k_604 k_603 k_475 ⟨by decide, by decide, by decide +kernel⟩ (by omega) dX7_tryGrafts_82) (so_th (so_aload_n C dX7_tryGrafts_85 rfl) (so_th (so_getr C fl_RX7_53 dX7_tryGrafts_86) (so_th (so_iconst C dX7_tryGrafts_89 (by decide)) (so_th (so_aload_n C dX7_tryGrafts_90 rfl) (so_th (so_getr C fl_RX7_56 dX7_tryGrafts_91) (so_th (so_iconst C dX7_tryGrafts_94 (by decide)) (so_th (so_iload_n C dX7_tryGrafts_95 rfl) (so_th (so_cs C m_X7_copy k_602 k_604 k_603 k_475 ⟨by decide, by decide, by decide +kernel⟩ (by omega) dX7_tryGrafts_96) (so_th (so_iconst C dX7_tryGrafts_99 (by decide)) (so_th (so_istore C dX7_tryGrafts_100 (by decide)) (so_sq (so_lp l102 5000) (so_rv C hr dX7_tryGrafts_247))))))))))))))))))))))))))))) (so_th (so_iload C dX7_tryGrafts_37) (so_th (so_aload_n C dX7_tryGrafts_39 rfl) (so_th (so_geti C fl_RX7_357 (by decide) dX7_tryGrafts_40) (so_br (so_icmp_ne C dX7_tryGrafts_43 (by decide)) (so_th (so_iconst C dX7_tryGrafts_99 (by decide)) (so_th (so_istore C dX7_tryGrafts_100 (by decide)) (so_sq (so_lp l102 5000) (so_rv C hr dX7_tryGrafts_247)))) (so_th (so_lload_n C dX7_tryGrafts_46 rfl) (so_th (so_aload_n C dX7_tryGrafts_47 rfl) (so_th (so_getl C fl_RX7_360 dX7_tryGrafts_48) (so_th (so_lcmp C dX7_tryGrafts_51) (so_br (so_if_le C dX7_tryGrafts_52 (by decide)) (so_th (so_iconst C dX7_tryGrafts_99 (by decide)) (so_th (so_istore C dX7_tryGrafts_100 (by decide)) (so_sq (so_lp l102 5000) (so_rv C hr dX7_tryGrafts_247)))) (so_th (so_aload_n C dX7_tryGrafts_55 rfl) (so_th (so_iload C dX7_tryGrafts_56) (so_th (so_puti C fl_RX7_357 fp_7 (Or.inl rfl) dX7_tryGrafts_58) (so_th (so_aload_n C dX7_tryGrafts_61 rfl) (so_th (so_lload_n C dX7_tryGrafts_62 rfl) (so_th (so_putl C fl_RX7_360 fp_7 (Or.inl rfl) dX7_tryGrafts_63) (so_th (so_aload_n C dX7_tryGrafts_66 rfl) (so_th (so_iload_n C dX7_tryGrafts_67 rfl) (so_th (so_puti C fl_RX7_364 fp_7 (Or.inl rfl) dX7_tryGrafts_68) (so_th (so_aload_n C dX7_tryGrafts_71 rfl) (so_th (so_getr C fl_RX7_47 dX7_tryGrafts_72) (so_th (so_iconst C dX7_tryGrafts_75 (by decide)) (so_th (so_aload_n C dX7_tryGrafts_76 rfl) (so_th (so_getr C fl_RX7_50 dX7_tryGrafts_77) (so_th (so_iconst C dX7_tryGrafts_80 (by decide)) (so_th (so_iload_n C dX7_tryGrafts_81 rfl) (so_th (so_cs C m_X7_copy k_602 k_604 k_603 k_475 ⟨by decide, by decide, by decide +kernel⟩ (by omega) dX7_tryGrafts_82) (so_th (so_aload_n C dX7_tryGrafts_85 rfl) (so_th (so_getr C fl_RX7_53 dX7_tryGrafts_86) (so_th (so_iconst C dX7_tryGrafts_89 (by decide)) (so_th (so_aload_n C dX7_tryGrafts_90 rfl) (so_th (so_getr C fl_RX7_56 dX7_tryGrafts_91) (so_th (so_iconst C dX7_tryGrafts_94 (by decide)) (so_th (so_iload_n C dX7_tryGrafts_95 rfl) (so_th (so_cs C m_X7_copy k_602 k_604 k_603 k_475 ⟨by decide, by decide, by decide +kernel⟩ (by omega) dX7_tryGrafts_96) (so_th (so_iconst C dX7_tryGrafts_99 (by decide)) (so_th (so_istore C dX7_tryGrafts_100 (by decide)) (so_sq (so_lp l102 5000) (so_rv C hr dX7_tryGrafts_247)))))))))))))))))))))))))))))))))))))))))))))))))))))))))
theorem mg_X7_tryGrafts : ∀ n, am_M yX7_tryGrafts cX7_tryGrafts 8 none (4 + n) (93 + n * 27) (d_X7_tryGrafts n)
  | 0 => by intro l g as u u2 r hst hd; cases hd
  | n + 1 => am_M_of (by decide +kernel) (b_X7_tryGrafts n (mg_X7_tryGrafts n))
theorem m_X7_tryGrafts (n : Nat) : am_M yX7_tryGrafts cX7_tryGrafts 8 none (4 + n) (93 + n * 27) (d_X7_tryGrafts n) := mg_X7_tryGrafts n
theorem dX7_seekGrafts_0 : decode cX7_seekGrafts 0 = .ok (.aload_n 0, 1) := by decide +kernel
theorem dX7_seekGrafts_1 : decode cX7_seekGrafts 1 = .ok (.getfield 26, 3) := by decide +kernel
theorem dX7_seekGrafts_4 : decode cX7_seekGrafts 4 = .ok (.iconst 0, 1) := by decide +kernel
theorem dX7_seekGrafts_5 : decode cX7_seekGrafts 5 = .ok (.aload_n 0, 1) := by decide +kernel
theorem dX7_seekGrafts_6 : decode cX7_seekGrafts 6 = .ok (.getfield 44, 3) := by decide +kernel
theorem dX7_seekGrafts_9 : decode cX7_seekGrafts 9 = .ok (.iconst 0, 1) := by decide +kernel
theorem dX7_seekGrafts_10 : decode cX7_seekGrafts 10 = .ok (.bipush 26, 2) := by decide +kernel
theorem dX7_seekGrafts_12 : decode cX7_seekGrafts 12 = .ok (.invokestatic 198, 3) := by decide +kernel
theorem dX7_seekGrafts_15 : decode cX7_seekGrafts 15 = .ok (.aload_n 0, 1) := by decide +kernel
theorem dX7_seekGrafts_16 : decode cX7_seekGrafts 16 = .ok (.bipush 7, 2) := by decide +kernel
theorem dX7_seekGrafts_18 : decode cX7_seekGrafts 18 = .ok (.putfield 357, 3) := by decide +kernel
theorem dX7_seekGrafts_21 : decode cX7_seekGrafts 21 = .ok (.aload_n 0, 1) := by decide +kernel
theorem dX7_seekGrafts_22 : decode cX7_seekGrafts 22 = .ok (.ldc2_w 375, 3) := by decide +kernel
theorem dX7_seekGrafts_25 : decode cX7_seekGrafts 25 = .ok (.putfield 360, 3) := by decide +kernel
theorem dX7_seekGrafts_28 : decode cX7_seekGrafts 28 = .ok (.aload_n 0, 1) := by decide +kernel
theorem dX7_seekGrafts_29 : decode cX7_seekGrafts 29 = .ok (.iconst 0, 1) := by decide +kernel
theorem dX7_seekGrafts_30 : decode cX7_seekGrafts 30 = .ok (.lconst 1, 1) := by decide +kernel
theorem dX7_seekGrafts_31 : decode cX7_seekGrafts 31 = .ok (.invokevirtual 371, 3) := by decide +kernel
theorem dX7_seekGrafts_34 : decode cX7_seekGrafts 34 = .ok (.return_, 1) := by decide +kernel
def f_X7_seekGrafts : am_F := am_th (i_al 0) (am_th (i_gr 7 17) (am_th (i_ic (0)) (am_th (i_al 0) (am_th (i_gr 7 25) (am_th (i_ic (0)) (am_th (i_ic (26)) (am_th (i_cs 5 d_X7_copy) (am_th (i_al 0) (am_th (i_ic (7)) (am_th (i_pi 7 30) (am_th (i_al 0) (am_th (i_lc (-1)) (am_th (i_pl 7 32) (am_th (i_al 0) (am_th (i_ic (0)) (am_th (i_lc (1)) (am_th (i_cv 7 2 (d_X7_tryGrafts 8)) (r_v))))))))))))))))))
def d_X7_seekGrafts : am_D := am_den 1 f_X7_seekGrafts
set_option maxHeartbeats 4000000 in
set_option maxRecDepth 100000 in
theorem b_X7_seekGrafts : am_Body yX7_seekGrafts cX7_seekGrafts 1 none 13 336 f_X7_seekGrafts := by
  intro p l e R s m args below meth c g n0 z0 r0 u0 C hr hn
  have C : am_Cx p l e R s m args below meth c g RX7 cX7_seekGrafts 1 n0 z0 (am_len u0) (am_wt u0) 13 336 := C
  unfold f_X7_seekGrafts
  exact (so_th (so_aload_n C dX7_seekGrafts_0 rfl) (so_th (so_getr C fl_RX7_26 dX7_seekGrafts_1) (so_th (so_iconst C dX7_seekGrafts_4 (by decide)) (so_th (so_aload_n C dX7_seekGrafts_5 rfl) (so_th (so_getr C fl_RX7_44 dX7_seekGrafts_6) (so_th (so_iconst C dX7_seekGrafts_9 (by decide)) (so_th (so_bipush C dX7_seekGrafts_10 (by decide)) (so_th (so_cs C m_X7_copy k_602 k_604 k_603 k_475 ⟨by decide, by decide, by decide +kernel⟩ (by decide) dX7_seekGrafts_12) (so_th (so_aload_n C dX7_seekGrafts_15 rfl) (so_th (so_bipush C dX7_seekGrafts_16 (by decide)) (so_th (so_puti C fl_RX7_357 fp_7 (Or.inl rfl) dX7_seekGrafts_18) (so_th (so_aload_n C dX7_seekGrafts_21 rfl) (so_th (so_ldc2 C dX7_seekGrafts_22 k_710) (so_th (so_putl C fl_RX7_360 fp_7 (Or.inl rfl) dX7_seekGrafts_25) (so_th (so_aload_n C dX7_seekGrafts_28 rfl) (so_th (so_iconst C dX7_seekGrafts_29 (by decide)) (so_th (so_lconst C dX7_seekGrafts_30 (by decide)) (so_th (so_cv C (m_X7_tryGrafts 8) rfl k_706 k_708 k_707 k_709 k_475 ⟨by decide, by decide, by decide +kernel⟩ (by decide) dX7_seekGrafts_31) (so_rv C hr dX7_seekGrafts_34)))))))))))))))))))
theorem m_X7_seekGrafts : am_M yX7_seekGrafts cX7_seekGrafts 1 none 13 336 d_X7_seekGrafts := am_M_of (by decide +kernel) b_X7_seekGrafts
theorem dX7_left_0 : decode cX7_left 0 = .ok (.aload_n 0, 1) := by decide +kernel
theorem dX7_left_1 : decode cX7_left 1 = .ok (.invokevirtual 189, 3) := by decide +kernel
theorem dX7_left_4 : decode cX7_left 4 = .ok (.aload_n 0, 1) := by decide +kernel
theorem dX7_left_5 : decode cX7_left 5 = .ok (.getfield 206, 3) := by decide +kernel
theorem dX7_left_8 : decode cX7_left 8 = .ok (.ifCond .ne 9, 3) := by decide +kernel
theorem dX7_left_11 : decode cX7_left 11 = .ok (.aload_n 0, 1) := by decide +kernel
theorem dX7_left_12 : decode cX7_left 12 = .ok (.iconst 1, 1) := by decide +kernel
theorem dX7_left_13 : decode cX7_left 13 = .ok (.invokevirtual 192, 3) := by decide +kernel
theorem dX7_left_16 : decode cX7_left 16 = .ok (.ireturn, 1) := by decide +kernel
theorem dX7_left_17 : decode cX7_left 17 = .ok (.aload_n 0, 1) := by decide +kernel
theorem dX7_left_18 : decode cX7_left 18 = .ok (.invokevirtual 377, 3) := by decide +kernel
theorem dX7_left_21 : decode cX7_left 21 = .ok (.aload_n 0, 1) := by decide +kernel
theorem dX7_left_22 : decode cX7_left 22 = .ok (.getfield 357, 3) := by decide +kernel
theorem dX7_left_25 : decode cX7_left 25 = .ok (.ireturn, 1) := by decide +kernel
def f_X7_left : am_F := am_th (i_al 0) (am_th (i_cv 7 0 d_X7_good) (am_th (i_al 0) (am_th (i_gi 7 14) (am_br (b_1 (fun x => decide (¬ x = 0))) (am_th (i_al 0) (am_th (i_cv 7 0 d_X7_seekGrafts) (am_th (i_al 0) (am_th (i_gi 7 30) (r_i))))) (am_th (i_al 0) (am_th (i_ic (1)) (am_th (i_cv 7 1 d_X7_no) (r_i))))))))
def d_X7_left : am_D := am_den 1 f_X7_left
set_option maxHeartbeats 4000000 in
set_option maxRecDepth 100000 in
theorem b_X7_left : am_Body yX7_left cX7_left 1 (some .int) 14 356 f_X7_left := by
  intro p l e R s m args below meth c g n0 z0 r0 u0 C hr hn
  have C : am_Cx p l e R s m args below meth c g RX7 cX7_left 1 n0 z0 (am_len u0) (am_wt u0) 14 356 := C
  unfold f_X7_left
  exact (so_th (so_aload_n C dX7_left_0 rfl) (so_th (so_cv C m_X7_good rfl k_594 k_596 k_595 k_597 k_475 ⟨by decide, by decide, by decide +kernel⟩ (by decide) dX7_left_1) (so_th (so_aload_n C dX7_left_4 rfl) (so_th (so_geti C fl_RX7_206 (by decide) dX7_left_5) (so_br (so_if_ne C dX7_left_8 (by decide)) (so_th (so_aload_n C dX7_left_17 rfl) (so_th (so_cv C m_X7_seekGrafts rfl k_711 k_713 k_712 k_714 k_475 ⟨by decide, by decide, by decide +kernel⟩ (by decide) dX7_left_18) (so_th (so_aload_n C dX7_left_21 rfl) (so_th (so_geti C fl_RX7_357 (by decide) dX7_left_22) (so_ri C hr dX7_left_25))))) (so_th (so_aload_n C dX7_left_11 rfl) (so_th (so_iconst C dX7_left_12 (by decide)) (so_th (so_cv C m_X7_no rfl k_609 k_611 k_610 k_612 k_475 ⟨by decide, by decide, by decide +kernel⟩ (by decide) dX7_left_13) (so_ri C hr dX7_left_16)))))))))
theorem m_X7_left : am_M yX7_left cX7_left 1 (some .int) 14 356 d_X7_left := am_M_of (by decide +kernel) b_X7_left
theorem dX7_surest_0 : decode cX7_surest 0 = .ok (.aload_n 0, 1) := by decide +kernel
theorem dX7_surest_1 : decode cX7_surest 1 = .ok (.invokevirtual 189, 3) := by decide +kernel
theorem dX7_surest_4 : decode cX7_surest 4 = .ok (.aload_n 0, 1) := by decide +kernel
theorem dX7_surest_5 : decode cX7_surest 5 = .ok (.getfield 206, 3) := by decide +kernel
theorem dX7_surest_8 : decode cX7_surest 8 = .ok (.ifCond .ne 10, 3) := by decide +kernel
theorem dX7_surest_11 : decode cX7_surest 11 = .ok (.aload_n 0, 1) := by decide +kernel
theorem dX7_surest_12 : decode cX7_surest 12 = .ok (.iconst 1, 1) := by decide +kernel
theorem dX7_surest_13 : decode cX7_surest 13 = .ok (.invokevirtual 192, 3) := by decide +kernel
theorem dX7_surest_16 : decode cX7_surest 16 = .ok (.i2l, 1) := by decide +kernel
theorem dX7_surest_17 : decode cX7_surest 17 = .ok (.lreturn, 1) := by decide +kernel
theorem dX7_surest_18 : decode cX7_surest 18 = .ok (.aload_n 0, 1) := by decide +kernel
theorem dX7_surest_19 : decode cX7_surest 19 = .ok (.invokevirtual 377, 3) := by decide +kernel
theorem dX7_surest_22 : decode cX7_surest 22 = .ok (.lconst 1, 1) := by decide +kernel
theorem dX7_surest_23 : decode cX7_surest 23 = .ok (.lstore_n 2, 1) := by decide +kernel
theorem dX7_surest_24 : decode cX7_surest 24 = .ok (.iconst 0, 1) := by decide +kernel
theorem dX7_surest_25 : decode cX7_surest 25 = .ok (.istore 4, 2) := by decide +kernel
theorem dX7_surest_27 : decode cX7_surest 27 = .ok (.iload 4, 2) := by decide +kernel
theorem dX7_surest_29 : decode cX7_surest 29 = .ok (.aload_n 0, 1) := by decide +kernel
theorem dX7_surest_30 : decode cX7_surest 30 = .ok (.getfield 364, 3) := by decide +kernel
theorem dX7_surest_33 : decode cX7_surest 33 = .ok (.if_icmp .ge 15, 3) := by decide +kernel
theorem dX7_surest_36 : decode cX7_surest 36 = .ok (.lload_n 2, 1) := by decide +kernel
theorem dX7_surest_37 : decode cX7_surest 37 = .ok (.ldc2_w 380, 3) := by decide +kernel
theorem dX7_surest_40 : decode cX7_surest 40 = .ok (.lmul, 1) := by decide +kernel
theorem dX7_surest_41 : decode cX7_surest 41 = .ok (.lstore_n 2, 1) := by decide +kernel
theorem dX7_surest_42 : decode cX7_surest 42 = .ok (.iinc 4 1, 3) := by decide +kernel
theorem dX7_surest_45 : decode cX7_surest 45 = .ok (.goto (-18), 3) := by decide +kernel
theorem dX7_surest_48 : decode cX7_surest 48 = .ok (.aload_n 0, 1) := by decide +kernel
theorem dX7_surest_49 : decode cX7_surest 49 = .ok (.getfield 360, 3) := by decide +kernel
theorem dX7_surest_52 : decode cX7_surest 52 = .ok (.lload_n 2, 1) := by decide +kernel
theorem dX7_surest_53 : decode cX7_surest 53 = .ok (.iload_n 1, 1) := by decide +kernel
theorem dX7_surest_54 : decode cX7_surest 54 = .ok (.invokestatic 382, 3) := by decide +kernel
theorem dX7_surest_57 : decode cX7_surest 57 = .ok (.lreturn, 1) := by decide +kernel
def f_X7_surest_l27 : am_F := am_th (i_il 4) (am_th (i_al 0) (am_th (i_gi 7 31) (am_br (b_2 (fun x y => decide (y ≤ x))) (am_to 48) (am_th (i_ll 2) (am_th (i_lc (100)) (am_th (j_2 (fun x y => x * y)) (am_th (i_ls 2) (am_th (i_inc 4 (1)) (am_to 27)))))))))
def f_X7_surest : am_F := am_th (i_al 0) (am_th (i_cv 7 0 d_X7_good) (am_th (i_al 0) (am_th (i_gi 7 14) (am_br (b_1 (fun x => decide (¬ x = 0))) (am_th (i_al 0) (am_th (i_cv 7 0 d_X7_seekGrafts) (am_th (i_lc (1)) (am_th (i_ls 2) (am_th (i_ic (0)) (am_th (i_is 4) (am_sq 48 (am_lp 5000 27 f_X7_surest_l27) (am_th (i_al 0) (am_th (i_gl 7 32) (am_th (i_ll 2) (am_th (i_il 1) (am_th (i_cs 3 d_X7_lowest) (r_l))))))))))))) (am_th (i_al 0) (am_th (i_ic (1)) (am_th (i_cv 7 1 d_X7_no) (am_th (i_i2l) (r_l)))))))))
def d_X7_surest : am_D := am_den 5 f_X7_surest
set_option maxHeartbeats 4000000 in
set_option maxRecDepth 100000 in
theorem b_X7_surest : am_Body yX7_surest cX7_surest 5 (some .long) 14 356 f_X7_surest := by
  intro p l e R s m args below meth c g n0 z0 r0 u0 C hr hn
  have C : am_Cx p l e R s m args below meth c g RX7 cX7_surest 5 n0 z0 (am_len u0) (am_wt u0) 14 356 := C
  have l27 : am_Snd (am_GM p l e R s m args below meth c g 5 n0 z0 r0 u0) (am_Rt r0 u0) 27 (f_X7_surest_l27) := by
    unfold f_X7_surest_l27
    exact (so_th (so_iload C dX7_surest_27) (so_th (so_aload_n C dX7_surest_29 rfl) (so_th (so_geti C fl_RX7_364 (by decide) dX7_surest_30) (so_br (so_icmp_ge C dX7_surest_33 (by decide)) (so_to) (so_th (so_lload_n C dX7_surest_36 rfl) (so_th (so_ldc2 C dX7_surest_37 k_715) (so_th (so_lmul C dX7_surest_40) (so_th (so_lstore_n C dX7_surest_41 rfl (by decide)) (so_th (so_iinc C dX7_surest_42 (by decide) (by decide)) (so_goto C dX7_surest_45 (by decide) (so_to)))))))))))
  unfold f_X7_surest
  exact (so_th (so_aload_n C dX7_surest_0 rfl) (so_th (so_cv C m_X7_good rfl k_594 k_596 k_595 k_597 k_475 ⟨by decide, by decide, by decide +kernel⟩ (by decide) dX7_surest_1) (so_th (so_aload_n C dX7_surest_4 rfl) (so_th (so_geti C fl_RX7_206 (by decide) dX7_surest_5) (so_br (so_if_ne C dX7_surest_8 (by decide)) (so_th (so_aload_n C dX7_surest_18 rfl) (so_th (so_cv C m_X7_seekGrafts rfl k_711 k_713 k_712 k_714 k_475 ⟨by decide, by decide, by decide +kernel⟩ (by decide) dX7_surest_19) (so_th (so_lconst C dX7_surest_22 (by decide)) (so_th (so_lstore_n C dX7_surest_23 rfl (by decide)) (so_th (so_iconst C dX7_surest_24 (by decide)) (so_th (so_istore C dX7_surest_25 (by decide)) (so_sq (so_lp l27 5000) (so_th (so_aload_n C dX7_surest_48 rfl) (so_th (so_getl C fl_RX7_360 dX7_surest_49) (so_th (so_lload_n C dX7_surest_52 rfl) (so_th (so_iload_n C dX7_surest_53 rfl) (so_th (so_cs C m_X7_lowest k_716 k_718 k_717 k_475 ⟨by decide, by decide, by decide +kernel⟩ (by decide) dX7_surest_54) (so_rl C hr dX7_surest_57))))))))))))) (so_th (so_aload_n C dX7_surest_11 rfl) (so_th (so_iconst C dX7_surest_12 (by decide)) (so_th (so_cv C m_X7_no rfl k_609 k_611 k_610 k_612 k_475 ⟨by decide, by decide, by decide +kernel⟩ (by decide) dX7_surest_13) (so_th (so_i2l C dX7_surest_16) (so_rl C hr dX7_surest_17))))))))))
theorem m_X7_surest : am_M yX7_surest cX7_surest 5 (some .long) 14 356 d_X7_surest := am_M_of (by decide +kernel) b_X7_surest
theorem dX7_surestAt_0 : decode cX7_surestAt 0 = .ok (.aload_n 0, 1) := by decide +kernel
theorem dX7_surestAt_1 : decode cX7_surestAt 1 = .ok (.invokevirtual 189, 3) := by decide +kernel
theorem dX7_surestAt_4 : decode cX7_surestAt 4 = .ok (.aload_n 0, 1) := by decide +kernel
theorem dX7_surestAt_5 : decode cX7_surestAt 5 = .ok (.getfield 206, 3) := by decide +kernel
theorem dX7_surestAt_8 : decode cX7_surestAt 8 = .ok (.ifCond .ne 9, 3) := by decide +kernel
theorem dX7_surestAt_11 : decode cX7_surestAt 11 = .ok (.aload_n 0, 1) := by decide +kernel
theorem dX7_surestAt_12 : decode cX7_surestAt 12 = .ok (.iconst 1, 1) := by decide +kernel
theorem dX7_surestAt_13 : decode cX7_surestAt 13 = .ok (.invokevirtual 192, 3) := by decide +kernel
theorem dX7_surestAt_16 : decode cX7_surestAt 16 = .ok (.ireturn, 1) := by decide +kernel
theorem dX7_surestAt_17 : decode cX7_surestAt 17 = .ok (.aload_n 0, 1) := by decide +kernel
theorem dX7_surestAt_18 : decode cX7_surestAt 18 = .ok (.invokevirtual 377, 3) := by decide +kernel
theorem dX7_surestAt_21 : decode cX7_surestAt 21 = .ok (.iload_n 1, 1) := by decide +kernel
theorem dX7_surestAt_22 : decode cX7_surestAt 22 = .ok (.iconst 0, 1) := by decide +kernel
theorem dX7_surestAt_23 : decode cX7_surestAt 23 = .ok (.aload_n 0, 1) := by decide +kernel
theorem dX7_surestAt_24 : decode cX7_surestAt 24 = .ok (.getfield 364, 3) := by decide +kernel
theorem dX7_surestAt_27 : decode cX7_surestAt 27 = .ok (.iconst 1, 1) := by decide +kernel
theorem dX7_surestAt_28 : decode cX7_surestAt 28 = .ok (.isub, 1) := by decide +kernel
theorem dX7_surestAt_29 : decode cX7_surestAt 29 = .ok (.invokestatic 157, 3) := by decide +kernel
theorem dX7_surestAt_32 : decode cX7_surestAt 32 = .ok (.ifCond .eq 12, 3) := by decide +kernel
theorem dX7_surestAt_35 : decode cX7_surestAt 35 = .ok (.aload_n 0, 1) := by decide +kernel
theorem dX7_surestAt_36 : decode cX7_surestAt 36 = .ok (.getfield 50, 3) := by decide +kernel
theorem dX7_surestAt_39 : decode cX7_surestAt 39 = .ok (.iload_n 1, 1) := by decide +kernel
theorem dX7_surestAt_40 : decode cX7_surestAt 40 = .ok (.iaload, 1) := by decide +kernel
theorem dX7_surestAt_41 : decode cX7_surestAt 41 = .ok (.goto 8, 3) := by decide +kernel
theorem dX7_surestAt_44 : decode cX7_surestAt 44 = .ok (.aload_n 0, 1) := by decide +kernel
theorem dX7_surestAt_45 : decode cX7_surestAt 45 = .ok (.iconst 1, 1) := by decide +kernel
theorem dX7_surestAt_46 : decode cX7_surestAt 46 = .ok (.invokevirtual 192, 3) := by decide +kernel
theorem dX7_surestAt_49 : decode cX7_surestAt 49 = .ok (.ireturn, 1) := by decide +kernel
def f_X7_surestAt : am_F := am_th (i_al 0) (am_th (i_cv 7 0 d_X7_good) (am_th (i_al 0) (am_th (i_gi 7 14) (am_br (b_1 (fun x => decide (¬ x = 0))) (am_th (i_al 0) (am_th (i_cv 7 0 d_X7_seekGrafts) (am_th (i_il 1) (am_th (i_ic (0)) (am_th (i_al 0) (am_th (i_gi 7 31) (am_th (i_ic (1)) (am_th (i_2 (fun x y => x - y)) (am_th (i_cs 3 d_X7_in) (am_br (b_1 (fun x => decide (x = 0))) (am_th (i_al 0) (am_th (i_ic (1)) (am_th (i_cv 7 1 d_X7_no) (r_i)))) (am_th (i_al 0) (am_th (i_gr 7 27) (am_th (i_il 1) (am_th (i_ia 0) (r_i))))))))))))))) (am_th (i_al 0) (am_th (i_ic (1)) (am_th (i_cv 7 1 d_X7_no) (r_i))))))))
def d_X7_surestAt : am_D := am_den 2 f_X7_surestAt
set_option maxHeartbeats 4000000 in
set_option maxRecDepth 100000 in
theorem b_X7_surestAt : am_Body yX7_surestAt cX7_surestAt 2 (some .int) 14 356 f_X7_surestAt := by
  intro p l e R s m args below meth c g n0 z0 r0 u0 C hr hn
  have C : am_Cx p l e R s m args below meth c g RX7 cX7_surestAt 2 n0 z0 (am_len u0) (am_wt u0) 14 356 := C
  unfold f_X7_surestAt
  exact (so_th (so_aload_n C dX7_surestAt_0 rfl) (so_th (so_cv C m_X7_good rfl k_594 k_596 k_595 k_597 k_475 ⟨by decide, by decide, by decide +kernel⟩ (by decide) dX7_surestAt_1) (so_th (so_aload_n C dX7_surestAt_4 rfl) (so_th (so_geti C fl_RX7_206 (by decide) dX7_surestAt_5) (so_br (so_if_ne C dX7_surestAt_8 (by decide)) (so_th (so_aload_n C dX7_surestAt_17 rfl) (so_th (so_cv C m_X7_seekGrafts rfl k_711 k_713 k_712 k_714 k_475 ⟨by decide, by decide, by decide +kernel⟩ (by decide) dX7_surestAt_18) (so_th (so_iload_n C dX7_surestAt_21 rfl) (so_th (so_iconst C dX7_surestAt_22 (by decide)) (so_th (so_aload_n C dX7_surestAt_23 rfl) (so_th (so_geti C fl_RX7_364 (by decide) dX7_surestAt_24) (so_th (so_iconst C dX7_surestAt_27 (by decide)) (so_th (so_isub C dX7_surestAt_28) (so_th (so_cs C m_X7_in k_511 k_513 k_512 k_475 ⟨by decide, by decide, by decide +kernel⟩ (by decide) dX7_surestAt_29) (so_br (so_if_eq C dX7_surestAt_32 (by decide)) (so_th (so_aload_n C dX7_surestAt_44 rfl) (so_th (so_iconst C dX7_surestAt_45 (by decide)) (so_th (so_cv C m_X7_no rfl k_609 k_611 k_610 k_612 k_475 ⟨by decide, by decide, by decide +kernel⟩ (by decide) dX7_surestAt_46) (so_ri C hr dX7_surestAt_49)))) (so_th (so_aload_n C dX7_surestAt_35 rfl) (so_th (so_getr C fl_RX7_50 dX7_surestAt_36) (so_th (so_iload_n C dX7_surestAt_39 rfl) (so_th (so_iald C dX7_surestAt_40) (so_goto C dX7_surestAt_41 (by decide) (so_ri C hr dX7_surestAt_49)))))))))))))))) (so_th (so_aload_n C dX7_surestAt_11 rfl) (so_th (so_iconst C dX7_surestAt_12 (by decide)) (so_th (so_cv C m_X7_no rfl k_609 k_611 k_610 k_612 k_475 ⟨by decide, by decide, by decide +kernel⟩ (by decide) dX7_surestAt_13) (so_ri C hr dX7_surestAt_16)))))))))
theorem m_X7_surestAt : am_M yX7_surestAt cX7_surestAt 2 (some .int) 14 356 d_X7_surestAt := am_M_of (by decide +kernel) b_X7_surestAt
theorem dX7_takes_0 : decode cX7_takes 0 = .ok (.aload_n 0, 1) := by decide +kernel
theorem dX7_takes_1 : decode cX7_takes 1 = .ok (.invokevirtual 189, 3) := by decide +kernel
theorem dX7_takes_4 : decode cX7_takes 4 = .ok (.aload_n 0, 1) := by decide +kernel
theorem dX7_takes_5 : decode cX7_takes 5 = .ok (.getfield 206, 3) := by decide +kernel
theorem dX7_takes_8 : decode cX7_takes 8 = .ok (.ifCond .ne 10, 3) := by decide +kernel
theorem dX7_takes_11 : decode cX7_takes 11 = .ok (.aload_n 0, 1) := by decide +kernel
theorem dX7_takes_12 : decode cX7_takes 12 = .ok (.iconst 1, 1) := by decide +kernel
theorem dX7_takes_13 : decode cX7_takes 13 = .ok (.invokevirtual 192, 3) := by decide +kernel
theorem dX7_takes_16 : decode cX7_takes 16 = .ok (.i2l, 1) := by decide +kernel
theorem dX7_takes_17 : decode cX7_takes 17 = .ok (.lreturn, 1) := by decide +kernel
theorem dX7_takes_18 : decode cX7_takes 18 = .ok (.aload_n 0, 1) := by decide +kernel
theorem dX7_takes_19 : decode cX7_takes 19 = .ok (.invokevirtual 377, 3) := by decide +kernel
theorem dX7_takes_22 : decode cX7_takes 22 = .ok (.lconst 0, 1) := by decide +kernel
theorem dX7_takes_23 : decode cX7_takes 23 = .ok (.lstore_n 2, 1) := by decide +kernel
theorem dX7_takes_24 : decode cX7_takes 24 = .ok (.iconst 0, 1) := by decide +kernel
theorem dX7_takes_25 : decode cX7_takes 25 = .ok (.istore 4, 2) := by decide +kernel
theorem dX7_takes_27 : decode cX7_takes 27 = .ok (.iload 4, 2) := by decide +kernel
theorem dX7_takes_29 : decode cX7_takes 29 = .ok (.aload_n 0, 1) := by decide +kernel
theorem dX7_takes_30 : decode cX7_takes 30 = .ok (.getfield 364, 3) := by decide +kernel
theorem dX7_takes_33 : decode cX7_takes 33 = .ok (.if_icmp .ge 20, 3) := by decide +kernel
theorem dX7_takes_36 : decode cX7_takes 36 = .ok (.lload_n 2, 1) := by decide +kernel
theorem dX7_takes_37 : decode cX7_takes 37 = .ok (.aload_n 0, 1) := by decide +kernel
theorem dX7_takes_38 : decode cX7_takes 38 = .ok (.getfield 56, 3) := by decide +kernel
theorem dX7_takes_41 : decode cX7_takes 41 = .ok (.iload 4, 2) := by decide +kernel
theorem dX7_takes_43 : decode cX7_takes 43 = .ok (.iaload, 1) := by decide +kernel
theorem dX7_takes_44 : decode cX7_takes 44 = .ok (.i2l, 1) := by decide +kernel
theorem dX7_takes_45 : decode cX7_takes 45 = .ok (.ladd, 1) := by decide +kernel
theorem dX7_takes_46 : decode cX7_takes 46 = .ok (.lstore_n 2, 1) := by decide +kernel
theorem dX7_takes_47 : decode cX7_takes 47 = .ok (.iinc 4 1, 3) := by decide +kernel
theorem dX7_takes_50 : decode cX7_takes 50 = .ok (.goto (-23), 3) := by decide +kernel
theorem dX7_takes_53 : decode cX7_takes 53 = .ok (.lload_n 2, 1) := by decide +kernel
theorem dX7_takes_54 : decode cX7_takes 54 = .ok (.ldc2_w 380, 3) := by decide +kernel
theorem dX7_takes_57 : decode cX7_takes 57 = .ok (.iload_n 1, 1) := by decide +kernel
theorem dX7_takes_58 : decode cX7_takes 58 = .ok (.invokestatic 382, 3) := by decide +kernel
theorem dX7_takes_61 : decode cX7_takes 61 = .ok (.lreturn, 1) := by decide +kernel
def f_X7_takes_l27 : am_F := am_th (i_il 4) (am_th (i_al 0) (am_th (i_gi 7 31) (am_br (b_2 (fun x y => decide (y ≤ x))) (am_to 53) (am_th (i_ll 2) (am_th (i_al 0) (am_th (i_gr 7 29) (am_th (i_il 4) (am_th (i_ia 0) (am_th (i_i2l) (am_th (j_2 (fun x y => x + y)) (am_th (i_ls 2) (am_th (i_inc 4 (1)) (am_to 27)))))))))))))
def f_X7_takes : am_F := am_th (i_al 0) (am_th (i_cv 7 0 d_X7_good) (am_th (i_al 0) (am_th (i_gi 7 14) (am_br (b_1 (fun x => decide (¬ x = 0))) (am_th (i_al 0) (am_th (i_cv 7 0 d_X7_seekGrafts) (am_th (i_lc (0)) (am_th (i_ls 2) (am_th (i_ic (0)) (am_th (i_is 4) (am_sq 53 (am_lp 5000 27 f_X7_takes_l27) (am_th (i_ll 2) (am_th (i_lc (100)) (am_th (i_il 1) (am_th (i_cs 3 d_X7_lowest) (r_l)))))))))))) (am_th (i_al 0) (am_th (i_ic (1)) (am_th (i_cv 7 1 d_X7_no) (am_th (i_i2l) (r_l)))))))))
def d_X7_takes : am_D := am_den 5 f_X7_takes
set_option maxHeartbeats 4000000 in
set_option maxRecDepth 100000 in
theorem b_X7_takes : am_Body yX7_takes cX7_takes 5 (some .long) 14 356 f_X7_takes := by
  intro p l e R s m args below meth c g n0 z0 r0 u0 C hr hn
  have C : am_Cx p l e R s m args below meth c g RX7 cX7_takes 5 n0 z0 (am_len u0) (am_wt u0) 14 356 := C
  have l27 : am_Snd (am_GM p l e R s m args below meth c g 5 n0 z0 r0 u0) (am_Rt r0 u0) 27 (f_X7_takes_l27) := by
    unfold f_X7_takes_l27
    exact (so_th (so_iload C dX7_takes_27) (so_th (so_aload_n C dX7_takes_29 rfl) (so_th (so_geti C fl_RX7_364 (by decide) dX7_takes_30) (so_br (so_icmp_ge C dX7_takes_33 (by decide)) (so_to) (so_th (so_lload_n C dX7_takes_36 rfl) (so_th (so_aload_n C dX7_takes_37 rfl) (so_th (so_getr C fl_RX7_56 dX7_takes_38) (so_th (so_iload C dX7_takes_41) (so_th (so_iald C dX7_takes_43) (so_th (so_i2l C dX7_takes_44) (so_th (so_ladd C dX7_takes_45) (so_th (so_lstore_n C dX7_takes_46 rfl (by decide)) (so_th (so_iinc C dX7_takes_47 (by decide) (by decide)) (so_goto C dX7_takes_50 (by decide) (so_to)))))))))))))))
  unfold f_X7_takes
  exact (so_th (so_aload_n C dX7_takes_0 rfl) (so_th (so_cv C m_X7_good rfl k_594 k_596 k_595 k_597 k_475 ⟨by decide, by decide, by decide +kernel⟩ (by decide) dX7_takes_1) (so_th (so_aload_n C dX7_takes_4 rfl) (so_th (so_geti C fl_RX7_206 (by decide) dX7_takes_5) (so_br (so_if_ne C dX7_takes_8 (by decide)) (so_th (so_aload_n C dX7_takes_18 rfl) (so_th (so_cv C m_X7_seekGrafts rfl k_711 k_713 k_712 k_714 k_475 ⟨by decide, by decide, by decide +kernel⟩ (by decide) dX7_takes_19) (so_th (so_lconst C dX7_takes_22 (by decide)) (so_th (so_lstore_n C dX7_takes_23 rfl (by decide)) (so_th (so_iconst C dX7_takes_24 (by decide)) (so_th (so_istore C dX7_takes_25 (by decide)) (so_sq (so_lp l27 5000) (so_th (so_lload_n C dX7_takes_53 rfl) (so_th (so_ldc2 C dX7_takes_54 k_715) (so_th (so_iload_n C dX7_takes_57 rfl) (so_th (so_cs C m_X7_lowest k_716 k_718 k_717 k_475 ⟨by decide, by decide, by decide +kernel⟩ (by decide) dX7_takes_58) (so_rl C hr dX7_takes_61)))))))))))) (so_th (so_aload_n C dX7_takes_11 rfl) (so_th (so_iconst C dX7_takes_12 (by decide)) (so_th (so_cv C m_X7_no rfl k_609 k_611 k_610 k_612 k_475 ⟨by decide, by decide, by decide +kernel⟩ (by decide) dX7_takes_13) (so_th (so_i2l C dX7_takes_16) (so_rl C hr dX7_takes_17))))))))))
theorem m_X7_takes : am_M yX7_takes cX7_takes 5 (some .long) 14 356 d_X7_takes := am_M_of (by decide +kernel) b_X7_takes
theorem dX7_fallenBy_0 : decode cX7_fallenBy 0 = .ok (.aload_n 0, 1) := by decide +kernel
theorem dX7_fallenBy_1 : decode cX7_fallenBy 1 = .ok (.getfield 26, 3) := by decide +kernel
theorem dX7_fallenBy_4 : decode cX7_fallenBy 4 = .ok (.iconst 0, 1) := by decide +kernel
theorem dX7_fallenBy_5 : decode cX7_fallenBy 5 = .ok (.aload_n 0, 1) := by decide +kernel
theorem dX7_fallenBy_6 : decode cX7_fallenBy 6 = .ok (.getfield 38, 3) := by decide +kernel
theorem dX7_fallenBy_9 : decode cX7_fallenBy 9 = .ok (.iconst 0, 1) := by decide +kernel
theorem dX7_fallenBy_10 : decode cX7_fallenBy 10 = .ok (.bipush 26, 2) := by decide +kernel
theorem dX7_fallenBy_12 : decode cX7_fallenBy 12 = .ok (.invokestatic 198, 3) := by decide +kernel
theorem dX7_fallenBy_15 : decode cX7_fallenBy 15 = .ok (.aload_n 0, 1) := by decide +kernel
theorem dX7_fallenBy_16 : decode cX7_fallenBy 16 = .ok (.aload_n 0, 1) := by decide +kernel
theorem dX7_fallenBy_17 : decode cX7_fallenBy 17 = .ok (.getfield 38, 3) := by decide +kernel
theorem dX7_fallenBy_20 : decode cX7_fallenBy 20 = .ok (.iload_n 1, 1) := by decide +kernel
theorem dX7_fallenBy_21 : decode cX7_fallenBy 21 = .ok (.iload_n 2, 1) := by decide +kernel
theorem dX7_fallenBy_22 : decode cX7_fallenBy 22 = .ok (.invokevirtual 367, 3) := by decide +kernel
theorem dX7_fallenBy_25 : decode cX7_fallenBy 25 = .ok (.aload_n 0, 1) := by decide +kernel
theorem dX7_fallenBy_26 : decode cX7_fallenBy 26 = .ok (.aload_n 0, 1) := by decide +kernel
theorem dX7_fallenBy_27 : decode cX7_fallenBy 27 = .ok (.getfield 38, 3) := by decide +kernel
theorem dX7_fallenBy_30 : decode cX7_fallenBy 30 = .ok (.iload_n 3, 1) := by decide +kernel
theorem dX7_fallenBy_31 : decode cX7_fallenBy 31 = .ok (.invokevirtual 315, 3) := by decide +kernel
theorem dX7_fallenBy_34 : decode cX7_fallenBy 34 = .ok (.aload_n 0, 1) := by decide +kernel
theorem dX7_fallenBy_35 : decode cX7_fallenBy 35 = .ok (.aload_n 0, 1) := by decide +kernel
theorem dX7_fallenBy_36 : decode cX7_fallenBy 36 = .ok (.getfield 38, 3) := by decide +kernel
theorem dX7_fallenBy_39 : decode cX7_fallenBy 39 = .ok (.bipush 12, 2) := by decide +kernel
theorem dX7_fallenBy_41 : decode cX7_fallenBy 41 = .ok (.invokevirtual 341, 3) := by decide +kernel
theorem dX7_fallenBy_44 : decode cX7_fallenBy 44 = .ok (.aload_n 0, 1) := by decide +kernel
theorem dX7_fallenBy_45 : decode cX7_fallenBy 45 = .ok (.aload_n 0, 1) := by decide +kernel
theorem dX7_fallenBy_46 : decode cX7_fallenBy 46 = .ok (.getfield 26, 3) := by decide +kernel
theorem dX7_fallenBy_49 : decode cX7_fallenBy 49 = .ok (.bipush 12, 2) := by decide +kernel
theorem dX7_fallenBy_51 : decode cX7_fallenBy 51 = .ok (.invokevirtual 341, 3) := by decide +kernel
theorem dX7_fallenBy_54 : decode cX7_fallenBy 54 = .ok (.isub, 1) := by decide +kernel
theorem dX7_fallenBy_55 : decode cX7_fallenBy 55 = .ok (.ireturn, 1) := by decide +kernel
def f_X7_fallenBy : am_F := am_th (i_al 0) (am_th (i_gr 7 17) (am_th (i_ic (0)) (am_th (i_al 0) (am_th (i_gr 7 23) (am_th (i_ic (0)) (am_th (i_ic (26)) (am_th (i_cs 5 d_X7_copy) (am_th (i_al 0) (am_th (i_al 0) (am_th (i_gr 7 23) (am_th (i_il 1) (am_th (i_il 2) (am_th (i_cv 7 3 d_X7_grafts) (am_th (i_al 0) (am_th (i_al 0) (am_th (i_gr 7 23) (am_th (i_il 3) (am_th (i_cv 7 2 d_X7_goes) (am_th (i_al 0) (am_th (i_al 0) (am_th (i_gr 7 23) (am_th (i_ic (12)) (am_th (i_cv 7 2 d_X7_sumOf) (am_th (i_al 0) (am_th (i_al 0) (am_th (i_gr 7 17) (am_th (i_ic (12)) (am_th (i_cv 7 2 d_X7_sumOf) (am_th (i_2 (fun x y => x - y)) (r_i))))))))))))))))))))))))))))))
def d_X7_fallenBy : am_D := am_den 4 f_X7_fallenBy
set_option maxHeartbeats 4000000 in
set_option maxRecDepth 100000 in
theorem b_X7_fallenBy : am_Body yX7_fallenBy cX7_fallenBy 4 (some .int) 6 137 f_X7_fallenBy := by
  intro p l e R s m args below meth c g n0 z0 r0 u0 C hr hn
  have C : am_Cx p l e R s m args below meth c g RX7 cX7_fallenBy 4 n0 z0 (am_len u0) (am_wt u0) 6 137 := C
  unfold f_X7_fallenBy
  exact (so_th (so_aload_n C dX7_fallenBy_0 rfl) (so_th (so_getr C fl_RX7_26 dX7_fallenBy_1) (so_th (so_iconst C dX7_fallenBy_4 (by decide)) (so_th (so_aload_n C dX7_fallenBy_5 rfl) (so_th (so_getr C fl_RX7_38 dX7_fallenBy_6) (so_th (so_iconst C dX7_fallenBy_9 (by decide)) (so_th (so_bipush C dX7_fallenBy_10 (by decide)) (so_th (so_cs C m_X7_copy k_602 k_604 k_603 k_475 ⟨by decide, by decide, by decide +kernel⟩ (by decide) dX7_fallenBy_12) (so_th (so_aload_n C dX7_fallenBy_15 rfl) (so_th (so_aload_n C dX7_fallenBy_16 rfl) (so_th (so_getr C fl_RX7_38 dX7_fallenBy_17) (so_th (so_iload_n C dX7_fallenBy_20 rfl) (so_th (so_iload_n C dX7_fallenBy_21 rfl) (so_th (so_cv C m_X7_grafts rfl k_702 k_704 k_703 k_705 k_475 ⟨by decide, by decide, by decide +kernel⟩ (by decide) dX7_fallenBy_22) (so_th (so_aload_n C dX7_fallenBy_25 rfl) (so_th (so_aload_n C dX7_fallenBy_26 rfl) (so_th (so_getr C fl_RX7_38 dX7_fallenBy_27) (so_th (so_iload_n C dX7_fallenBy_30 rfl) (so_th (so_cv C m_X7_goes rfl k_650 k_652 k_651 k_653 k_475 ⟨by decide, by decide, by decide +kernel⟩ (by decide) dX7_fallenBy_31) (so_th (so_aload_n C dX7_fallenBy_34 rfl) (so_th (so_aload_n C dX7_fallenBy_35 rfl) (so_th (so_getr C fl_RX7_38 dX7_fallenBy_36) (so_th (so_bipush C dX7_fallenBy_39 (by decide)) (so_th (so_cv C m_X7_sumOf rfl k_682 k_684 k_683 k_685 k_475 ⟨by decide, by decide, by decide +kernel⟩ (by decide) dX7_fallenBy_41) (so_th (so_aload_n C dX7_fallenBy_44 rfl) (so_th (so_aload_n C dX7_fallenBy_45 rfl) (so_th (so_getr C fl_RX7_26 dX7_fallenBy_46) (so_th (so_bipush C dX7_fallenBy_49 (by decide)) (so_th (so_cv C m_X7_sumOf rfl k_682 k_684 k_683 k_685 k_475 ⟨by decide, by decide, by decide +kernel⟩ (by decide) dX7_fallenBy_51) (so_th (so_isub C dX7_fallenBy_54) (so_ri C hr dX7_fallenBy_55)))))))))))))))))))))))))))))))
theorem m_X7_fallenBy : am_M yX7_fallenBy cX7_fallenBy 4 (some .int) 6 137 d_X7_fallenBy := am_M_of (by decide +kernel) b_X7_fallenBy
theorem dX7_grafted_0 : decode cX7_grafted 0 = .ok (.aload_n 0, 1) := by decide +kernel
theorem dX7_grafted_1 : decode cX7_grafted 1 = .ok (.invokevirtual 189, 3) := by decide +kernel
theorem dX7_grafted_4 : decode cX7_grafted 4 = .ok (.aload_n 0, 1) := by decide +kernel
theorem dX7_grafted_5 : decode cX7_grafted 5 = .ok (.iload_n 1, 1) := by decide +kernel
theorem dX7_grafted_6 : decode cX7_grafted 6 = .ok (.invokevirtual 322, 3) := by decide +kernel
theorem dX7_grafted_9 : decode cX7_grafted 9 = .ok (.ifCond .eq 11, 3) := by decide +kernel
theorem dX7_grafted_12 : decode cX7_grafted 12 = .ok (.aload_n 0, 1) := by decide +kernel
theorem dX7_grafted_13 : decode cX7_grafted 13 = .ok (.iload_n 2, 1) := by decide +kernel
theorem dX7_grafted_14 : decode cX7_grafted 14 = .ok (.invokevirtual 322, 3) := by decide +kernel
theorem dX7_grafted_17 : decode cX7_grafted 17 = .ok (.ifCond .ne 9, 3) := by decide +kernel
theorem dX7_grafted_20 : decode cX7_grafted 20 = .ok (.aload_n 0, 1) := by decide +kernel
theorem dX7_grafted_21 : decode cX7_grafted 21 = .ok (.iconst 1, 1) := by decide +kernel
theorem dX7_grafted_22 : decode cX7_grafted 22 = .ok (.invokevirtual 192, 3) := by decide +kernel
theorem dX7_grafted_25 : decode cX7_grafted 25 = .ok (.ireturn, 1) := by decide +kernel
theorem dX7_grafted_26 : decode cX7_grafted 26 = .ok (.iload_n 3, 1) := by decide +kernel
theorem dX7_grafted_27 : decode cX7_grafted 27 = .ok (.iconst 0, 1) := by decide +kernel
theorem dX7_grafted_28 : decode cX7_grafted 28 = .ok (.bipush 24, 2) := by decide +kernel
theorem dX7_grafted_30 : decode cX7_grafted 30 = .ok (.invokestatic 157, 3) := by decide +kernel
theorem dX7_grafted_33 : decode cX7_grafted 33 = .ok (.ifCond .ne 9, 3) := by decide +kernel
theorem dX7_grafted_36 : decode cX7_grafted 36 = .ok (.aload_n 0, 1) := by decide +kernel
theorem dX7_grafted_37 : decode cX7_grafted 37 = .ok (.iconst 2, 1) := by decide +kernel
theorem dX7_grafted_38 : decode cX7_grafted 38 = .ok (.invokevirtual 192, 3) := by decide +kernel
theorem dX7_grafted_41 : decode cX7_grafted 41 = .ok (.ireturn, 1) := by decide +kernel
theorem dX7_grafted_42 : decode cX7_grafted 42 = .ok (.aload_n 0, 1) := by decide +kernel
theorem dX7_grafted_43 : decode cX7_grafted 43 = .ok (.aload_n 0, 1) := by decide +kernel
theorem dX7_grafted_44 : decode cX7_grafted 44 = .ok (.getfield 26, 3) := by decide +kernel
theorem dX7_grafted_47 : decode cX7_grafted 47 = .ok (.iload_n 1, 1) := by decide +kernel
theorem dX7_grafted_48 : decode cX7_grafted 48 = .ok (.iload_n 2, 1) := by decide +kernel
theorem dX7_grafted_49 : decode cX7_grafted 49 = .ok (.invokevirtual 354, 3) := by decide +kernel
theorem dX7_grafted_52 : decode cX7_grafted 52 = .ok (.ifCond .ne 11, 3) := by decide +kernel
theorem dX7_grafted_55 : decode cX7_grafted 55 = .ok (.aload_n 0, 1) := by decide +kernel
theorem dX7_grafted_56 : decode cX7_grafted 56 = .ok (.iconst 5, 1) := by decide +kernel
theorem dX7_grafted_57 : decode cX7_grafted 57 = .ok (.invokevirtual 192, 3) := by decide +kernel
theorem dX7_grafted_60 : decode cX7_grafted 60 = .ok (.goto 10, 3) := by decide +kernel
theorem dX7_grafted_63 : decode cX7_grafted 63 = .ok (.aload_n 0, 1) := by decide +kernel
theorem dX7_grafted_64 : decode cX7_grafted 64 = .ok (.iload_n 1, 1) := by decide +kernel
theorem dX7_grafted_65 : decode cX7_grafted 65 = .ok (.iload_n 2, 1) := by decide +kernel
theorem dX7_grafted_66 : decode cX7_grafted 66 = .ok (.iload_n 3, 1) := by decide +kernel
theorem dX7_grafted_67 : decode cX7_grafted 67 = .ok (.invokevirtual 386, 3) := by decide +kernel
theorem dX7_grafted_70 : decode cX7_grafted 70 = .ok (.ireturn, 1) := by decide +kernel
def f_X7_grafted : am_F := am_th (i_al 0) (am_th (i_cv 7 0 d_X7_good) (am_th (i_al 0) (am_th (i_il 1) (am_th (i_cv 7 1 d_X7_isQuarrel) (am_br (b_1 (fun x => decide (x = 0))) (am_th (i_al 0) (am_th (i_ic (1)) (am_th (i_cv 7 1 d_X7_no) (r_i)))) (am_th (i_al 0) (am_th (i_il 2) (am_th (i_cv 7 1 d_X7_isQuarrel) (am_br (b_1 (fun x => decide (¬ x = 0))) (am_th (i_il 3) (am_th (i_ic (0)) (am_th (i_ic (24)) (am_th (i_cs 3 d_X7_in) (am_br (b_1 (fun x => decide (¬ x = 0))) (am_th (i_al 0) (am_th (i_al 0) (am_th (i_gr 7 17) (am_th (i_il 1) (am_th (i_il 2) (am_th (i_cv 7 3 d_X7_oddsIn) (am_br (b_1 (fun x => decide (¬ x = 0))) (am_th (i_al 0) (am_th (i_il 1) (am_th (i_il 2) (am_th (i_il 3) (am_th (i_cv 7 3 d_X7_fallenBy) (r_i)))))) (am_th (i_al 0) (am_th (i_ic (5)) (am_th (i_cv 7 1 d_X7_no) (r_i))))))))))) (am_th (i_al 0) (am_th (i_ic (2)) (am_th (i_cv 7 1 d_X7_no) (r_i))))))))) (am_th (i_al 0) (am_th (i_ic (1)) (am_th (i_cv 7 1 d_X7_no) (r_i)))))))))))))
def d_X7_grafted : am_D := am_den 4 f_X7_grafted
set_option maxHeartbeats 4000000 in
set_option maxRecDepth 100000 in
theorem b_X7_grafted : am_Body yX7_grafted cX7_grafted 4 (some .int) 7 160 f_X7_grafted := by
  intro p l e R s m args below meth c g n0 z0 r0 u0 C hr hn
  have C : am_Cx p l e R s m args below meth c g RX7 cX7_grafted 4 n0 z0 (am_len u0) (am_wt u0) 7 160 := C
  unfold f_X7_grafted
  exact (so_th (so_aload_n C dX7_grafted_0 rfl) (so_th (so_cv C m_X7_good rfl k_594 k_596 k_595 k_597 k_475 ⟨by decide, by decide, by decide +kernel⟩ (by decide) dX7_grafted_1) (so_th (so_aload_n C dX7_grafted_4 rfl) (so_th (so_iload_n C dX7_grafted_5 rfl) (so_th (so_cv C m_X7_isQuarrel rfl k_658 k_660 k_659 k_661 k_475 ⟨by decide, by decide, by decide +kernel⟩ (by decide) dX7_grafted_6) (so_br (so_if_eq C dX7_grafted_9 (by decide)) (so_th (so_aload_n C dX7_grafted_20 rfl) (so_th (so_iconst C dX7_grafted_21 (by decide)) (so_th (so_cv C m_X7_no rfl k_609 k_611 k_610 k_612 k_475 ⟨by decide, by decide, by decide +kernel⟩ (by decide) dX7_grafted_22) (so_ri C hr dX7_grafted_25)))) (so_th (so_aload_n C dX7_grafted_12 rfl) (so_th (so_iload_n C dX7_grafted_13 rfl) (so_th (so_cv C m_X7_isQuarrel rfl k_658 k_660 k_659 k_661 k_475 ⟨by decide, by decide, by decide +kernel⟩ (by decide) dX7_grafted_14) (so_br (so_if_ne C dX7_grafted_17 (by decide)) (so_th (so_iload_n C dX7_grafted_26 rfl) (so_th (so_iconst C dX7_grafted_27 (by decide)) (so_th (so_bipush C dX7_grafted_28 (by decide)) (so_th (so_cs C m_X7_in k_511 k_513 k_512 k_475 ⟨by decide, by decide, by decide +kernel⟩ (by decide) dX7_grafted_30) (so_br (so_if_ne C dX7_grafted_33 (by decide)) (so_th (so_aload_n C dX7_grafted_42 rfl) (so_th (so_aload_n C dX7_grafted_43 rfl) (so_th (so_getr C fl_RX7_26 dX7_grafted_44) (so_th (so_iload_n C dX7_grafted_47 rfl) (so_th (so_iload_n C dX7_grafted_48 rfl) (so_th (so_cv C m_X7_oddsIn rfl k_698 k_700 k_699 k_701 k_475 ⟨by decide, by decide, by decide +kernel⟩ (by decide) dX7_grafted_49) (so_br (so_if_ne C dX7_grafted_52 (by decide)) (so_th (so_aload_n C dX7_grafted_63 rfl) (so_th (so_iload_n C dX7_grafted_64 rfl) (so_th (so_iload_n C dX7_grafted_65 rfl) (so_th (so_iload_n C dX7_grafted_66 rfl) (so_th (so_cv C m_X7_fallenBy rfl k_719 k_721 k_720 k_722 k_475 ⟨by decide, by decide, by decide +kernel⟩ (by decide) dX7_grafted_67) (so_ri C hr dX7_grafted_70)))))) (so_th (so_aload_n C dX7_grafted_55 rfl) (so_th (so_iconst C dX7_grafted_56 (by decide)) (so_th (so_cv C m_X7_no rfl k_609 k_611 k_610 k_612 k_475 ⟨by decide, by decide, by decide +kernel⟩ (by decide) dX7_grafted_57) (so_goto C dX7_grafted_60 (by decide) (so_ri C hr dX7_grafted_70)))))))))))) (so_th (so_aload_n C dX7_grafted_36 rfl) (so_th (so_iconst C dX7_grafted_37 (by decide)) (so_th (so_cv C m_X7_no rfl k_609 k_611 k_610 k_612 k_475 ⟨by decide, by decide, by decide +kernel⟩ (by decide) dX7_grafted_38) (so_ri C hr dX7_grafted_41))))))))) (so_th (so_aload_n C dX7_grafted_20 rfl) (so_th (so_iconst C dX7_grafted_21 (by decide)) (so_th (so_cv C m_X7_no rfl k_609 k_611 k_610 k_612 k_475 ⟨by decide, by decide, by decide +kernel⟩ (by decide) dX7_grafted_22) (so_ri C hr dX7_grafted_25))))))))))))))
theorem m_X7_grafted : am_M yX7_grafted cX7_grafted 4 (some .int) 7 160 d_X7_grafted := am_M_of (by decide +kernel) b_X7_grafted
theorem dX7_bestGraft_0 : decode cX7_bestGraft 0 = .ok (.aload_n 0, 1) := by decide +kernel
theorem dX7_bestGraft_1 : decode cX7_bestGraft 1 = .ok (.invokevirtual 189, 3) := by decide +kernel
theorem dX7_bestGraft_4 : decode cX7_bestGraft 4 = .ok (.aload_n 0, 1) := by decide +kernel
theorem dX7_bestGraft_5 : decode cX7_bestGraft 5 = .ok (.aload_n 0, 1) := by decide +kernel
theorem dX7_bestGraft_6 : decode cX7_bestGraft 6 = .ok (.getfield 206, 3) := by decide +kernel
theorem dX7_bestGraft_9 : decode cX7_bestGraft 9 = .ok (.iload_n 1, 1) := by decide +kernel
theorem dX7_bestGraft_10 : decode cX7_bestGraft 10 = .ok (.invokevirtual 337, 3) := by decide +kernel
theorem dX7_bestGraft_13 : decode cX7_bestGraft 13 = .ok (.istore_n 2, 1) := by decide +kernel
theorem dX7_bestGraft_14 : decode cX7_bestGraft 14 = .ok (.iload_n 2, 1) := by decide +kernel
theorem dX7_bestGraft_15 : decode cX7_bestGraft 15 = .ok (.ifCond .eq 9, 3) := by decide +kernel
theorem dX7_bestGraft_18 : decode cX7_bestGraft 18 = .ok (.aload_n 0, 1) := by decide +kernel
theorem dX7_bestGraft_19 : decode cX7_bestGraft 19 = .ok (.iload_n 2, 1) := by decide +kernel
theorem dX7_bestGraft_20 : decode cX7_bestGraft 20 = .ok (.invokevirtual 192, 3) := by decide +kernel
theorem dX7_bestGraft_23 : decode cX7_bestGraft 23 = .ok (.ireturn, 1) := by decide +kernel
theorem dX7_bestGraft_24 : decode cX7_bestGraft 24 = .ok (.aload_n 0, 1) := by decide +kernel
theorem dX7_bestGraft_25 : decode cX7_bestGraft 25 = .ok (.aload_n 0, 1) := by decide +kernel
theorem dX7_bestGraft_26 : decode cX7_bestGraft 26 = .ok (.getfield 38, 3) := by decide +kernel
theorem dX7_bestGraft_29 : decode cX7_bestGraft 29 = .ok (.bipush 12, 2) := by decide +kernel
theorem dX7_bestGraft_31 : decode cX7_bestGraft 31 = .ok (.invokevirtual 341, 3) := by decide +kernel
theorem dX7_bestGraft_34 : decode cX7_bestGraft 34 = .ok (.aload_n 0, 1) := by decide +kernel
theorem dX7_bestGraft_35 : decode cX7_bestGraft 35 = .ok (.aload_n 0, 1) := by decide +kernel
theorem dX7_bestGraft_36 : decode cX7_bestGraft 36 = .ok (.getfield 26, 3) := by decide +kernel
theorem dX7_bestGraft_39 : decode cX7_bestGraft 39 = .ok (.bipush 12, 2) := by decide +kernel
theorem dX7_bestGraft_41 : decode cX7_bestGraft 41 = .ok (.invokevirtual 341, 3) := by decide +kernel
theorem dX7_bestGraft_44 : decode cX7_bestGraft 44 = .ok (.isub, 1) := by decide +kernel
theorem dX7_bestGraft_45 : decode cX7_bestGraft 45 = .ok (.istore_n 3, 1) := by decide +kernel
theorem dX7_bestGraft_46 : decode cX7_bestGraft 46 = .ok (.bipush (-2), 2) := by decide +kernel
theorem dX7_bestGraft_48 : decode cX7_bestGraft 48 = .ok (.istore 4, 2) := by decide +kernel
theorem dX7_bestGraft_50 : decode cX7_bestGraft 50 = .ok (.iconst 0, 1) := by decide +kernel
theorem dX7_bestGraft_51 : decode cX7_bestGraft 51 = .ok (.istore 5, 2) := by decide +kernel
theorem dX7_bestGraft_53 : decode cX7_bestGraft 53 = .ok (.iload 5, 2) := by decide +kernel
theorem dX7_bestGraft_55 : decode cX7_bestGraft 55 = .ok (.aload_n 0, 1) := by decide +kernel
theorem dX7_bestGraft_56 : decode cX7_bestGraft 56 = .ok (.getfield 20, 3) := by decide +kernel
theorem dX7_bestGraft_59 : decode cX7_bestGraft 59 = .ok (.bipush 7, 2) := by decide +kernel
theorem dX7_bestGraft_61 : decode cX7_bestGraft 61 = .ok (.iaload, 1) := by decide +kernel
theorem dX7_bestGraft_62 : decode cX7_bestGraft 62 = .ok (.if_icmp .ge 81, 3) := by decide +kernel
theorem dX7_bestGraft_65 : decode cX7_bestGraft 65 = .ok (.iconst 0, 1) := by decide +kernel
theorem dX7_bestGraft_66 : decode cX7_bestGraft 66 = .ok (.istore 6, 2) := by decide +kernel
theorem dX7_bestGraft_68 : decode cX7_bestGraft 68 = .ok (.iload 6, 2) := by decide +kernel
theorem dX7_bestGraft_70 : decode cX7_bestGraft 70 = .ok (.aload_n 0, 1) := by decide +kernel
theorem dX7_bestGraft_71 : decode cX7_bestGraft 71 = .ok (.getfield 20, 3) := by decide +kernel
theorem dX7_bestGraft_74 : decode cX7_bestGraft 74 = .ok (.bipush 7, 2) := by decide +kernel
theorem dX7_bestGraft_76 : decode cX7_bestGraft 76 = .ok (.iaload, 1) := by decide +kernel
theorem dX7_bestGraft_77 : decode cX7_bestGraft 77 = .ok (.if_icmp .ge 60, 3) := by decide +kernel
theorem dX7_bestGraft_80 : decode cX7_bestGraft 80 = .ok (.aload_n 0, 1) := by decide +kernel
theorem dX7_bestGraft_81 : decode cX7_bestGraft 81 = .ok (.aload_n 0, 1) := by decide +kernel
theorem dX7_bestGraft_82 : decode cX7_bestGraft 82 = .ok (.getfield 26, 3) := by decide +kernel
theorem dX7_bestGraft_85 : decode cX7_bestGraft 85 = .ok (.iload 5, 2) := by decide +kernel
theorem dX7_bestGraft_87 : decode cX7_bestGraft 87 = .ok (.iload 6, 2) := by decide +kernel
theorem dX7_bestGraft_89 : decode cX7_bestGraft 89 = .ok (.invokevirtual 354, 3) := by decide +kernel
theorem dX7_bestGraft_92 : decode cX7_bestGraft 92 = .ok (.ifCond .eq 39, 3) := by decide +kernel
theorem dX7_bestGraft_95 : decode cX7_bestGraft 95 = .ok (.aload_n 0, 1) := by decide +kernel
theorem dX7_bestGraft_96 : decode cX7_bestGraft 96 = .ok (.iload 5, 2) := by decide +kernel
theorem dX7_bestGraft_98 : decode cX7_bestGraft 98 = .ok (.iload 6, 2) := by decide +kernel
theorem dX7_bestGraft_100 : decode cX7_bestGraft 100 = .ok (.iload_n 1, 1) := by decide +kernel
theorem dX7_bestGraft_101 : decode cX7_bestGraft 101 = .ok (.invokevirtual 386, 3) := by decide +kernel
theorem dX7_bestGraft_104 : decode cX7_bestGraft 104 = .ok (.iload_n 3, 1) := by decide +kernel
theorem dX7_bestGraft_105 : decode cX7_bestGraft 105 = .ok (.if_icmp .lt 6, 3) := by decide +kernel
theorem dX7_bestGraft_108 : decode cX7_bestGraft 108 = .ok (.goto 23, 3) := by decide +kernel
theorem dX7_bestGraft_111 : decode cX7_bestGraft 111 = .ok (.bipush 10, 2) := by decide +kernel
theorem dX7_bestGraft_113 : decode cX7_bestGraft 113 = .ok (.iload 5, 2) := by decide +kernel
theorem dX7_bestGraft_115 : decode cX7_bestGraft 115 = .ok (.imul, 1) := by decide +kernel
theorem dX7_bestGraft_116 : decode cX7_bestGraft 116 = .ok (.iload 6, 2) := by decide +kernel
theorem dX7_bestGraft_118 : decode cX7_bestGraft 118 = .ok (.iadd, 1) := by decide +kernel
theorem dX7_bestGraft_119 : decode cX7_bestGraft 119 = .ok (.istore 4, 2) := by decide +kernel
theorem dX7_bestGraft_121 : decode cX7_bestGraft 121 = .ok (.aload_n 0, 1) := by decide +kernel
theorem dX7_bestGraft_122 : decode cX7_bestGraft 122 = .ok (.iload 5, 2) := by decide +kernel
theorem dX7_bestGraft_124 : decode cX7_bestGraft 124 = .ok (.iload 6, 2) := by decide +kernel
theorem dX7_bestGraft_126 : decode cX7_bestGraft 126 = .ok (.iload_n 1, 1) := by decide +kernel
theorem dX7_bestGraft_127 : decode cX7_bestGraft 127 = .ok (.invokevirtual 386, 3) := by decide +kernel
theorem dX7_bestGraft_130 : decode cX7_bestGraft 130 = .ok (.istore_n 3, 1) := by decide +kernel
theorem dX7_bestGraft_131 : decode cX7_bestGraft 131 = .ok (.iinc 6 1, 3) := by decide +kernel
theorem dX7_bestGraft_134 : decode cX7_bestGraft 134 = .ok (.goto (-66), 3) := by decide +kernel
theorem dX7_bestGraft_137 : decode cX7_bestGraft 137 = .ok (.iinc 5 1, 3) := by decide +kernel
theorem dX7_bestGraft_140 : decode cX7_bestGraft 140 = .ok (.goto (-87), 3) := by decide +kernel
theorem dX7_bestGraft_143 : decode cX7_bestGraft 143 = .ok (.iload 4, 2) := by decide +kernel
theorem dX7_bestGraft_145 : decode cX7_bestGraft 145 = .ok (.ireturn, 1) := by decide +kernel
def f_X7_bestGraft_l68 : am_F := am_th (i_il 6) (am_th (i_al 0) (am_th (i_gr 7 15) (am_th (i_ic (7)) (am_th (i_ia 0) (am_br (b_2 (fun x y => decide (y ≤ x))) (am_th (i_inc 5 (1)) (am_to 53)) (am_th (i_al 0) (am_th (i_al 0) (am_th (i_gr 7 17) (am_th (i_il 5) (am_th (i_il 6) (am_th (i_cv 7 3 d_X7_oddsIn) (am_sq 131 (am_br (b_1 (fun x => decide (x = 0))) (am_to 131) (am_th (i_al 0) (am_th (i_il 5) (am_th (i_il 6) (am_th (i_il 1) (am_th (i_cv 7 3 d_X7_fallenBy) (am_th (i_il 3) (am_br (b_2 (fun x y => decide (x < y))) (am_th (i_ic (10)) (am_th (i_il 5) (am_th (i_2 (fun x y => x * y)) (am_th (i_il 6) (am_th (i_2 (fun x y => x + y)) (am_th (i_is 4) (am_th (i_al 0) (am_th (i_il 5) (am_th (i_il 6) (am_th (i_il 1) (am_th (i_cv 7 3 d_X7_fallenBy) (am_th (i_is 3) (am_to 131))))))))))))) (am_to 131))))))))) (am_th (i_inc 6 (1)) (am_to 68))))))))))))))
def f_X7_bestGraft_l53 : am_F := am_th (i_il 5) (am_th (i_al 0) (am_th (i_gr 7 15) (am_th (i_ic (7)) (am_th (i_ia 0) (am_br (b_2 (fun x y => decide (y ≤ x))) (am_to 143) (am_th (i_ic (0)) (am_th (i_is 6) (am_lp 5000 68 f_X7_bestGraft_l68))))))))
def f_X7_bestGraft : am_F := am_th (i_al 0) (am_th (i_cv 7 0 d_X7_good) (am_th (i_al 0) (am_th (i_al 0) (am_th (i_gi 7 14) (am_th (i_il 1) (am_th (i_cv 7 2 d_X7_why) (am_th (i_is 2) (am_th (i_il 2) (am_br (b_1 (fun x => decide (x = 0))) (am_th (i_al 0) (am_th (i_al 0) (am_th (i_gr 7 23) (am_th (i_ic (12)) (am_th (i_cv 7 2 d_X7_sumOf) (am_th (i_al 0) (am_th (i_al 0) (am_th (i_gr 7 17) (am_th (i_ic (12)) (am_th (i_cv 7 2 d_X7_sumOf) (am_th (i_2 (fun x y => x - y)) (am_th (i_is 3) (am_th (i_ic (-2)) (am_th (i_is 4) (am_th (i_ic (0)) (am_th (i_is 5) (am_sq 143 (am_lp 5000 53 f_X7_bestGraft_l53) (am_th (i_il 4) (r_i))))))))))))))))))) (am_th (i_al 0) (am_th (i_il 2) (am_th (i_cv 7 1 d_X7_no) (r_i)))))))))))))
def d_X7_bestGraft : am_D := am_den 7 f_X7_bestGraft
set_option maxHeartbeats 4000000 in
set_option maxRecDepth 100000 in
theorem b_X7_bestGraft : am_Body yX7_bestGraft cX7_bestGraft 7 (some .int) 8 180 f_X7_bestGraft := by
  intro p l e R s m args below meth c g n0 z0 r0 u0 C hr hn
  have C : am_Cx p l e R s m args below meth c g RX7 cX7_bestGraft 7 n0 z0 (am_len u0) (am_wt u0) 8 180 := C
  have l68 : am_Snd (am_GM p l e R s m args below meth c g 7 n0 z0 r0 u0) (am_Rt r0 u0) 68 (f_X7_bestGraft_l68) := by
    unfold f_X7_bestGraft_l68
    exact (so_th (so_iload C dX7_bestGraft_68) (so_th (so_aload_n C dX7_bestGraft_70 rfl) (so_th (so_getr C fl_RX7_20 dX7_bestGraft_71) (so_th (so_bipush C dX7_bestGraft_74 (by decide)) (so_th (so_iald C dX7_bestGraft_76) (so_br (so_icmp_ge C dX7_bestGraft_77 (by decide)) (so_th (so_iinc C dX7_bestGraft_137 (by decide) (by decide)) (so_goto C dX7_bestGraft_140 (by decide) (so_to))) (so_th (so_aload_n C dX7_bestGraft_80 rfl) (so_th (so_aload_n C dX7_bestGraft_81 rfl) (so_th (so_getr C fl_RX7_26 dX7_bestGraft_82) (so_th (so_iload C dX7_bestGraft_85) (so_th (so_iload C dX7_bestGraft_87) (so_th (so_cv C m_X7_oddsIn rfl k_698 k_700 k_699 k_701 k_475 ⟨by decide, by decide, by decide +kernel⟩ (by decide) dX7_bestGraft_89) (so_sq (so_br (so_if_eq C dX7_bestGraft_92 (by decide)) (so_to) (so_th (so_aload_n C dX7_bestGraft_95 rfl) (so_th (so_iload C dX7_bestGraft_96) (so_th (so_iload C dX7_bestGraft_98) (so_th (so_iload_n C dX7_bestGraft_100 rfl) (so_th (so_cv C m_X7_fallenBy rfl k_719 k_721 k_720 k_722 k_475 ⟨by decide, by decide, by decide +kernel⟩ (by decide) dX7_bestGraft_101) (so_th (so_iload_n C dX7_bestGraft_104 rfl) (so_br (so_icmp_lt C dX7_bestGraft_105 (by decide)) (so_th (so_bipush C dX7_bestGraft_111 (by decide)) (so_th (so_iload C dX7_bestGraft_113) (so_th (so_imul C dX7_bestGraft_115) (so_th (so_iload C dX7_bestGraft_116) (so_th (so_iadd C dX7_bestGraft_118) (so_th (so_istore C dX7_bestGraft_119 (by decide)) (so_th (so_aload_n C dX7_bestGraft_121 rfl) (so_th (so_iload C dX7_bestGraft_122) (so_th (so_iload C dX7_bestGraft_124) (so_th (so_iload_n C dX7_bestGraft_126 rfl) (so_th (so_cv C m_X7_fallenBy rfl k_719 k_721 k_720 k_722 k_475 ⟨by decide, by decide, by decide +kernel⟩ (by decide) dX7_bestGraft_127) (so_th (so_istore_n C dX7_bestGraft_130 rfl (by decide)) (so_to))))))))))))) (so_goto C dX7_bestGraft_108 (by decide) (so_to)))))))))) (so_th (so_iinc C dX7_bestGraft_131 (by decide) (by decide)) (so_goto C dX7_bestGraft_134 (by decide) (so_to))))))))))))))))
  have l53 : am_Snd (am_GM p l e R s m args below meth c g 7 n0 z0 r0 u0) (am_Rt r0 u0) 53 (f_X7_bestGraft_l53) := by
    unfold f_X7_bestGraft_l53
    exact (so_th (so_iload C dX7_bestGraft_53) (so_th (so_aload_n C dX7_bestGraft_55 rfl) (so_th (so_getr C fl_RX7_20 dX7_bestGraft_56) (so_th (so_bipush C dX7_bestGraft_59 (by decide)) (so_th (so_iald C dX7_bestGraft_61) (so_br (so_icmp_ge C dX7_bestGraft_62 (by decide)) (so_to) (so_th (so_iconst C dX7_bestGraft_65 (by decide)) (so_th (so_istore C dX7_bestGraft_66 (by decide)) (so_lp l68 5000)))))))))
  unfold f_X7_bestGraft
  exact (so_th (so_aload_n C dX7_bestGraft_0 rfl) (so_th (so_cv C m_X7_good rfl k_594 k_596 k_595 k_597 k_475 ⟨by decide, by decide, by decide +kernel⟩ (by decide) dX7_bestGraft_1) (so_th (so_aload_n C dX7_bestGraft_4 rfl) (so_th (so_aload_n C dX7_bestGraft_5 rfl) (so_th (so_geti C fl_RX7_206 (by decide) dX7_bestGraft_6) (so_th (so_iload_n C dX7_bestGraft_9 rfl) (so_th (so_cv C m_X7_why rfl k_678 k_680 k_679 k_681 k_475 ⟨by decide, by decide, by decide +kernel⟩ (by decide) dX7_bestGraft_10) (so_th (so_istore_n C dX7_bestGraft_13 rfl (by decide)) (so_th (so_iload_n C dX7_bestGraft_14 rfl) (so_br (so_if_eq C dX7_bestGraft_15 (by decide)) (so_th (so_aload_n C dX7_bestGraft_24 rfl) (so_th (so_aload_n C dX7_bestGraft_25 rfl) (so_th (so_getr C fl_RX7_38 dX7_bestGraft_26) (so_th (so_bipush C dX7_bestGraft_29 (by decide)) (so_th (so_cv C m_X7_sumOf rfl k_682 k_684 k_683 k_685 k_475 ⟨by decide, by decide, by decide +kernel⟩ (by decide) dX7_bestGraft_31) (so_th (so_aload_n C dX7_bestGraft_34 rfl) (so_th (so_aload_n C dX7_bestGraft_35 rfl) (so_th (so_getr C fl_RX7_26 dX7_bestGraft_36) (so_th (so_bipush C dX7_bestGraft_39 (by decide)) (so_th (so_cv C m_X7_sumOf rfl k_682 k_684 k_683 k_685 k_475 ⟨by decide, by decide, by decide +kernel⟩ (by decide) dX7_bestGraft_41) (so_th (so_isub C dX7_bestGraft_44) (so_th (so_istore_n C dX7_bestGraft_45 rfl (by decide)) (so_th (so_bipush C dX7_bestGraft_46 (by decide)) (so_th (so_istore C dX7_bestGraft_48 (by decide)) (so_th (so_iconst C dX7_bestGraft_50 (by decide)) (so_th (so_istore C dX7_bestGraft_51 (by decide)) (so_sq (so_lp l53 5000) (so_th (so_iload C dX7_bestGraft_143) (so_ri C hr dX7_bestGraft_145))))))))))))))))))) (so_th (so_aload_n C dX7_bestGraft_18 rfl) (so_th (so_iload_n C dX7_bestGraft_19 rfl) (so_th (so_cv C m_X7_no rfl k_609 k_611 k_610 k_612 k_475 ⟨by decide, by decide, by decide +kernel⟩ (by decide) dX7_bestGraft_20) (so_ri C hr dX7_bestGraft_23))))))))))))))
theorem m_X7_bestGraft : am_M yX7_bestGraft cX7_bestGraft 7 (some .int) 8 180 d_X7_bestGraft := am_M_of (by decide +kernel) b_X7_bestGraft
theorem dX7_coinOf_0 : decode cX7_coinOf 0 = .ok (.aload_n 0, 1) := by decide +kernel
theorem dX7_coinOf_1 : decode cX7_coinOf 1 = .ok (.getfield 20, 3) := by decide +kernel
theorem dX7_coinOf_4 : decode cX7_coinOf 4 = .ok (.iconst 2, 1) := by decide +kernel
theorem dX7_coinOf_5 : decode cX7_coinOf 5 = .ok (.iload_n 1, 1) := by decide +kernel
theorem dX7_coinOf_6 : decode cX7_coinOf 6 = .ok (.iconst 4, 1) := by decide +kernel
theorem dX7_coinOf_7 : decode cX7_coinOf 7 = .ok (.irem, 1) := by decide +kernel
theorem dX7_coinOf_8 : decode cX7_coinOf 8 = .ok (.iadd, 1) := by decide +kernel
theorem dX7_coinOf_9 : decode cX7_coinOf 9 = .ok (.iaload, 1) := by decide +kernel
theorem dX7_coinOf_10 : decode cX7_coinOf 10 = .ok (.ireturn, 1) := by decide +kernel
def f_X7_coinOf : am_F := am_th (i_al 0) (am_th (i_gr 7 15) (am_th (i_ic (2)) (am_th (i_il 1) (am_th (i_ic (4)) (am_th (i_2n (fun x y => x - x / y * y)) (am_th (i_2 (fun x y => x + y)) (am_th (i_ia 0) (r_i))))))))
def d_X7_coinOf : am_D := am_den 2 f_X7_coinOf
set_option maxHeartbeats 4000000 in
set_option maxRecDepth 100000 in
theorem b_X7_coinOf : am_Body yX7_coinOf cX7_coinOf 2 (some .int) 0 0 f_X7_coinOf := by
  intro p l e R s m args below meth c g n0 z0 r0 u0 C hr hn
  have C : am_Cx p l e R s m args below meth c g RX7 cX7_coinOf 2 n0 z0 (am_len u0) (am_wt u0) 0 0 := C
  unfold f_X7_coinOf
  exact (so_th (so_aload_n C dX7_coinOf_0 rfl) (so_th (so_getr C fl_RX7_20 dX7_coinOf_1) (so_th (so_iconst C dX7_coinOf_4 (by decide)) (so_th (so_iload_n C dX7_coinOf_5 rfl) (so_th (so_iconst C dX7_coinOf_6 (by decide)) (so_th (so_irem C dX7_coinOf_7) (so_th (so_iadd C dX7_coinOf_8) (so_th (so_iald C dX7_coinOf_9) (so_ri C hr dX7_coinOf_10)))))))))
theorem m_X7_coinOf : am_M yX7_coinOf cX7_coinOf 2 (some .int) 0 0 d_X7_coinOf := am_M_of (by decide +kernel) b_X7_coinOf
theorem dX7_behind_0 : decode cX7_behind 0 = .ok (.aload_n 0, 1) := by decide +kernel
theorem dX7_behind_1 : decode cX7_behind 1 = .ok (.iload_n 1, 1) := by decide +kernel
theorem dX7_behind_2 : decode cX7_behind 2 = .ok (.iload_n 2, 1) := by decide +kernel
theorem dX7_behind_3 : decode cX7_behind 3 = .ok (.aload_n 0, 1) := by decide +kernel
theorem dX7_behind_4 : decode cX7_behind 4 = .ok (.aload_n 0, 1) := by decide +kernel
theorem dX7_behind_5 : decode cX7_behind 5 = .ok (.getfield 26, 3) := by decide +kernel
theorem dX7_behind_8 : decode cX7_behind 8 = .ok (.iload_n 1, 1) := by decide +kernel
theorem dX7_behind_9 : decode cX7_behind 9 = .ok (.iload_n 3, 1) := by decide +kernel
theorem dX7_behind_10 : decode cX7_behind 10 = .ok (.invokevirtual 303, 3) := by decide +kernel
theorem dX7_behind_13 : decode cX7_behind 13 = .ok (.iadd, 1) := by decide +kernel
theorem dX7_behind_14 : decode cX7_behind 14 = .ok (.iload_n 3, 1) := by decide +kernel
theorem dX7_behind_15 : decode cX7_behind 15 = .ok (.invokevirtual 299, 3) := by decide +kernel
theorem dX7_behind_18 : decode cX7_behind 18 = .ok (.ireturn, 1) := by decide +kernel
def f_X7_behind : am_F := am_th (i_al 0) (am_th (i_il 1) (am_th (i_il 2) (am_th (i_al 0) (am_th (i_al 0) (am_th (i_gr 7 17) (am_th (i_il 1) (am_th (i_il 3) (am_th (i_cv 7 3 d_X7_deedsFor) (am_th (i_2 (fun x y => x + y)) (am_th (i_il 3) (am_th (i_cv 7 3 d_X7_wintered) (r_i))))))))))))
def d_X7_behind : am_D := am_den 4 f_X7_behind
set_option maxHeartbeats 4000000 in
set_option maxRecDepth 100000 in
theorem b_X7_behind : am_Body yX7_behind cX7_behind 4 (some .int) 3 67 f_X7_behind := by
  intro p l e R s m args below meth c g n0 z0 r0 u0 C hr hn
  have C : am_Cx p l e R s m args below meth c g RX7 cX7_behind 4 n0 z0 (am_len u0) (am_wt u0) 3 67 := C
  unfold f_X7_behind
  exact (so_th (so_aload_n C dX7_behind_0 rfl) (so_th (so_iload_n C dX7_behind_1 rfl) (so_th (so_iload_n C dX7_behind_2 rfl) (so_th (so_aload_n C dX7_behind_3 rfl) (so_th (so_aload_n C dX7_behind_4 rfl) (so_th (so_getr C fl_RX7_26 dX7_behind_5) (so_th (so_iload_n C dX7_behind_8 rfl) (so_th (so_iload_n C dX7_behind_9 rfl) (so_th (so_cv C m_X7_deedsFor rfl k_638 k_640 k_639 k_641 k_475 ⟨by decide, by decide, by decide +kernel⟩ (by decide) dX7_behind_10) (so_th (so_iadd C dX7_behind_13) (so_th (so_iload_n C dX7_behind_14 rfl) (so_th (so_cv C m_X7_wintered rfl k_634 k_636 k_635 k_637 k_475 ⟨by decide, by decide, by decide +kernel⟩ (by decide) dX7_behind_15) (so_ri C hr dX7_behind_18)))))))))))))
theorem m_X7_behind : am_M yX7_behind cX7_behind 4 (some .int) 3 67 d_X7_behind := am_M_of (by decide +kernel) b_X7_behind
theorem dX7_coinsBy_0 : decode cX7_coinsBy 0 = .ok (.aload_n 0, 1) := by decide +kernel
theorem dX7_coinsBy_1 : decode cX7_coinsBy 1 = .ok (.iload_n 1, 1) := by decide +kernel
theorem dX7_coinsBy_2 : decode cX7_coinsBy 2 = .ok (.iload_n 3, 1) := by decide +kernel
theorem dX7_coinsBy_3 : decode cX7_coinsBy 3 = .ok (.iload 4, 2) := by decide +kernel
theorem dX7_coinsBy_5 : decode cX7_coinsBy 5 = .ok (.isub, 1) := by decide +kernel
theorem dX7_coinsBy_6 : decode cX7_coinsBy 6 = .ok (.aload_n 0, 1) := by decide +kernel
theorem dX7_coinsBy_7 : decode cX7_coinsBy 7 = .ok (.getfield 26, 3) := by decide +kernel
theorem dX7_coinsBy_10 : decode cX7_coinsBy 10 = .ok (.bipush 24, 2) := by decide +kernel
theorem dX7_coinsBy_12 : decode cX7_coinsBy 12 = .ok (.iaload, 1) := by decide +kernel
theorem dX7_coinsBy_13 : decode cX7_coinsBy 13 = .ok (.iload_n 2, 1) := by decide +kernel
theorem dX7_coinsBy_14 : decode cX7_coinsBy 14 = .ok (.iadd, 1) := by decide +kernel
theorem dX7_coinsBy_15 : decode cX7_coinsBy 15 = .ok (.invokevirtual 389, 3) := by decide +kernel
theorem dX7_coinsBy_18 : decode cX7_coinsBy 18 = .ok (.istore 5, 2) := by decide +kernel
theorem dX7_coinsBy_20 : decode cX7_coinsBy 20 = .ok (.iload 5, 2) := by decide +kernel
theorem dX7_coinsBy_22 : decode cX7_coinsBy 22 = .ok (.aload_n 0, 1) := by decide +kernel
theorem dX7_coinsBy_23 : decode cX7_coinsBy 23 = .ok (.getfield 20, 3) := by decide +kernel
theorem dX7_coinsBy_26 : decode cX7_coinsBy 26 = .ok (.iconst 1, 1) := by decide +kernel
theorem dX7_coinsBy_27 : decode cX7_coinsBy 27 = .ok (.iaload, 1) := by decide +kernel
theorem dX7_coinsBy_28 : decode cX7_coinsBy 28 = .ok (.if_icmp .lt 7, 3) := by decide +kernel
theorem dX7_coinsBy_31 : decode cX7_coinsBy 31 = .ok (.ldc_w 392, 3) := by decide +kernel
theorem dX7_coinsBy_34 : decode cX7_coinsBy 34 = .ok (.ireturn, 1) := by decide +kernel
theorem dX7_coinsBy_35 : decode cX7_coinsBy 35 = .ok (.aload_n 0, 1) := by decide +kernel
theorem dX7_coinsBy_36 : decode cX7_coinsBy 36 = .ok (.getfield 59, 3) := by decide +kernel
theorem dX7_coinsBy_39 : decode cX7_coinsBy 39 = .ok (.bipush 31, 2) := by decide +kernel
theorem dX7_coinsBy_41 : decode cX7_coinsBy 41 = .ok (.iload_n 2, 1) := by decide +kernel
theorem dX7_coinsBy_42 : decode cX7_coinsBy 42 = .ok (.iconst 1, 1) := by decide +kernel
theorem dX7_coinsBy_43 : decode cX7_coinsBy 43 = .ok (.iadd, 1) := by decide +kernel
theorem dX7_coinsBy_44 : decode cX7_coinsBy 44 = .ok (.imul, 1) := by decide +kernel
theorem dX7_coinsBy_45 : decode cX7_coinsBy 45 = .ok (.iload 5, 2) := by decide +kernel
theorem dX7_coinsBy_47 : decode cX7_coinsBy 47 = .ok (.iadd, 1) := by decide +kernel
theorem dX7_coinsBy_48 : decode cX7_coinsBy 48 = .ok (.iaload, 1) := by decide +kernel
theorem dX7_coinsBy_49 : decode cX7_coinsBy 49 = .ok (.iload 4, 2) := by decide +kernel
theorem dX7_coinsBy_51 : decode cX7_coinsBy 51 = .ok (.aload_n 0, 1) := by decide +kernel
theorem dX7_coinsBy_52 : decode cX7_coinsBy 52 = .ok (.aload_n 0, 1) := by decide +kernel
theorem dX7_coinsBy_53 : decode cX7_coinsBy 53 = .ok (.getfield 26, 3) := by decide +kernel
theorem dX7_coinsBy_56 : decode cX7_coinsBy 56 = .ok (.bipush 24, 2) := by decide +kernel
theorem dX7_coinsBy_58 : decode cX7_coinsBy 58 = .ok (.iaload, 1) := by decide +kernel
theorem dX7_coinsBy_59 : decode cX7_coinsBy 59 = .ok (.iload_n 2, 1) := by decide +kernel
theorem dX7_coinsBy_60 : decode cX7_coinsBy 60 = .ok (.iadd, 1) := by decide +kernel
theorem dX7_coinsBy_61 : decode cX7_coinsBy 61 = .ok (.invokevirtual 393, 3) := by decide +kernel
theorem dX7_coinsBy_64 : decode cX7_coinsBy 64 = .ok (.imul, 1) := by decide +kernel
theorem dX7_coinsBy_65 : decode cX7_coinsBy 65 = .ok (.iadd, 1) := by decide +kernel
theorem dX7_coinsBy_66 : decode cX7_coinsBy 66 = .ok (.ireturn, 1) := by decide +kernel
def f_X7_coinsBy : am_F := am_th (i_al 0) (am_th (i_il 1) (am_th (i_il 3) (am_th (i_il 4) (am_th (i_2 (fun x y => x - y)) (am_th (i_al 0) (am_th (i_gr 7 17) (am_th (i_ic (24)) (am_th (i_ia 0) (am_th (i_il 2) (am_th (i_2 (fun x y => x + y)) (am_th (i_cv 7 3 d_X7_behind) (am_th (i_is 5) (am_th (i_il 5) (am_th (i_al 0) (am_th (i_gr 7 15) (am_th (i_ic (1)) (am_th (i_ia 0) (am_br (b_2 (fun x y => decide (x < y))) (am_th (i_al 0) (am_th (i_gr 7 33) (am_th (i_ic (31)) (am_th (i_il 2) (am_th (i_ic (1)) (am_th (i_2 (fun x y => x + y)) (am_th (i_2 (fun x y => x * y)) (am_th (i_il 5) (am_th (i_2 (fun x y => x + y)) (am_th (i_ia 0) (am_th (i_il 4) (am_th (i_al 0) (am_th (i_al 0) (am_th (i_gr 7 17) (am_th (i_ic (24)) (am_th (i_ia 0) (am_th (i_il 2) (am_th (i_2 (fun x y => x + y)) (am_th (i_cv 7 1 d_X7_coinOf) (am_th (i_2 (fun x y => x * y)) (am_th (i_2 (fun x y => x + y)) (r_i)))))))))))))))))))))) (am_th (i_ic (1000000)) (r_i))))))))))))))))))))
def d_X7_coinsBy : am_D := am_den 6 f_X7_coinsBy
set_option maxHeartbeats 4000000 in
set_option maxRecDepth 100000 in
theorem b_X7_coinsBy : am_Body yX7_coinsBy cX7_coinsBy 6 (some .int) 4 90 f_X7_coinsBy := by
  intro p l e R s m args below meth c g n0 z0 r0 u0 C hr hn
  have C : am_Cx p l e R s m args below meth c g RX7 cX7_coinsBy 6 n0 z0 (am_len u0) (am_wt u0) 4 90 := C
  unfold f_X7_coinsBy
  exact (so_th (so_aload_n C dX7_coinsBy_0 rfl) (so_th (so_iload_n C dX7_coinsBy_1 rfl) (so_th (so_iload_n C dX7_coinsBy_2 rfl) (so_th (so_iload C dX7_coinsBy_3) (so_th (so_isub C dX7_coinsBy_5) (so_th (so_aload_n C dX7_coinsBy_6 rfl) (so_th (so_getr C fl_RX7_26 dX7_coinsBy_7) (so_th (so_bipush C dX7_coinsBy_10 (by decide)) (so_th (so_iald C dX7_coinsBy_12) (so_th (so_iload_n C dX7_coinsBy_13 rfl) (so_th (so_iadd C dX7_coinsBy_14) (so_th (so_cv C m_X7_behind rfl k_723 k_725 k_724 k_726 k_475 ⟨by decide, by decide, by decide +kernel⟩ (by decide) dX7_coinsBy_15) (so_th (so_istore C dX7_coinsBy_18 (by decide)) (so_th (so_iload C dX7_coinsBy_20) (so_th (so_aload_n C dX7_coinsBy_22 rfl) (so_th (so_getr C fl_RX7_20 dX7_coinsBy_23) (so_th (so_iconst C dX7_coinsBy_26 (by decide)) (so_th (so_iald C dX7_coinsBy_27) (so_br (so_icmp_lt C dX7_coinsBy_28 (by decide)) (so_th (so_aload_n C dX7_coinsBy_35 rfl) (so_th (so_getr C fl_RX7_59 dX7_coinsBy_36) (so_th (so_bipush C dX7_coinsBy_39 (by decide)) (so_th (so_iload_n C dX7_coinsBy_41 rfl) (so_th (so_iconst C dX7_coinsBy_42 (by decide)) (so_th (so_iadd C dX7_coinsBy_43) (so_th (so_imul C dX7_coinsBy_44) (so_th (so_iload C dX7_coinsBy_45) (so_th (so_iadd C dX7_coinsBy_47) (so_th (so_iald C dX7_coinsBy_48) (so_th (so_iload C dX7_coinsBy_49) (so_th (so_aload_n C dX7_coinsBy_51 rfl) (so_th (so_aload_n C dX7_coinsBy_52 rfl) (so_th (so_getr C fl_RX7_26 dX7_coinsBy_53) (so_th (so_bipush C dX7_coinsBy_56 (by decide)) (so_th (so_iald C dX7_coinsBy_58) (so_th (so_iload_n C dX7_coinsBy_59 rfl) (so_th (so_iadd C dX7_coinsBy_60) (so_th (so_cv C m_X7_coinOf rfl k_727 k_729 k_728 k_730 k_475 ⟨by decide, by decide, by decide +kernel⟩ (by decide) dX7_coinsBy_61) (so_th (so_imul C dX7_coinsBy_64) (so_th (so_iadd C dX7_coinsBy_65) (so_ri C hr dX7_coinsBy_66)))))))))))))))))))))) (so_th (so_ldcw C dX7_coinsBy_31 k_731) (so_ri C hr dX7_coinsBy_34)))))))))))))))))))))
theorem m_X7_coinsBy : am_M yX7_coinsBy cX7_coinsBy 6 (some .int) 4 90 d_X7_coinsBy := am_M_of (by decide +kernel) b_X7_coinsBy
theorem dX7_cutOf_0 : decode cX7_cutOf 0 = .ok (.iload_n 3, 1) := by decide +kernel
theorem dX7_cutOf_1 : decode cX7_cutOf 1 = .ok (.istore 4, 2) := by decide +kernel
theorem dX7_cutOf_3 : decode cX7_cutOf 3 = .ok (.iload_n 3, 1) := by decide +kernel
theorem dX7_cutOf_4 : decode cX7_cutOf 4 = .ok (.istore 5, 2) := by decide +kernel
theorem dX7_cutOf_6 : decode cX7_cutOf 6 = .ok (.iload 5, 2) := by decide +kernel
theorem dX7_cutOf_8 : decode cX7_cutOf 8 = .ok (.ifCond .lt 34, 3) := by decide +kernel
theorem dX7_cutOf_11 : decode cX7_cutOf 11 = .ok (.aload_n 0, 1) := by decide +kernel
theorem dX7_cutOf_12 : decode cX7_cutOf 12 = .ok (.iload_n 1, 1) := by decide +kernel
theorem dX7_cutOf_13 : decode cX7_cutOf 13 = .ok (.iload_n 2, 1) := by decide +kernel
theorem dX7_cutOf_14 : decode cX7_cutOf 14 = .ok (.iload_n 3, 1) := by decide +kernel
theorem dX7_cutOf_15 : decode cX7_cutOf 15 = .ok (.iload 5, 2) := by decide +kernel
theorem dX7_cutOf_17 : decode cX7_cutOf 17 = .ok (.invokevirtual 396, 3) := by decide +kernel
theorem dX7_cutOf_20 : decode cX7_cutOf 20 = .ok (.aload_n 0, 1) := by decide +kernel
theorem dX7_cutOf_21 : decode cX7_cutOf 21 = .ok (.iload_n 1, 1) := by decide +kernel
theorem dX7_cutOf_22 : decode cX7_cutOf 22 = .ok (.iload_n 2, 1) := by decide +kernel
theorem dX7_cutOf_23 : decode cX7_cutOf 23 = .ok (.iload_n 3, 1) := by decide +kernel
theorem dX7_cutOf_24 : decode cX7_cutOf 24 = .ok (.iload 4, 2) := by decide +kernel
theorem dX7_cutOf_26 : decode cX7_cutOf 26 = .ok (.invokevirtual 396, 3) := by decide +kernel
theorem dX7_cutOf_29 : decode cX7_cutOf 29 = .ok (.if_icmp .ge 7, 3) := by decide +kernel
theorem dX7_cutOf_32 : decode cX7_cutOf 32 = .ok (.iload 5, 2) := by decide +kernel
theorem dX7_cutOf_34 : decode cX7_cutOf 34 = .ok (.istore 4, 2) := by decide +kernel
theorem dX7_cutOf_36 : decode cX7_cutOf 36 = .ok (.iinc 5 (-1), 3) := by decide +kernel
theorem dX7_cutOf_39 : decode cX7_cutOf 39 = .ok (.goto (-33), 3) := by decide +kernel
theorem dX7_cutOf_42 : decode cX7_cutOf 42 = .ok (.iload 4, 2) := by decide +kernel
theorem dX7_cutOf_44 : decode cX7_cutOf 44 = .ok (.ireturn, 1) := by decide +kernel
def f_X7_cutOf_l6 : am_F := am_th (i_il 5) (am_br (b_1 (fun x => decide (x < 0))) (am_to 42) (am_th (i_al 0) (am_th (i_il 1) (am_th (i_il 2) (am_th (i_il 3) (am_th (i_il 5) (am_th (i_cv 7 4 d_X7_coinsBy) (am_th (i_al 0) (am_th (i_il 1) (am_th (i_il 2) (am_th (i_il 3) (am_th (i_il 4) (am_th (i_cv 7 4 d_X7_coinsBy) (am_sq 36 (am_br (b_2 (fun x y => decide (y ≤ x))) (am_to 36) (am_th (i_il 5) (am_th (i_is 4) (am_to 36)))) (am_th (i_inc 5 (-1)) (am_to 6))))))))))))))))
def f_X7_cutOf : am_F := am_th (i_il 3) (am_th (i_is 4) (am_th (i_il 3) (am_th (i_is 5) (am_sq 42 (am_lp 5000 6 f_X7_cutOf_l6) (am_th (i_il 4) (r_i))))))
def d_X7_cutOf : am_D := am_den 6 f_X7_cutOf
set_option maxHeartbeats 4000000 in
set_option maxRecDepth 100000 in
theorem b_X7_cutOf : am_Body yX7_cutOf cX7_cutOf 6 (some .int) 5 115 f_X7_cutOf := by
  intro p l e R s m args below meth c g n0 z0 r0 u0 C hr hn
  have C : am_Cx p l e R s m args below meth c g RX7 cX7_cutOf 6 n0 z0 (am_len u0) (am_wt u0) 5 115 := C
  have l6 : am_Snd (am_GM p l e R s m args below meth c g 6 n0 z0 r0 u0) (am_Rt r0 u0) 6 (f_X7_cutOf_l6) := by
    unfold f_X7_cutOf_l6
    exact (so_th (so_iload C dX7_cutOf_6) (so_br (so_if_lt C dX7_cutOf_8 (by decide)) (so_to) (so_th (so_aload_n C dX7_cutOf_11 rfl) (so_th (so_iload_n C dX7_cutOf_12 rfl) (so_th (so_iload_n C dX7_cutOf_13 rfl) (so_th (so_iload_n C dX7_cutOf_14 rfl) (so_th (so_iload C dX7_cutOf_15) (so_th (so_cv C m_X7_coinsBy rfl k_732 k_734 k_733 k_735 k_475 ⟨by decide, by decide, by decide +kernel⟩ (by decide) dX7_cutOf_17) (so_th (so_aload_n C dX7_cutOf_20 rfl) (so_th (so_iload_n C dX7_cutOf_21 rfl) (so_th (so_iload_n C dX7_cutOf_22 rfl) (so_th (so_iload_n C dX7_cutOf_23 rfl) (so_th (so_iload C dX7_cutOf_24) (so_th (so_cv C m_X7_coinsBy rfl k_732 k_734 k_733 k_735 k_475 ⟨by decide, by decide, by decide +kernel⟩ (by decide) dX7_cutOf_26) (so_sq (so_br (so_icmp_ge C dX7_cutOf_29 (by decide)) (so_to) (so_th (so_iload C dX7_cutOf_32) (so_th (so_istore C dX7_cutOf_34 (by decide)) (so_to)))) (so_th (so_iinc C dX7_cutOf_36 (by decide) (by decide)) (so_goto C dX7_cutOf_39 (by decide) (so_to))))))))))))))))))
  unfold f_X7_cutOf
  exact (so_th (so_iload_n C dX7_cutOf_0 rfl) (so_th (so_istore C dX7_cutOf_1 (by decide)) (so_th (so_iload_n C dX7_cutOf_3 rfl) (so_th (so_istore C dX7_cutOf_4 (by decide)) (so_sq (so_lp l6 5000) (so_th (so_iload C dX7_cutOf_42) (so_ri C hr dX7_cutOf_44)))))))
theorem m_X7_cutOf : am_M yX7_cutOf cX7_cutOf 6 (some .int) 5 115 d_X7_cutOf := am_M_of (by decide +kernel) b_X7_cutOf
theorem dX7_min_0 : decode cX7_min 0 = .ok (.iload_n 0, 1) := by decide +kernel
theorem dX7_min_1 : decode cX7_min 1 = .ok (.iload_n 1, 1) := by decide +kernel
theorem dX7_min_2 : decode cX7_min 2 = .ok (.if_icmp .ge 7, 3) := by decide +kernel
theorem dX7_min_5 : decode cX7_min 5 = .ok (.iload_n 0, 1) := by decide +kernel
theorem dX7_min_6 : decode cX7_min 6 = .ok (.goto 4, 3) := by decide +kernel
theorem dX7_min_9 : decode cX7_min 9 = .ok (.iload_n 1, 1) := by decide +kernel
theorem dX7_min_10 : decode cX7_min 10 = .ok (.ireturn, 1) := by decide +kernel
def f_X7_min : am_F := am_th (i_il 0) (am_th (i_il 1) (am_br (b_2 (fun x y => decide (y ≤ x))) (am_th (i_il 1) (r_i)) (am_th (i_il 0) (r_i))))
def d_X7_min : am_D := am_den 2 f_X7_min
set_option maxHeartbeats 4000000 in
set_option maxRecDepth 100000 in
theorem b_X7_min : am_Body yX7_min cX7_min 2 (some .int) 0 0 f_X7_min := by
  intro p l e R s m args below meth c g n0 z0 r0 u0 C hr hn
  have C : am_Cx p l e R s m args below meth c g RX7 cX7_min 2 n0 z0 (am_len u0) (am_wt u0) 0 0 := C
  unfold f_X7_min
  exact (so_th (so_iload_n C dX7_min_0 rfl) (so_th (so_iload_n C dX7_min_1 rfl) (so_br (so_icmp_ge C dX7_min_2 (by decide)) (so_th (so_iload_n C dX7_min_9 rfl) (so_ri C hr dX7_min_10)) (so_th (so_iload_n C dX7_min_5 rfl) (so_goto C dX7_min_6 (by decide) (so_ri C hr dX7_min_10))))))
theorem m_X7_min : am_M yX7_min cX7_min 2 (some .int) 0 0 d_X7_min := am_M_of (by decide +kernel) b_X7_min
theorem dX7_seekCuts_0 : decode cX7_seekCuts 0 = .ok (.iconst 0, 1) := by decide +kernel
theorem dX7_seekCuts_1 : decode cX7_seekCuts 1 = .ok (.istore_n 3, 1) := by decide +kernel
theorem dX7_seekCuts_2 : decode cX7_seekCuts 2 = .ok (.iload_n 3, 1) := by decide +kernel
theorem dX7_seekCuts_3 : decode cX7_seekCuts 3 = .ok (.bipush 31, 2) := by decide +kernel
theorem dX7_seekCuts_5 : decode cX7_seekCuts 5 = .ok (.if_icmp .ge 21, 3) := by decide +kernel
theorem dX7_seekCuts_8 : decode cX7_seekCuts 8 = .ok (.aload_n 0, 1) := by decide +kernel
theorem dX7_seekCuts_9 : decode cX7_seekCuts 9 = .ok (.getfield 59, 3) := by decide +kernel
theorem dX7_seekCuts_12 : decode cX7_seekCuts 12 = .ok (.bipush 31, 2) := by decide +kernel
theorem dX7_seekCuts_14 : decode cX7_seekCuts 14 = .ok (.iload_n 2, 1) := by decide +kernel
theorem dX7_seekCuts_15 : decode cX7_seekCuts 15 = .ok (.imul, 1) := by decide +kernel
theorem dX7_seekCuts_16 : decode cX7_seekCuts 16 = .ok (.iload_n 3, 1) := by decide +kernel
theorem dX7_seekCuts_17 : decode cX7_seekCuts 17 = .ok (.iadd, 1) := by decide +kernel
theorem dX7_seekCuts_18 : decode cX7_seekCuts 18 = .ok (.iconst 0, 1) := by decide +kernel
theorem dX7_seekCuts_19 : decode cX7_seekCuts 19 = .ok (.iastore, 1) := by decide +kernel
theorem dX7_seekCuts_20 : decode cX7_seekCuts 20 = .ok (.iinc 3 1, 3) := by decide +kernel
theorem dX7_seekCuts_23 : decode cX7_seekCuts 23 = .ok (.goto (-21), 3) := by decide +kernel
theorem dX7_seekCuts_26 : decode cX7_seekCuts 26 = .ok (.iload_n 2, 1) := by decide +kernel
theorem dX7_seekCuts_27 : decode cX7_seekCuts 27 = .ok (.iconst 1, 1) := by decide +kernel
theorem dX7_seekCuts_28 : decode cX7_seekCuts 28 = .ok (.isub, 1) := by decide +kernel
theorem dX7_seekCuts_29 : decode cX7_seekCuts 29 = .ok (.istore_n 3, 1) := by decide +kernel
theorem dX7_seekCuts_30 : decode cX7_seekCuts 30 = .ok (.iload_n 3, 1) := by decide +kernel
theorem dX7_seekCuts_31 : decode cX7_seekCuts 31 = .ok (.ifCond .le 63, 3) := by decide +kernel
theorem dX7_seekCuts_34 : decode cX7_seekCuts 34 = .ok (.iconst 0, 1) := by decide +kernel
theorem dX7_seekCuts_35 : decode cX7_seekCuts 35 = .ok (.istore 4, 2) := by decide +kernel
theorem dX7_seekCuts_37 : decode cX7_seekCuts 37 = .ok (.iload 4, 2) := by decide +kernel
theorem dX7_seekCuts_39 : decode cX7_seekCuts 39 = .ok (.aload_n 0, 1) := by decide +kernel
theorem dX7_seekCuts_40 : decode cX7_seekCuts 40 = .ok (.getfield 20, 3) := by decide +kernel
theorem dX7_seekCuts_43 : decode cX7_seekCuts 43 = .ok (.iconst 1, 1) := by decide +kernel
theorem dX7_seekCuts_44 : decode cX7_seekCuts 44 = .ok (.iaload, 1) := by decide +kernel
theorem dX7_seekCuts_45 : decode cX7_seekCuts 45 = .ok (.if_icmp .ge 43, 3) := by decide +kernel
theorem dX7_seekCuts_48 : decode cX7_seekCuts 48 = .ok (.aload_n 0, 1) := by decide +kernel
theorem dX7_seekCuts_49 : decode cX7_seekCuts 49 = .ok (.getfield 59, 3) := by decide +kernel
theorem dX7_seekCuts_52 : decode cX7_seekCuts 52 = .ok (.bipush 31, 2) := by decide +kernel
theorem dX7_seekCuts_54 : decode cX7_seekCuts 54 = .ok (.iload_n 3, 1) := by decide +kernel
theorem dX7_seekCuts_55 : decode cX7_seekCuts 55 = .ok (.imul, 1) := by decide +kernel
theorem dX7_seekCuts_56 : decode cX7_seekCuts 56 = .ok (.iload 4, 2) := by decide +kernel
theorem dX7_seekCuts_58 : decode cX7_seekCuts 58 = .ok (.iadd, 1) := by decide +kernel
theorem dX7_seekCuts_59 : decode cX7_seekCuts 59 = .ok (.ldc_w 392, 3) := by decide +kernel
theorem dX7_seekCuts_62 : decode cX7_seekCuts 62 = .ok (.aload_n 0, 1) := by decide +kernel
theorem dX7_seekCuts_63 : decode cX7_seekCuts 63 = .ok (.iload_n 1, 1) := by decide +kernel
theorem dX7_seekCuts_64 : decode cX7_seekCuts 64 = .ok (.iload_n 3, 1) := by decide +kernel
theorem dX7_seekCuts_65 : decode cX7_seekCuts 65 = .ok (.iload 4, 2) := by decide +kernel
theorem dX7_seekCuts_67 : decode cX7_seekCuts 67 = .ok (.aload_n 0, 1) := by decide +kernel
theorem dX7_seekCuts_68 : decode cX7_seekCuts 68 = .ok (.iload_n 1, 1) := by decide +kernel
theorem dX7_seekCuts_69 : decode cX7_seekCuts 69 = .ok (.iload_n 3, 1) := by decide +kernel
theorem dX7_seekCuts_70 : decode cX7_seekCuts 70 = .ok (.iload 4, 2) := by decide +kernel
theorem dX7_seekCuts_72 : decode cX7_seekCuts 72 = .ok (.invokevirtual 400, 3) := by decide +kernel
theorem dX7_seekCuts_75 : decode cX7_seekCuts 75 = .ok (.invokevirtual 396, 3) := by decide +kernel
theorem dX7_seekCuts_78 : decode cX7_seekCuts 78 = .ok (.invokestatic 403, 3) := by decide +kernel
theorem dX7_seekCuts_81 : decode cX7_seekCuts 81 = .ok (.iastore, 1) := by decide +kernel
theorem dX7_seekCuts_82 : decode cX7_seekCuts 82 = .ok (.iinc 4 1, 3) := by decide +kernel
theorem dX7_seekCuts_85 : decode cX7_seekCuts 85 = .ok (.goto (-48), 3) := by decide +kernel
theorem dX7_seekCuts_88 : decode cX7_seekCuts 88 = .ok (.iinc 3 (-1), 3) := by decide +kernel
theorem dX7_seekCuts_91 : decode cX7_seekCuts 91 = .ok (.goto (-61), 3) := by decide +kernel
theorem dX7_seekCuts_94 : decode cX7_seekCuts 94 = .ok (.aload_n 0, 1) := by decide +kernel
theorem dX7_seekCuts_95 : decode cX7_seekCuts 95 = .ok (.getfield 26, 3) := by decide +kernel
theorem dX7_seekCuts_98 : decode cX7_seekCuts 98 = .ok (.iload_n 1, 1) := by decide +kernel
theorem dX7_seekCuts_99 : decode cX7_seekCuts 99 = .ok (.iaload, 1) := by decide +kernel
theorem dX7_seekCuts_100 : decode cX7_seekCuts 100 = .ok (.istore_n 3, 1) := by decide +kernel
theorem dX7_seekCuts_101 : decode cX7_seekCuts 101 = .ok (.iconst 0, 1) := by decide +kernel
theorem dX7_seekCuts_102 : decode cX7_seekCuts 102 = .ok (.istore 4, 2) := by decide +kernel
theorem dX7_seekCuts_104 : decode cX7_seekCuts 104 = .ok (.iconst 0, 1) := by decide +kernel
theorem dX7_seekCuts_105 : decode cX7_seekCuts 105 = .ok (.istore 5, 2) := by decide +kernel
theorem dX7_seekCuts_107 : decode cX7_seekCuts 107 = .ok (.iload 5, 2) := by decide +kernel
theorem dX7_seekCuts_109 : decode cX7_seekCuts 109 = .ok (.iload_n 2, 1) := by decide +kernel
theorem dX7_seekCuts_110 : decode cX7_seekCuts 110 = .ok (.if_icmp .ge 89, 3) := by decide +kernel
theorem dX7_seekCuts_113 : decode cX7_seekCuts 113 = .ok (.aload_n 0, 1) := by decide +kernel
theorem dX7_seekCuts_114 : decode cX7_seekCuts 114 = .ok (.iload_n 1, 1) := by decide +kernel
theorem dX7_seekCuts_115 : decode cX7_seekCuts 115 = .ok (.iload 5, 2) := by decide +kernel
theorem dX7_seekCuts_117 : decode cX7_seekCuts 117 = .ok (.iload_n 3, 1) := by decide +kernel
theorem dX7_seekCuts_118 : decode cX7_seekCuts 118 = .ok (.invokevirtual 400, 3) := by decide +kernel
theorem dX7_seekCuts_121 : decode cX7_seekCuts 121 = .ok (.istore 6, 2) := by decide +kernel
theorem dX7_seekCuts_123 : decode cX7_seekCuts 123 = .ok (.aload_n 0, 1) := by decide +kernel
theorem dX7_seekCuts_124 : decode cX7_seekCuts 124 = .ok (.iload_n 1, 1) := by decide +kernel
theorem dX7_seekCuts_125 : decode cX7_seekCuts 125 = .ok (.iload 5, 2) := by decide +kernel
theorem dX7_seekCuts_127 : decode cX7_seekCuts 127 = .ok (.iload_n 3, 1) := by decide +kernel
theorem dX7_seekCuts_128 : decode cX7_seekCuts 128 = .ok (.iload 6, 2) := by decide +kernel
theorem dX7_seekCuts_130 : decode cX7_seekCuts 130 = .ok (.invokevirtual 396, 3) := by decide +kernel
theorem dX7_seekCuts_133 : decode cX7_seekCuts 133 = .ok (.ldc_w 392, 3) := by decide +kernel
theorem dX7_seekCuts_136 : decode cX7_seekCuts 136 = .ok (.if_icmp .lt 6, 3) := by decide +kernel
theorem dX7_seekCuts_139 : decode cX7_seekCuts 139 = .ok (.bipush (-2), 2) := by decide +kernel
theorem dX7_seekCuts_141 : decode cX7_seekCuts 141 = .ok (.ireturn, 1) := by decide +kernel
theorem dX7_seekCuts_142 : decode cX7_seekCuts 142 = .ok (.aload_n 0, 1) := by decide +kernel
theorem dX7_seekCuts_143 : decode cX7_seekCuts 143 = .ok (.getfield 62, 3) := by decide +kernel
theorem dX7_seekCuts_146 : decode cX7_seekCuts 146 = .ok (.iload 5, 2) := by decide +kernel
theorem dX7_seekCuts_148 : decode cX7_seekCuts 148 = .ok (.iload 6, 2) := by decide +kernel
theorem dX7_seekCuts_150 : decode cX7_seekCuts 150 = .ok (.iastore, 1) := by decide +kernel
theorem dX7_seekCuts_151 : decode cX7_seekCuts 151 = .ok (.iload 4, 2) := by decide +kernel
theorem dX7_seekCuts_153 : decode cX7_seekCuts 153 = .ok (.iload 6, 2) := by decide +kernel
theorem dX7_seekCuts_155 : decode cX7_seekCuts 155 = .ok (.aload_n 0, 1) := by decide +kernel
theorem dX7_seekCuts_156 : decode cX7_seekCuts 156 = .ok (.aload_n 0, 1) := by decide +kernel
theorem dX7_seekCuts_157 : decode cX7_seekCuts 157 = .ok (.getfield 26, 3) := by decide +kernel
theorem dX7_seekCuts_160 : decode cX7_seekCuts 160 = .ok (.bipush 24, 2) := by decide +kernel
theorem dX7_seekCuts_162 : decode cX7_seekCuts 162 = .ok (.iaload, 1) := by decide +kernel
theorem dX7_seekCuts_163 : decode cX7_seekCuts 163 = .ok (.iload 5, 2) := by decide +kernel
theorem dX7_seekCuts_165 : decode cX7_seekCuts 165 = .ok (.iadd, 1) := by decide +kernel
theorem dX7_seekCuts_166 : decode cX7_seekCuts 166 = .ok (.invokevirtual 393, 3) := by decide +kernel
theorem dX7_seekCuts_169 : decode cX7_seekCuts 169 = .ok (.imul, 1) := by decide +kernel
theorem dX7_seekCuts_170 : decode cX7_seekCuts 170 = .ok (.iadd, 1) := by decide +kernel
theorem dX7_seekCuts_171 : decode cX7_seekCuts 171 = .ok (.istore 4, 2) := by decide +kernel
theorem dX7_seekCuts_173 : decode cX7_seekCuts 173 = .ok (.aload_n 0, 1) := by decide +kernel
theorem dX7_seekCuts_174 : decode cX7_seekCuts 174 = .ok (.iload_n 1, 1) := by decide +kernel
theorem dX7_seekCuts_175 : decode cX7_seekCuts 175 = .ok (.iload_n 3, 1) := by decide +kernel
theorem dX7_seekCuts_176 : decode cX7_seekCuts 176 = .ok (.iload 6, 2) := by decide +kernel
theorem dX7_seekCuts_178 : decode cX7_seekCuts 178 = .ok (.isub, 1) := by decide +kernel
theorem dX7_seekCuts_179 : decode cX7_seekCuts 179 = .ok (.aload_n 0, 1) := by decide +kernel
theorem dX7_seekCuts_180 : decode cX7_seekCuts 180 = .ok (.getfield 26, 3) := by decide +kernel
theorem dX7_seekCuts_183 : decode cX7_seekCuts 183 = .ok (.bipush 24, 2) := by decide +kernel
theorem dX7_seekCuts_185 : decode cX7_seekCuts 185 = .ok (.iaload, 1) := by decide +kernel
theorem dX7_seekCuts_186 : decode cX7_seekCuts 186 = .ok (.iload 5, 2) := by decide +kernel
theorem dX7_seekCuts_188 : decode cX7_seekCuts 188 = .ok (.iadd, 1) := by decide +kernel
theorem dX7_seekCuts_189 : decode cX7_seekCuts 189 = .ok (.invokevirtual 389, 3) := by decide +kernel
theorem dX7_seekCuts_192 : decode cX7_seekCuts 192 = .ok (.istore_n 3, 1) := by decide +kernel
theorem dX7_seekCuts_193 : decode cX7_seekCuts 193 = .ok (.iinc 5 1, 3) := by decide +kernel
theorem dX7_seekCuts_196 : decode cX7_seekCuts 196 = .ok (.goto (-89), 3) := by decide +kernel
theorem dX7_seekCuts_199 : decode cX7_seekCuts 199 = .ok (.iload 4, 2) := by decide +kernel
theorem dX7_seekCuts_201 : decode cX7_seekCuts 201 = .ok (.ireturn, 1) := by decide +kernel
def f_X7_seekCuts_l2 : am_F := am_th (i_il 3) (am_th (i_ic (31)) (am_br (b_2 (fun x y => decide (y ≤ x))) (am_to 26) (am_th (i_al 0) (am_th (i_gr 7 33) (am_th (i_ic (31)) (am_th (i_il 2) (am_th (i_2 (fun x y => x * y)) (am_th (i_il 3) (am_th (i_2 (fun x y => x + y)) (am_th (i_ic (0)) (am_th (i_iS) (am_th (i_inc 3 (1)) (am_to 2)))))))))))))
def f_X7_seekCuts_l37 : am_F := am_th (i_il 4) (am_th (i_al 0) (am_th (i_gr 7 15) (am_th (i_ic (1)) (am_th (i_ia 0) (am_br (b_2 (fun x y => decide (y ≤ x))) (am_th (i_inc 3 (-1)) (am_to 30)) (am_th (i_al 0) (am_th (i_gr 7 33) (am_th (i_ic (31)) (am_th (i_il 3) (am_th (i_2 (fun x y => x * y)) (am_th (i_il 4) (am_th (i_2 (fun x y => x + y)) (am_th (i_ic (1000000)) (am_th (i_al 0) (am_th (i_il 1) (am_th (i_il 3) (am_th (i_il 4) (am_th (i_al 0) (am_th (i_il 1) (am_th (i_il 3) (am_th (i_il 4) (am_th (i_cv 7 3 d_X7_cutOf) (am_th (i_cv 7 4 d_X7_coinsBy) (am_th (i_cs 2 d_X7_min) (am_th (i_iS) (am_th (i_inc 4 (1)) (am_to 37)))))))))))))))))))))))))))
def f_X7_seekCuts_l30 : am_F := am_th (i_il 3) (am_br (b_1 (fun x => decide (x ≤ 0))) (am_to 94) (am_th (i_ic (0)) (am_th (i_is 4) (am_lp 5000 37 f_X7_seekCuts_l37))))
def f_X7_seekCuts_l107 : am_F := am_th (i_il 5) (am_th (i_il 2) (am_br (b_2 (fun x y => decide (y ≤ x))) (am_to 199) (am_th (i_al 0) (am_th (i_il 1) (am_th (i_il 5) (am_th (i_il 3) (am_th (i_cv 7 3 d_X7_cutOf) (am_th (i_is 6) (am_th (i_al 0) (am_th (i_il 1) (am_th (i_il 5) (am_th (i_il 3) (am_th (i_il 6) (am_th (i_cv 7 4 d_X7_coinsBy) (am_th (i_ic (1000000)) (am_br (b_2 (fun x y => decide (x < y))) (am_th (i_al 0) (am_th (i_gr 7 34) (am_th (i_il 5) (am_th (i_il 6) (am_th (i_iS) (am_th (i_il 4) (am_th (i_il 6) (am_th (i_al 0) (am_th (i_al 0) (am_th (i_gr 7 17) (am_th (i_ic (24)) (am_th (i_ia 0) (am_th (i_il 5) (am_th (i_2 (fun x y => x + y)) (am_th (i_cv 7 1 d_X7_coinOf) (am_th (i_2 (fun x y => x * y)) (am_th (i_2 (fun x y => x + y)) (am_th (i_is 4) (am_th (i_al 0) (am_th (i_il 1) (am_th (i_il 3) (am_th (i_il 6) (am_th (i_2 (fun x y => x - y)) (am_th (i_al 0) (am_th (i_gr 7 17) (am_th (i_ic (24)) (am_th (i_ia 0) (am_th (i_il 5) (am_th (i_2 (fun x y => x + y)) (am_th (i_cv 7 3 d_X7_behind) (am_th (i_is 3) (am_th (i_inc 5 (1)) (am_to 107))))))))))))))))))))))))))))))))) (am_th (i_ic (-2)) (r_i))))))))))))))))))
def f_X7_seekCuts : am_F := am_th (i_ic (0)) (am_th (i_is 3) (am_sq 26 (am_lp 5000 2 f_X7_seekCuts_l2) (am_th (i_il 2) (am_th (i_ic (1)) (am_th (i_2 (fun x y => x - y)) (am_th (i_is 3) (am_sq 94 (am_lp 5000 30 f_X7_seekCuts_l30) (am_th (i_al 0) (am_th (i_gr 7 17) (am_th (i_il 1) (am_th (i_ia 0) (am_th (i_is 3) (am_th (i_ic (0)) (am_th (i_is 4) (am_th (i_ic (0)) (am_th (i_is 5) (am_sq 199 (am_lp 5000 107 f_X7_seekCuts_l107) (am_th (i_il 4) (r_i)))))))))))))))))))
def d_X7_seekCuts : am_D := am_den 7 f_X7_seekCuts
set_option maxHeartbeats 4000000 in
set_option maxRecDepth 100000 in
theorem b_X7_seekCuts : am_Body yX7_seekCuts cX7_seekCuts 7 (some .int) 6 140 f_X7_seekCuts := by
  intro p l e R s m args below meth c g n0 z0 r0 u0 C hr hn
  have C : am_Cx p l e R s m args below meth c g RX7 cX7_seekCuts 7 n0 z0 (am_len u0) (am_wt u0) 6 140 := C
  have l2 : am_Snd (am_GM p l e R s m args below meth c g 7 n0 z0 r0 u0) (am_Rt r0 u0) 2 (f_X7_seekCuts_l2) := by
    unfold f_X7_seekCuts_l2
    exact (so_th (so_iload_n C dX7_seekCuts_2 rfl) (so_th (so_bipush C dX7_seekCuts_3 (by decide)) (so_br (so_icmp_ge C dX7_seekCuts_5 (by decide)) (so_to) (so_th (so_aload_n C dX7_seekCuts_8 rfl) (so_th (so_getr C fl_RX7_59 dX7_seekCuts_9) (so_th (so_bipush C dX7_seekCuts_12 (by decide)) (so_th (so_iload_n C dX7_seekCuts_14 rfl) (so_th (so_imul C dX7_seekCuts_15) (so_th (so_iload_n C dX7_seekCuts_16 rfl) (so_th (so_iadd C dX7_seekCuts_17) (so_th (so_iconst C dX7_seekCuts_18 (by decide)) (so_th (so_iast C dX7_seekCuts_19) (so_th (so_iinc C dX7_seekCuts_20 (by decide) (by decide)) (so_goto C dX7_seekCuts_23 (by decide) (so_to)))))))))))))))
  have l37 : am_Snd (am_GM p l e R s m args below meth c g 7 n0 z0 r0 u0) (am_Rt r0 u0) 37 (f_X7_seekCuts_l37) := by
    unfold f_X7_seekCuts_l37
    exact (so_th (so_iload C dX7_seekCuts_37) (so_th (so_aload_n C dX7_seekCuts_39 rfl) (so_th (so_getr C fl_RX7_20 dX7_seekCuts_40) (so_th (so_iconst C dX7_seekCuts_43 (by decide)) (so_th (so_iald C dX7_seekCuts_44) (so_br (so_icmp_ge C dX7_seekCuts_45 (by decide)) (so_th (so_iinc C dX7_seekCuts_88 (by decide) (by decide)) (so_goto C dX7_seekCuts_91 (by decide) (so_to))) (so_th (so_aload_n C dX7_seekCuts_48 rfl) (so_th (so_getr C fl_RX7_59 dX7_seekCuts_49) (so_th (so_bipush C dX7_seekCuts_52 (by decide)) (so_th (so_iload_n C dX7_seekCuts_54 rfl) (so_th (so_imul C dX7_seekCuts_55) (so_th (so_iload C dX7_seekCuts_56) (so_th (so_iadd C dX7_seekCuts_58) (so_th (so_ldcw C dX7_seekCuts_59 k_731) (so_th (so_aload_n C dX7_seekCuts_62 rfl) (so_th (so_iload_n C dX7_seekCuts_63 rfl) (so_th (so_iload_n C dX7_seekCuts_64 rfl) (so_th (so_iload C dX7_seekCuts_65) (so_th (so_aload_n C dX7_seekCuts_67 rfl) (so_th (so_iload_n C dX7_seekCuts_68 rfl) (so_th (so_iload_n C dX7_seekCuts_69 rfl) (so_th (so_iload C dX7_seekCuts_70) (so_th (so_cv C m_X7_cutOf rfl k_736 k_738 k_737 k_739 k_475 ⟨by decide, by decide, by decide +kernel⟩ (by decide) dX7_seekCuts_72) (so_th (so_cv C m_X7_coinsBy rfl k_732 k_734 k_733 k_735 k_475 ⟨by decide, by decide, by decide +kernel⟩ (by decide) dX7_seekCuts_75) (so_th (so_cs C m_X7_min k_740 k_742 k_741 k_475 ⟨by decide, by decide, by decide +kernel⟩ (by decide) dX7_seekCuts_78) (so_th (so_iast C dX7_seekCuts_81) (so_th (so_iinc C dX7_seekCuts_82 (by decide) (by decide)) (so_goto C dX7_seekCuts_85 (by decide) (so_to)))))))))))))))))))))))))))))
  have l30 : am_Snd (am_GM p l e R s m args below meth c g 7 n0 z0 r0 u0) (am_Rt r0 u0) 30 (f_X7_seekCuts_l30) := by
    unfold f_X7_seekCuts_l30
    exact (so_th (so_iload_n C dX7_seekCuts_30 rfl) (so_br (so_if_le C dX7_seekCuts_31 (by decide)) (so_to) (so_th (so_iconst C dX7_seekCuts_34 (by decide)) (so_th (so_istore C dX7_seekCuts_35 (by decide)) (so_lp l37 5000)))))
  have l107 : am_Snd (am_GM p l e R s m args below meth c g 7 n0 z0 r0 u0) (am_Rt r0 u0) 107 (f_X7_seekCuts_l107) := by
    unfold f_X7_seekCuts_l107
    exact (so_th (so_iload C dX7_seekCuts_107) (so_th (so_iload_n C dX7_seekCuts_109 rfl) (so_br (so_icmp_ge C dX7_seekCuts_110 (by decide)) (so_to) (so_th (so_aload_n C dX7_seekCuts_113 rfl) (so_th (so_iload_n C dX7_seekCuts_114 rfl) (so_th (so_iload C dX7_seekCuts_115) (so_th (so_iload_n C dX7_seekCuts_117 rfl) (so_th (so_cv C m_X7_cutOf rfl k_736 k_738 k_737 k_739 k_475 ⟨by decide, by decide, by decide +kernel⟩ (by decide) dX7_seekCuts_118) (so_th (so_istore C dX7_seekCuts_121 (by decide)) (so_th (so_aload_n C dX7_seekCuts_123 rfl) (so_th (so_iload_n C dX7_seekCuts_124 rfl) (so_th (so_iload C dX7_seekCuts_125) (so_th (so_iload_n C dX7_seekCuts_127 rfl) (so_th (so_iload C dX7_seekCuts_128) (so_th (so_cv C m_X7_coinsBy rfl k_732 k_734 k_733 k_735 k_475 ⟨by decide, by decide, by decide +kernel⟩ (by decide) dX7_seekCuts_130) (so_th (so_ldcw C dX7_seekCuts_133 k_731) (so_br (so_icmp_lt C dX7_seekCuts_136 (by decide)) (so_th (so_aload_n C dX7_seekCuts_142 rfl) (so_th (so_getr C fl_RX7_62 dX7_seekCuts_143) (so_th (so_iload C dX7_seekCuts_146) (so_th (so_iload C dX7_seekCuts_148) (so_th (so_iast C dX7_seekCuts_150) (so_th (so_iload C dX7_seekCuts_151) (so_th (so_iload C dX7_seekCuts_153) (so_th (so_aload_n C dX7_seekCuts_155 rfl) (so_th (so_aload_n C dX7_seekCuts_156 rfl) (so_th (so_getr C fl_RX7_26 dX7_seekCuts_157) (so_th (so_bipush C dX7_seekCuts_160 (by decide)) (so_th (so_iald C dX7_seekCuts_162) (so_th (so_iload C dX7_seekCuts_163) (so_th (so_iadd C dX7_seekCuts_165) (so_th (so_cv C m_X7_coinOf rfl k_727 k_729 k_728 k_730 k_475 ⟨by decide, by decide, by decide +kernel⟩ (by decide) dX7_seekCuts_166) (so_th (so_imul C dX7_seekCuts_169) (so_th (so_iadd C dX7_seekCuts_170) (so_th (so_istore C dX7_seekCuts_171 (by decide)) (so_th (so_aload_n C dX7_seekCuts_173 rfl) (so_th (so_iload_n C dX7_seekCuts_174 rfl) (so_th (so_iload_n C dX7_seekCuts_175 rfl) (so_th (so_iload C dX7_seekCuts_176) (so_th (so_isub C dX7_seekCuts_178) (so_th (so_aload_n C dX7_seekCuts_179 rfl) (so_th (so_getr C fl_RX7_26 dX7_seekCuts_180) (so_th (so_bipush C dX7_seekCuts_183 (by decide)) (so_th (so_iald C dX7_seekCuts_185) (so_th (so_iload C dX7_seekCuts_186) (so_th (so_iadd C dX7_seekCuts_188) (so_th (so_cv C m_X7_behind rfl k_723 k_725 k_724 k_726 k_475 ⟨by decide, by decide, by decide +kernel⟩ (by decide) dX7_seekCuts_189) (so_th (so_istore_n C dX7_seekCuts_192 rfl (by decide)) (so_th (so_iinc C dX7_seekCuts_193 (by decide) (by decide)) (so_goto C dX7_seekCuts_196 (by decide) (so_to)))))))))))))))))))))))))))))))))) (so_th (so_bipush C dX7_seekCuts_139 (by decide)) (so_ri C hr dX7_seekCuts_141)))))))))))))))))))
  unfold f_X7_seekCuts
  exact (so_th (so_iconst C dX7_seekCuts_0 (by decide)) (so_th (so_istore_n C dX7_seekCuts_1 rfl (by decide)) (so_sq (so_lp l2 5000) (so_th (so_iload_n C dX7_seekCuts_26 rfl) (so_th (so_iconst C dX7_seekCuts_27 (by decide)) (so_th (so_isub C dX7_seekCuts_28) (so_th (so_istore_n C dX7_seekCuts_29 rfl (by decide)) (so_sq (so_lp l30 5000) (so_th (so_aload_n C dX7_seekCuts_94 rfl) (so_th (so_getr C fl_RX7_26 dX7_seekCuts_95) (so_th (so_iload_n C dX7_seekCuts_98 rfl) (so_th (so_iald C dX7_seekCuts_99) (so_th (so_istore_n C dX7_seekCuts_100 rfl (by decide)) (so_th (so_iconst C dX7_seekCuts_101 (by decide)) (so_th (so_istore C dX7_seekCuts_102 (by decide)) (so_th (so_iconst C dX7_seekCuts_104 (by decide)) (so_th (so_istore C dX7_seekCuts_105 (by decide)) (so_sq (so_lp l107 5000) (so_th (so_iload C dX7_seekCuts_199) (so_ri C hr dX7_seekCuts_201))))))))))))))))))))
theorem m_X7_seekCuts : am_M yX7_seekCuts cX7_seekCuts 7 (some .int) 6 140 d_X7_seekCuts := am_M_of (by decide +kernel) b_X7_seekCuts
theorem dX7_prune_0 : decode cX7_prune 0 = .ok (.aload_n 0, 1) := by decide +kernel
theorem dX7_prune_1 : decode cX7_prune 1 = .ok (.invokevirtual 189, 3) := by decide +kernel
theorem dX7_prune_4 : decode cX7_prune 4 = .ok (.aload_n 0, 1) := by decide +kernel
theorem dX7_prune_5 : decode cX7_prune 5 = .ok (.iload_n 1, 1) := by decide +kernel
theorem dX7_prune_6 : decode cX7_prune 6 = .ok (.invokevirtual 348, 3) := by decide +kernel
theorem dX7_prune_9 : decode cX7_prune 9 = .ok (.ifCond .ne 9, 3) := by decide +kernel
theorem dX7_prune_12 : decode cX7_prune 12 = .ok (.aload_n 0, 1) := by decide +kernel
theorem dX7_prune_13 : decode cX7_prune 13 = .ok (.iconst 1, 1) := by decide +kernel
theorem dX7_prune_14 : decode cX7_prune 14 = .ok (.invokevirtual 192, 3) := by decide +kernel
theorem dX7_prune_17 : decode cX7_prune 17 = .ok (.ireturn, 1) := by decide +kernel
theorem dX7_prune_18 : decode cX7_prune 18 = .ok (.iload_n 2, 1) := by decide +kernel
theorem dX7_prune_19 : decode cX7_prune 19 = .ok (.iconst 0, 1) := by decide +kernel
theorem dX7_prune_20 : decode cX7_prune 20 = .ok (.bipush 12, 2) := by decide +kernel
theorem dX7_prune_22 : decode cX7_prune 22 = .ok (.invokestatic 157, 3) := by decide +kernel
theorem dX7_prune_25 : decode cX7_prune 25 = .ok (.ifCond .eq 12, 3) := by decide +kernel
theorem dX7_prune_28 : decode cX7_prune 28 = .ok (.aload_n 0, 1) := by decide +kernel
theorem dX7_prune_29 : decode cX7_prune 29 = .ok (.iload_n 1, 1) := by decide +kernel
theorem dX7_prune_30 : decode cX7_prune 30 = .ok (.iload_n 2, 1) := by decide +kernel
theorem dX7_prune_31 : decode cX7_prune 31 = .ok (.invokevirtual 406, 3) := by decide +kernel
theorem dX7_prune_34 : decode cX7_prune 34 = .ok (.goto 8, 3) := by decide +kernel
theorem dX7_prune_37 : decode cX7_prune 37 = .ok (.aload_n 0, 1) := by decide +kernel
theorem dX7_prune_38 : decode cX7_prune 38 = .ok (.iconst 2, 1) := by decide +kernel
theorem dX7_prune_39 : decode cX7_prune 39 = .ok (.invokevirtual 192, 3) := by decide +kernel
theorem dX7_prune_42 : decode cX7_prune 42 = .ok (.ireturn, 1) := by decide +kernel
def f_X7_prune : am_F := am_th (i_al 0) (am_th (i_cv 7 0 d_X7_good) (am_th (i_al 0) (am_th (i_il 1) (am_th (i_cv 7 1 d_X7_isStanding) (am_br (b_1 (fun x => decide (¬ x = 0))) (am_th (i_il 2) (am_th (i_ic (0)) (am_th (i_ic (12)) (am_th (i_cs 3 d_X7_in) (am_br (b_1 (fun x => decide (x = 0))) (am_th (i_al 0) (am_th (i_ic (2)) (am_th (i_cv 7 1 d_X7_no) (r_i)))) (am_th (i_al 0) (am_th (i_il 1) (am_th (i_il 2) (am_th (i_cv 7 2 d_X7_seekCuts) (r_i)))))))))) (am_th (i_al 0) (am_th (i_ic (1)) (am_th (i_cv 7 1 d_X7_no) (r_i)))))))))
def d_X7_prune : am_D := am_den 3 f_X7_prune
set_option maxHeartbeats 4000000 in
set_option maxRecDepth 100000 in
theorem b_X7_prune : am_Body yX7_prune cX7_prune 3 (some .int) 7 166 f_X7_prune := by
  intro p l e R s m args below meth c g n0 z0 r0 u0 C hr hn
  have C : am_Cx p l e R s m args below meth c g RX7 cX7_prune 3 n0 z0 (am_len u0) (am_wt u0) 7 166 := C
  unfold f_X7_prune
  exact (so_th (so_aload_n C dX7_prune_0 rfl) (so_th (so_cv C m_X7_good rfl k_594 k_596 k_595 k_597 k_475 ⟨by decide, by decide, by decide +kernel⟩ (by decide) dX7_prune_1) (so_th (so_aload_n C dX7_prune_4 rfl) (so_th (so_iload_n C dX7_prune_5 rfl) (so_th (so_cv C m_X7_isStanding rfl k_690 k_692 k_691 k_693 k_475 ⟨by decide, by decide, by decide +kernel⟩ (by decide) dX7_prune_6) (so_br (so_if_ne C dX7_prune_9 (by decide)) (so_th (so_iload_n C dX7_prune_18 rfl) (so_th (so_iconst C dX7_prune_19 (by decide)) (so_th (so_bipush C dX7_prune_20 (by decide)) (so_th (so_cs C m_X7_in k_511 k_513 k_512 k_475 ⟨by decide, by decide, by decide +kernel⟩ (by decide) dX7_prune_22) (so_br (so_if_eq C dX7_prune_25 (by decide)) (so_th (so_aload_n C dX7_prune_37 rfl) (so_th (so_iconst C dX7_prune_38 (by decide)) (so_th (so_cv C m_X7_no rfl k_609 k_611 k_610 k_612 k_475 ⟨by decide, by decide, by decide +kernel⟩ (by decide) dX7_prune_39) (so_ri C hr dX7_prune_42)))) (so_th (so_aload_n C dX7_prune_28 rfl) (so_th (so_iload_n C dX7_prune_29 rfl) (so_th (so_iload_n C dX7_prune_30 rfl) (so_th (so_cv C m_X7_seekCuts rfl k_743 k_745 k_744 k_746 k_475 ⟨by decide, by decide, by decide +kernel⟩ (by decide) dX7_prune_31) (so_goto C dX7_prune_34 (by decide) (so_ri C hr dX7_prune_42))))))))))) (so_th (so_aload_n C dX7_prune_12 rfl) (so_th (so_iconst C dX7_prune_13 (by decide)) (so_th (so_cv C m_X7_no rfl k_609 k_611 k_610 k_612 k_475 ⟨by decide, by decide, by decide +kernel⟩ (by decide) dX7_prune_14) (so_ri C hr dX7_prune_17))))))))))
theorem m_X7_prune : am_M yX7_prune cX7_prune 3 (some .int) 7 166 d_X7_prune := am_M_of (by decide +kernel) b_X7_prune
theorem dX7_pruneAt_0 : decode cX7_pruneAt 0 = .ok (.aload_n 0, 1) := by decide +kernel
theorem dX7_pruneAt_1 : decode cX7_pruneAt 1 = .ok (.invokevirtual 189, 3) := by decide +kernel
theorem dX7_pruneAt_4 : decode cX7_pruneAt 4 = .ok (.aload_n 0, 1) := by decide +kernel
theorem dX7_pruneAt_5 : decode cX7_pruneAt 5 = .ok (.iload_n 1, 1) := by decide +kernel
theorem dX7_pruneAt_6 : decode cX7_pruneAt 6 = .ok (.invokevirtual 348, 3) := by decide +kernel
theorem dX7_pruneAt_9 : decode cX7_pruneAt 9 = .ok (.ifCond .ne 9, 3) := by decide +kernel
theorem dX7_pruneAt_12 : decode cX7_pruneAt 12 = .ok (.aload_n 0, 1) := by decide +kernel
theorem dX7_pruneAt_13 : decode cX7_pruneAt 13 = .ok (.iconst 1, 1) := by decide +kernel
theorem dX7_pruneAt_14 : decode cX7_pruneAt 14 = .ok (.invokevirtual 192, 3) := by decide +kernel
theorem dX7_pruneAt_17 : decode cX7_pruneAt 17 = .ok (.ireturn, 1) := by decide +kernel
theorem dX7_pruneAt_18 : decode cX7_pruneAt 18 = .ok (.iload_n 2, 1) := by decide +kernel
theorem dX7_pruneAt_19 : decode cX7_pruneAt 19 = .ok (.iconst 0, 1) := by decide +kernel
theorem dX7_pruneAt_20 : decode cX7_pruneAt 20 = .ok (.bipush 12, 2) := by decide +kernel
theorem dX7_pruneAt_22 : decode cX7_pruneAt 22 = .ok (.invokestatic 157, 3) := by decide +kernel
theorem dX7_pruneAt_25 : decode cX7_pruneAt 25 = .ok (.ifCond .ne 9, 3) := by decide +kernel
theorem dX7_pruneAt_28 : decode cX7_pruneAt 28 = .ok (.aload_n 0, 1) := by decide +kernel
theorem dX7_pruneAt_29 : decode cX7_pruneAt 29 = .ok (.iconst 2, 1) := by decide +kernel
theorem dX7_pruneAt_30 : decode cX7_pruneAt 30 = .ok (.invokevirtual 192, 3) := by decide +kernel
theorem dX7_pruneAt_33 : decode cX7_pruneAt 33 = .ok (.ireturn, 1) := by decide +kernel
theorem dX7_pruneAt_34 : decode cX7_pruneAt 34 = .ok (.iload_n 3, 1) := by decide +kernel
theorem dX7_pruneAt_35 : decode cX7_pruneAt 35 = .ok (.iconst 0, 1) := by decide +kernel
theorem dX7_pruneAt_36 : decode cX7_pruneAt 36 = .ok (.iload_n 2, 1) := by decide +kernel
theorem dX7_pruneAt_37 : decode cX7_pruneAt 37 = .ok (.iconst 1, 1) := by decide +kernel
theorem dX7_pruneAt_38 : decode cX7_pruneAt 38 = .ok (.isub, 1) := by decide +kernel
theorem dX7_pruneAt_39 : decode cX7_pruneAt 39 = .ok (.invokestatic 157, 3) := by decide +kernel
theorem dX7_pruneAt_42 : decode cX7_pruneAt 42 = .ok (.ifCond .ne 9, 3) := by decide +kernel
theorem dX7_pruneAt_45 : decode cX7_pruneAt 45 = .ok (.aload_n 0, 1) := by decide +kernel
theorem dX7_pruneAt_46 : decode cX7_pruneAt 46 = .ok (.iconst 1, 1) := by decide +kernel
theorem dX7_pruneAt_47 : decode cX7_pruneAt 47 = .ok (.invokevirtual 192, 3) := by decide +kernel
theorem dX7_pruneAt_50 : decode cX7_pruneAt 50 = .ok (.ireturn, 1) := by decide +kernel
theorem dX7_pruneAt_51 : decode cX7_pruneAt 51 = .ok (.aload_n 0, 1) := by decide +kernel
theorem dX7_pruneAt_52 : decode cX7_pruneAt 52 = .ok (.iload_n 1, 1) := by decide +kernel
theorem dX7_pruneAt_53 : decode cX7_pruneAt 53 = .ok (.iload_n 2, 1) := by decide +kernel
theorem dX7_pruneAt_54 : decode cX7_pruneAt 54 = .ok (.invokevirtual 406, 3) := by decide +kernel
theorem dX7_pruneAt_57 : decode cX7_pruneAt 57 = .ok (.ifCond .ge 12, 3) := by decide +kernel
theorem dX7_pruneAt_60 : decode cX7_pruneAt 60 = .ok (.aload_n 0, 1) := by decide +kernel
theorem dX7_pruneAt_61 : decode cX7_pruneAt 61 = .ok (.bipush 6, 2) := by decide +kernel
theorem dX7_pruneAt_63 : decode cX7_pruneAt 63 = .ok (.invokevirtual 192, 3) := by decide +kernel
theorem dX7_pruneAt_66 : decode cX7_pruneAt 66 = .ok (.goto 9, 3) := by decide +kernel
theorem dX7_pruneAt_69 : decode cX7_pruneAt 69 = .ok (.aload_n 0, 1) := by decide +kernel
theorem dX7_pruneAt_70 : decode cX7_pruneAt 70 = .ok (.getfield 62, 3) := by decide +kernel
theorem dX7_pruneAt_73 : decode cX7_pruneAt 73 = .ok (.iload_n 3, 1) := by decide +kernel
theorem dX7_pruneAt_74 : decode cX7_pruneAt 74 = .ok (.iaload, 1) := by decide +kernel
theorem dX7_pruneAt_75 : decode cX7_pruneAt 75 = .ok (.ireturn, 1) := by decide +kernel
def f_X7_pruneAt : am_F := am_th (i_al 0) (am_th (i_cv 7 0 d_X7_good) (am_th (i_al 0) (am_th (i_il 1) (am_th (i_cv 7 1 d_X7_isStanding) (am_br (b_1 (fun x => decide (¬ x = 0))) (am_th (i_il 2) (am_th (i_ic (0)) (am_th (i_ic (12)) (am_th (i_cs 3 d_X7_in) (am_br (b_1 (fun x => decide (¬ x = 0))) (am_th (i_il 3) (am_th (i_ic (0)) (am_th (i_il 2) (am_th (i_ic (1)) (am_th (i_2 (fun x y => x - y)) (am_th (i_cs 3 d_X7_in) (am_br (b_1 (fun x => decide (¬ x = 0))) (am_th (i_al 0) (am_th (i_il 1) (am_th (i_il 2) (am_th (i_cv 7 2 d_X7_seekCuts) (am_br (b_1 (fun x => decide (0 ≤ x))) (am_th (i_al 0) (am_th (i_gr 7 34) (am_th (i_il 3) (am_th (i_ia 0) (r_i))))) (am_th (i_al 0) (am_th (i_ic (6)) (am_th (i_cv 7 1 d_X7_no) (r_i))))))))) (am_th (i_al 0) (am_th (i_ic (1)) (am_th (i_cv 7 1 d_X7_no) (r_i))))))))))) (am_th (i_al 0) (am_th (i_ic (2)) (am_th (i_cv 7 1 d_X7_no) (r_i))))))))) (am_th (i_al 0) (am_th (i_ic (1)) (am_th (i_cv 7 1 d_X7_no) (r_i)))))))))
def d_X7_pruneAt : am_D := am_den 4 f_X7_pruneAt
set_option maxHeartbeats 4000000 in
set_option maxRecDepth 100000 in
theorem b_X7_pruneAt : am_Body yX7_pruneAt cX7_pruneAt 4 (some .int) 7 166 f_X7_pruneAt := by
  intro p l e R s m args below meth c g n0 z0 r0 u0 C hr hn
  have C : am_Cx p l e R s m args below meth c g RX7 cX7_pruneAt 4 n0 z0 (am_len u0) (am_wt u0) 7 166 := C
  unfold f_X7_pruneAt
  exact (so_th (so_aload_n C dX7_pruneAt_0 rfl) (so_th (so_cv C m_X7_good rfl k_594 k_596 k_595 k_597 k_475 ⟨by decide, by decide, by decide +kernel⟩ (by decide) dX7_pruneAt_1) (so_th (so_aload_n C dX7_pruneAt_4 rfl) (so_th (so_iload_n C dX7_pruneAt_5 rfl) (so_th (so_cv C m_X7_isStanding rfl k_690 k_692 k_691 k_693 k_475 ⟨by decide, by decide, by decide +kernel⟩ (by decide) dX7_pruneAt_6) (so_br (so_if_ne C dX7_pruneAt_9 (by decide)) (so_th (so_iload_n C dX7_pruneAt_18 rfl) (so_th (so_iconst C dX7_pruneAt_19 (by decide)) (so_th (so_bipush C dX7_pruneAt_20 (by decide)) (so_th (so_cs C m_X7_in k_511 k_513 k_512 k_475 ⟨by decide, by decide, by decide +kernel⟩ (by decide) dX7_pruneAt_22) (so_br (so_if_ne C dX7_pruneAt_25 (by decide)) (so_th (so_iload_n C dX7_pruneAt_34 rfl) (so_th (so_iconst C dX7_pruneAt_35 (by decide)) (so_th (so_iload_n C dX7_pruneAt_36 rfl) (so_th (so_iconst C dX7_pruneAt_37 (by decide)) (so_th (so_isub C dX7_pruneAt_38) (so_th (so_cs C m_X7_in k_511 k_513 k_512 k_475 ⟨by decide, by decide, by decide +kernel⟩ (by decide) dX7_pruneAt_39) (so_br (so_if_ne C dX7_pruneAt_42 (by decide)) (so_th (so_aload_n C dX7_pruneAt_51 rfl) (so_th (so_iload_n C dX7_pruneAt_52 rfl) (so_th (so_iload_n C dX7_pruneAt_53 rfl) (so_th (so_cv C m_X7_seekCuts rfl k_743 k_745 k_744 k_746 k_475 ⟨by decide, by decide, by decide +kernel⟩ (by decide) dX7_pruneAt_54) (so_br (so_if_ge C dX7_pruneAt_57 (by decide)) (so_th (so_aload_n C dX7_pruneAt_69 rfl) (so_th (so_getr C fl_RX7_62 dX7_pruneAt_70) (so_th (so_iload_n C dX7_pruneAt_73 rfl) (so_th (so_iald C dX7_pruneAt_74) (so_ri C hr dX7_pruneAt_75))))) (so_th (so_aload_n C dX7_pruneAt_60 rfl) (so_th (so_bipush C dX7_pruneAt_61 (by decide)) (so_th (so_cv C m_X7_no rfl k_609 k_611 k_610 k_612 k_475 ⟨by decide, by decide, by decide +kernel⟩ (by decide) dX7_pruneAt_63) (so_goto C dX7_pruneAt_66 (by decide) (so_ri C hr dX7_pruneAt_75)))))))))) (so_th (so_aload_n C dX7_pruneAt_45 rfl) (so_th (so_iconst C dX7_pruneAt_46 (by decide)) (so_th (so_cv C m_X7_no rfl k_609 k_611 k_610 k_612 k_475 ⟨by decide, by decide, by decide +kernel⟩ (by decide) dX7_pruneAt_47) (so_ri C hr dX7_pruneAt_50))))))))))) (so_th (so_aload_n C dX7_pruneAt_28 rfl) (so_th (so_iconst C dX7_pruneAt_29 (by decide)) (so_th (so_cv C m_X7_no rfl k_609 k_611 k_610 k_612 k_475 ⟨by decide, by decide, by decide +kernel⟩ (by decide) dX7_pruneAt_30) (so_ri C hr dX7_pruneAt_33))))))))) (so_th (so_aload_n C dX7_pruneAt_12 rfl) (so_th (so_iconst C dX7_pruneAt_13 (by decide)) (so_th (so_cv C m_X7_no rfl k_609 k_611 k_610 k_612 k_475 ⟨by decide, by decide, by decide +kernel⟩ (by decide) dX7_pruneAt_14) (so_ri C hr dX7_pruneAt_17))))))))))
theorem m_X7_pruneAt : am_M yX7_pruneAt cX7_pruneAt 4 (some .int) 7 166 d_X7_pruneAt := am_M_of (by decide +kernel) b_X7_pruneAt
theorem dX7_doesFall_0 : decode cX7_doesFall 0 = .ok (.aload_n 0, 1) := by decide +kernel
theorem dX7_doesFall_1 : decode cX7_doesFall 1 = .ok (.getfield 26, 3) := by decide +kernel
theorem dX7_doesFall_4 : decode cX7_doesFall 4 = .ok (.iload_n 1, 1) := by decide +kernel
theorem dX7_doesFall_5 : decode cX7_doesFall 5 = .ok (.iaload, 1) := by decide +kernel
theorem dX7_doesFall_6 : decode cX7_doesFall 6 = .ok (.istore 6, 2) := by decide +kernel
theorem dX7_doesFall_8 : decode cX7_doesFall 8 = .ok (.iconst 0, 1) := by decide +kernel
theorem dX7_doesFall_9 : decode cX7_doesFall 9 = .ok (.istore 7, 2) := by decide +kernel
theorem dX7_doesFall_11 : decode cX7_doesFall 11 = .ok (.iconst 0, 1) := by decide +kernel
theorem dX7_doesFall_12 : decode cX7_doesFall 12 = .ok (.istore 8, 2) := by decide +kernel
theorem dX7_doesFall_14 : decode cX7_doesFall 14 = .ok (.iload 8, 2) := by decide +kernel
theorem dX7_doesFall_16 : decode cX7_doesFall 16 = .ok (.iload_n 2, 1) := by decide +kernel
theorem dX7_doesFall_17 : decode cX7_doesFall 17 = .ok (.if_icmp .gt 116, 3) := by decide +kernel
theorem dX7_doesFall_20 : decode cX7_doesFall 20 = .ok (.aload_n 0, 1) := by decide +kernel
theorem dX7_doesFall_21 : decode cX7_doesFall 21 = .ok (.getfield 26, 3) := by decide +kernel
theorem dX7_doesFall_24 : decode cX7_doesFall 24 = .ok (.bipush 24, 2) := by decide +kernel
theorem dX7_doesFall_26 : decode cX7_doesFall 26 = .ok (.iaload, 1) := by decide +kernel
theorem dX7_doesFall_27 : decode cX7_doesFall 27 = .ok (.iload 8, 2) := by decide +kernel
theorem dX7_doesFall_29 : decode cX7_doesFall 29 = .ok (.iadd, 1) := by decide +kernel
theorem dX7_doesFall_30 : decode cX7_doesFall 30 = .ok (.istore 9, 2) := by decide +kernel
theorem dX7_doesFall_32 : decode cX7_doesFall 32 = .ok (.iload 6, 2) := by decide +kernel
theorem dX7_doesFall_34 : decode cX7_doesFall 34 = .ok (.iload 5, 2) := by decide +kernel
theorem dX7_doesFall_36 : decode cX7_doesFall 36 = .ok (.if_icmp .le 11, 3) := by decide +kernel
theorem dX7_doesFall_39 : decode cX7_doesFall 39 = .ok (.iload 6, 2) := by decide +kernel
theorem dX7_doesFall_41 : decode cX7_doesFall 41 = .ok (.iload 5, 2) := by decide +kernel
theorem dX7_doesFall_43 : decode cX7_doesFall 43 = .ok (.isub, 1) := by decide +kernel
theorem dX7_doesFall_44 : decode cX7_doesFall 44 = .ok (.goto 4, 3) := by decide +kernel
theorem dX7_doesFall_47 : decode cX7_doesFall 47 = .ok (.iconst 0, 1) := by decide +kernel
theorem dX7_doesFall_48 : decode cX7_doesFall 48 = .ok (.istore 6, 2) := by decide +kernel
theorem dX7_doesFall_50 : decode cX7_doesFall 50 = .ok (.aload_n 0, 1) := by decide +kernel
theorem dX7_doesFall_51 : decode cX7_doesFall 51 = .ok (.iload_n 1, 1) := by decide +kernel
theorem dX7_doesFall_52 : decode cX7_doesFall 52 = .ok (.iload 6, 2) := by decide +kernel
theorem dX7_doesFall_54 : decode cX7_doesFall 54 = .ok (.aload_n 0, 1) := by decide +kernel
theorem dX7_doesFall_55 : decode cX7_doesFall 55 = .ok (.aload_n 0, 1) := by decide +kernel
theorem dX7_doesFall_56 : decode cX7_doesFall 56 = .ok (.getfield 26, 3) := by decide +kernel
theorem dX7_doesFall_59 : decode cX7_doesFall 59 = .ok (.iload_n 1, 1) := by decide +kernel
theorem dX7_doesFall_60 : decode cX7_doesFall 60 = .ok (.iload 9, 2) := by decide +kernel
theorem dX7_doesFall_62 : decode cX7_doesFall 62 = .ok (.invokevirtual 303, 3) := by decide +kernel
theorem dX7_doesFall_65 : decode cX7_doesFall 65 = .ok (.iadd, 1) := by decide +kernel
theorem dX7_doesFall_66 : decode cX7_doesFall 66 = .ok (.iload 4, 2) := by decide +kernel
theorem dX7_doesFall_68 : decode cX7_doesFall 68 = .ok (.ifCond .ne 8, 3) := by decide +kernel
theorem dX7_doesFall_71 : decode cX7_doesFall 71 = .ok (.iload 8, 2) := by decide +kernel
theorem dX7_doesFall_73 : decode cX7_doesFall 73 = .ok (.ifCond .ne 7, 3) := by decide +kernel
theorem dX7_doesFall_76 : decode cX7_doesFall 76 = .ok (.iload_n 3, 1) := by decide +kernel
theorem dX7_doesFall_77 : decode cX7_doesFall 77 = .ok (.goto 4, 3) := by decide +kernel
theorem dX7_doesFall_80 : decode cX7_doesFall 80 = .ok (.iconst 0, 1) := by decide +kernel
theorem dX7_doesFall_81 : decode cX7_doesFall 81 = .ok (.iadd, 1) := by decide +kernel
theorem dX7_doesFall_82 : decode cX7_doesFall 82 = .ok (.iload 9, 2) := by decide +kernel
theorem dX7_doesFall_84 : decode cX7_doesFall 84 = .ok (.invokevirtual 299, 3) := by decide +kernel
theorem dX7_doesFall_87 : decode cX7_doesFall 87 = .ok (.istore 6, 2) := by decide +kernel
theorem dX7_doesFall_89 : decode cX7_doesFall 89 = .ok (.iload 6, 2) := by decide +kernel
theorem dX7_doesFall_91 : decode cX7_doesFall 91 = .ok (.aload_n 0, 1) := by decide +kernel
theorem dX7_doesFall_92 : decode cX7_doesFall 92 = .ok (.getfield 20, 3) := by decide +kernel
theorem dX7_doesFall_95 : decode cX7_doesFall 95 = .ok (.iconst 1, 1) := by decide +kernel
theorem dX7_doesFall_96 : decode cX7_doesFall 96 = .ok (.iaload, 1) := by decide +kernel
theorem dX7_doesFall_97 : decode cX7_doesFall 97 = .ok (.if_icmp .lt 7, 3) := by decide +kernel
theorem dX7_doesFall_100 : decode cX7_doesFall 100 = .ok (.iconst 1, 1) := by decide +kernel
theorem dX7_doesFall_101 : decode cX7_doesFall 101 = .ok (.goto 4, 3) := by decide +kernel
theorem dX7_doesFall_104 : decode cX7_doesFall 104 = .ok (.iconst 0, 1) := by decide +kernel
theorem dX7_doesFall_105 : decode cX7_doesFall 105 = .ok (.istore 7, 2) := by decide +kernel
theorem dX7_doesFall_107 : decode cX7_doesFall 107 = .ok (.iload 6, 2) := by decide +kernel
theorem dX7_doesFall_109 : decode cX7_doesFall 109 = .ok (.iload 7, 2) := by decide +kernel
theorem dX7_doesFall_111 : decode cX7_doesFall 111 = .ok (.ifCond .eq 12, 3) := by decide +kernel
theorem dX7_doesFall_114 : decode cX7_doesFall 114 = .ok (.aload_n 0, 1) := by decide +kernel
theorem dX7_doesFall_115 : decode cX7_doesFall 115 = .ok (.getfield 20, 3) := by decide +kernel
theorem dX7_doesFall_118 : decode cX7_doesFall 118 = .ok (.iconst 1, 1) := by decide +kernel
theorem dX7_doesFall_119 : decode cX7_doesFall 119 = .ok (.iaload, 1) := by decide +kernel
theorem dX7_doesFall_120 : decode cX7_doesFall 120 = .ok (.goto 4, 3) := by decide +kernel
theorem dX7_doesFall_123 : decode cX7_doesFall 123 = .ok (.iconst 0, 1) := by decide +kernel
theorem dX7_doesFall_124 : decode cX7_doesFall 124 = .ok (.isub, 1) := by decide +kernel
theorem dX7_doesFall_125 : decode cX7_doesFall 125 = .ok (.istore 6, 2) := by decide +kernel
theorem dX7_doesFall_127 : decode cX7_doesFall 127 = .ok (.iinc 8 1, 3) := by decide +kernel
theorem dX7_doesFall_130 : decode cX7_doesFall 130 = .ok (.goto (-116), 3) := by decide +kernel
theorem dX7_doesFall_133 : decode cX7_doesFall 133 = .ok (.iload 7, 2) := by decide +kernel
theorem dX7_doesFall_135 : decode cX7_doesFall 135 = .ok (.ireturn, 1) := by decide +kernel
def f_X7_doesFall_l14 : am_F := am_th (i_il 8) (am_th (i_il 2) (am_br (b_2 (fun x y => decide (y < x))) (am_to 133) (am_th (i_al 0) (am_th (i_gr 7 17) (am_th (i_ic (24)) (am_th (i_ia 0) (am_th (i_il 8) (am_th (i_2 (fun x y => x + y)) (am_th (i_is 9) (am_th (i_il 6) (am_th (i_il 5) (am_sq 48 (am_br (b_2 (fun x y => decide (x ≤ y))) (am_th (i_ic (0)) (am_to 48)) (am_th (i_il 6) (am_th (i_il 5) (am_th (i_2 (fun x y => x - y)) (am_to 48))))) (am_th (i_is 6) (am_th (i_al 0) (am_th (i_il 1) (am_th (i_il 6) (am_th (i_al 0) (am_th (i_al 0) (am_th (i_gr 7 17) (am_th (i_il 1) (am_th (i_il 9) (am_th (i_cv 7 3 d_X7_deedsFor) (am_th (i_2 (fun x y => x + y)) (am_th (i_il 4) (am_sq 81 (am_br (b_1 (fun x => decide (¬ x = 0))) (am_th (i_il 3) (am_to 81)) (am_th (i_il 8) (am_br (b_1 (fun x => decide (¬ x = 0))) (am_th (i_ic (0)) (am_to 81)) (am_th (i_il 3) (am_to 81))))) (am_th (i_2 (fun x y => x + y)) (am_th (i_il 9) (am_th (i_cv 7 3 d_X7_wintered) (am_th (i_is 6) (am_th (i_il 6) (am_th (i_al 0) (am_th (i_gr 7 15) (am_th (i_ic (1)) (am_th (i_ia 0) (am_sq 105 (am_br (b_2 (fun x y => decide (x < y))) (am_th (i_ic (0)) (am_to 105)) (am_th (i_ic (1)) (am_to 105))) (am_th (i_is 7) (am_th (i_il 6) (am_th (i_il 7) (am_sq 124 (am_br (b_1 (fun x => decide (x = 0))) (am_th (i_ic (0)) (am_to 124)) (am_th (i_al 0) (am_th (i_gr 7 15) (am_th (i_ic (1)) (am_th (i_ia 0) (am_to 124)))))) (am_th (i_2 (fun x y => x - y)) (am_th (i_is 6) (am_th (i_inc 8 (1)) (am_to 14)))))))))))))))))))))))))))))))))))))))))))
def f_X7_doesFall : am_F := am_th (i_al 0) (am_th (i_gr 7 17) (am_th (i_il 1) (am_th (i_ia 0) (am_th (i_is 6) (am_th (i_ic (0)) (am_th (i_is 7) (am_th (i_ic (0)) (am_th (i_is 8) (am_sq 133 (am_lp 5000 14 f_X7_doesFall_l14) (am_th (i_il 7) (r_z)))))))))))
def d_X7_doesFall : am_D := am_den 10 f_X7_doesFall
set_option maxHeartbeats 4000000 in
set_option maxRecDepth 100000 in
theorem b_X7_doesFall : am_Body yX7_doesFall cX7_doesFall 10 (some .boolean) 3 67 f_X7_doesFall := by
  intro p l e R s m args below meth c g n0 z0 r0 u0 C hr hn
  have C : am_Cx p l e R s m args below meth c g RX7 cX7_doesFall 10 n0 z0 (am_len u0) (am_wt u0) 3 67 := C
  have l14 : am_Snd (am_GM p l e R s m args below meth c g 10 n0 z0 r0 u0) (am_Rt r0 u0) 14 (f_X7_doesFall_l14) := by
    unfold f_X7_doesFall_l14
    exact (so_th (so_iload C dX7_doesFall_14) (so_th (so_iload_n C dX7_doesFall_16 rfl) (so_br (so_icmp_gt C dX7_doesFall_17 (by decide)) (so_to) (so_th (so_aload_n C dX7_doesFall_20 rfl) (so_th (so_getr C fl_RX7_26 dX7_doesFall_21) (so_th (so_bipush C dX7_doesFall_24 (by decide)) (so_th (so_iald C dX7_doesFall_26) (so_th (so_iload C dX7_doesFall_27) (so_th (so_iadd C dX7_doesFall_29) (so_th (so_istore C dX7_doesFall_30 (by decide)) (so_th (so_iload C dX7_doesFall_32) (so_th (so_iload C dX7_doesFall_34) (so_sq (so_br (so_icmp_le C dX7_doesFall_36 (by decide)) (so_th (so_iconst C dX7_doesFall_47 (by decide)) (so_to)) (so_th (so_iload C dX7_doesFall_39) (so_th (so_iload C dX7_doesFall_41) (so_th (so_isub C dX7_doesFall_43) (so_goto C dX7_doesFall_44 (by decide) (so_to)))))) (so_th (so_istore C dX7_doesFall_48 (by decide)) (so_th (so_aload_n C dX7_doesFall_50 rfl) (so_th (so_iload_n C dX7_doesFall_51 rfl) (so_th (so_iload C dX7_doesFall_52) (so_th (so_aload_n C dX7_doesFall_54 rfl) (so_th (so_aload_n C dX7_doesFall_55 rfl) (so_th (so_getr C fl_RX7_26 dX7_doesFall_56) (so_th (so_iload_n C dX7_doesFall_59 rfl) (so_th (so_iload C dX7_doesFall_60) (so_th (so_cv C m_X7_deedsFor rfl k_638 k_640 k_639 k_641 k_475 ⟨by decide, by decide, by decide +kernel⟩ (by decide) dX7_doesFall_62) (so_th (so_iadd C dX7_doesFall_65) (so_th (so_iload C dX7_doesFall_66) (so_sq (so_br (so_if_ne C dX7_doesFall_68 (by decide)) (so_th (so_iload_n C dX7_doesFall_76 rfl) (so_goto C dX7_doesFall_77 (by decide) (so_to))) (so_th (so_iload C dX7_doesFall_71) (so_br (so_if_ne C dX7_doesFall_73 (by decide)) (so_th (so_iconst C dX7_doesFall_80 (by decide)) (so_to)) (so_th (so_iload_n C dX7_doesFall_76 rfl) (so_goto C dX7_doesFall_77 (by decide) (so_to)))))) (so_th (so_iadd C dX7_doesFall_81) (so_th (so_iload C dX7_doesFall_82) (so_th (so_cv C m_X7_wintered rfl k_634 k_636 k_635 k_637 k_475 ⟨by decide, by decide, by decide +kernel⟩ (by decide) dX7_doesFall_84) (so_th (so_istore C dX7_doesFall_87 (by decide)) (so_th (so_iload C dX7_doesFall_89) (so_th (so_aload_n C dX7_doesFall_91 rfl) (so_th (so_getr C fl_RX7_20 dX7_doesFall_92) (so_th (so_iconst C dX7_doesFall_95 (by decide)) (so_th (so_iald C dX7_doesFall_96) (so_sq (so_br (so_icmp_lt C dX7_doesFall_97 (by decide)) (so_th (so_iconst C dX7_doesFall_104 (by decide)) (so_to)) (so_th (so_iconst C dX7_doesFall_100 (by decide)) (so_goto C dX7_doesFall_101 (by decide) (so_to)))) (so_th (so_istore C dX7_doesFall_105 (by decide)) (so_th (so_iload C dX7_doesFall_107) (so_th (so_iload C dX7_doesFall_109) (so_sq (so_br (so_if_eq C dX7_doesFall_111 (by decide)) (so_th (so_iconst C dX7_doesFall_123 (by decide)) (so_to)) (so_th (so_aload_n C dX7_doesFall_114 rfl) (so_th (so_getr C fl_RX7_20 dX7_doesFall_115) (so_th (so_iconst C dX7_doesFall_118 (by decide)) (so_th (so_iald C dX7_doesFall_119) (so_goto C dX7_doesFall_120 (by decide) (so_to))))))) (so_th (so_isub C dX7_doesFall_124) (so_th (so_istore C dX7_doesFall_125 (by decide)) (so_th (so_iinc C dX7_doesFall_127 (by decide) (by decide)) (so_goto C dX7_doesFall_130 (by decide) (so_to)))))))))))))))))))))))))))))))))))))))))))))
  unfold f_X7_doesFall
  exact (so_th (so_aload_n C dX7_doesFall_0 rfl) (so_th (so_getr C fl_RX7_26 dX7_doesFall_1) (so_th (so_iload_n C dX7_doesFall_4 rfl) (so_th (so_iald C dX7_doesFall_5) (so_th (so_istore C dX7_doesFall_6 (by decide)) (so_th (so_iconst C dX7_doesFall_8 (by decide)) (so_th (so_istore C dX7_doesFall_9 (by decide)) (so_th (so_iconst C dX7_doesFall_11 (by decide)) (so_th (so_istore C dX7_doesFall_12 (by decide)) (so_sq (so_lp l14 5000) (so_th (so_iload C dX7_doesFall_133) (so_rz C hr dX7_doesFall_135))))))))))))
theorem m_X7_doesFall : am_M yX7_doesFall cX7_doesFall 10 (some .boolean) 3 67 d_X7_doesFall := am_M_of (by decide +kernel) b_X7_doesFall
theorem dX7_feedFor_0 : decode cX7_feedFor 0 = .ok (.aload_n 0, 1) := by decide +kernel
theorem dX7_feedFor_1 : decode cX7_feedFor 1 = .ok (.invokevirtual 189, 3) := by decide +kernel
theorem dX7_feedFor_4 : decode cX7_feedFor 4 = .ok (.aload_n 0, 1) := by decide +kernel
theorem dX7_feedFor_5 : decode cX7_feedFor 5 = .ok (.iload_n 1, 1) := by decide +kernel
theorem dX7_feedFor_6 : decode cX7_feedFor 6 = .ok (.invokevirtual 348, 3) := by decide +kernel
theorem dX7_feedFor_9 : decode cX7_feedFor 9 = .ok (.ifCond .ne 9, 3) := by decide +kernel
theorem dX7_feedFor_12 : decode cX7_feedFor 12 = .ok (.aload_n 0, 1) := by decide +kernel
theorem dX7_feedFor_13 : decode cX7_feedFor 13 = .ok (.iconst 1, 1) := by decide +kernel
theorem dX7_feedFor_14 : decode cX7_feedFor 14 = .ok (.invokevirtual 192, 3) := by decide +kernel
theorem dX7_feedFor_17 : decode cX7_feedFor 17 = .ok (.ireturn, 1) := by decide +kernel
theorem dX7_feedFor_18 : decode cX7_feedFor 18 = .ok (.iload_n 2, 1) := by decide +kernel
theorem dX7_feedFor_19 : decode cX7_feedFor 19 = .ok (.iconst 0, 1) := by decide +kernel
theorem dX7_feedFor_20 : decode cX7_feedFor 20 = .ok (.bipush 23, 2) := by decide +kernel
theorem dX7_feedFor_22 : decode cX7_feedFor 22 = .ok (.invokestatic 157, 3) := by decide +kernel
theorem dX7_feedFor_25 : decode cX7_feedFor 25 = .ok (.ifCond .ne 9, 3) := by decide +kernel
theorem dX7_feedFor_28 : decode cX7_feedFor 28 = .ok (.aload_n 0, 1) := by decide +kernel
theorem dX7_feedFor_29 : decode cX7_feedFor 29 = .ok (.iconst 2, 1) := by decide +kernel
theorem dX7_feedFor_30 : decode cX7_feedFor 30 = .ok (.invokevirtual 192, 3) := by decide +kernel
theorem dX7_feedFor_33 : decode cX7_feedFor 33 = .ok (.ireturn, 1) := by decide +kernel
theorem dX7_feedFor_34 : decode cX7_feedFor 34 = .ok (.iconst 0, 1) := by decide +kernel
theorem dX7_feedFor_35 : decode cX7_feedFor 35 = .ok (.istore_n 3, 1) := by decide +kernel
theorem dX7_feedFor_36 : decode cX7_feedFor 36 = .ok (.iload_n 3, 1) := by decide +kernel
theorem dX7_feedFor_37 : decode cX7_feedFor 37 = .ok (.bipush 60, 2) := by decide +kernel
theorem dX7_feedFor_39 : decode cX7_feedFor 39 = .ok (.if_icmp .gt 23, 3) := by decide +kernel
theorem dX7_feedFor_42 : decode cX7_feedFor 42 = .ok (.aload_n 0, 1) := by decide +kernel
theorem dX7_feedFor_43 : decode cX7_feedFor 43 = .ok (.iload_n 1, 1) := by decide +kernel
theorem dX7_feedFor_44 : decode cX7_feedFor 44 = .ok (.iload_n 2, 1) := by decide +kernel
theorem dX7_feedFor_45 : decode cX7_feedFor 45 = .ok (.iload_n 3, 1) := by decide +kernel
theorem dX7_feedFor_46 : decode cX7_feedFor 46 = .ok (.iconst 0, 1) := by decide +kernel
theorem dX7_feedFor_47 : decode cX7_feedFor 47 = .ok (.iconst 0, 1) := by decide +kernel
theorem dX7_feedFor_48 : decode cX7_feedFor 48 = .ok (.invokevirtual 409, 3) := by decide +kernel
theorem dX7_feedFor_51 : decode cX7_feedFor 51 = .ok (.ifCond .eq 5, 3) := by decide +kernel
theorem dX7_feedFor_54 : decode cX7_feedFor 54 = .ok (.iload_n 3, 1) := by decide +kernel
theorem dX7_feedFor_55 : decode cX7_feedFor 55 = .ok (.ireturn, 1) := by decide +kernel
theorem dX7_feedFor_56 : decode cX7_feedFor 56 = .ok (.iinc 3 1, 3) := by decide +kernel
theorem dX7_feedFor_59 : decode cX7_feedFor 59 = .ok (.goto (-23), 3) := by decide +kernel
theorem dX7_feedFor_62 : decode cX7_feedFor 62 = .ok (.bipush (-2), 2) := by decide +kernel
theorem dX7_feedFor_64 : decode cX7_feedFor 64 = .ok (.ireturn, 1) := by decide +kernel
def f_X7_feedFor_l36 : am_F := am_th (i_il 3) (am_th (i_ic (60)) (am_br (b_2 (fun x y => decide (y < x))) (am_to 62) (am_th (i_al 0) (am_th (i_il 1) (am_th (i_il 2) (am_th (i_il 3) (am_th (i_ic (0)) (am_th (i_ic (0)) (am_th (i_cv 7 5 d_X7_doesFall) (am_br (b_1 (fun x => decide (x = 0))) (am_th (i_inc 3 (1)) (am_to 36)) (am_th (i_il 3) (r_i))))))))))))
def f_X7_feedFor : am_F := am_th (i_al 0) (am_th (i_cv 7 0 d_X7_good) (am_th (i_al 0) (am_th (i_il 1) (am_th (i_cv 7 1 d_X7_isStanding) (am_br (b_1 (fun x => decide (¬ x = 0))) (am_th (i_il 2) (am_th (i_ic (0)) (am_th (i_ic (23)) (am_th (i_cs 3 d_X7_in) (am_br (b_1 (fun x => decide (¬ x = 0))) (am_th (i_ic (0)) (am_th (i_is 3) (am_sq 62 (am_lp 5000 36 f_X7_feedFor_l36) (am_th (i_ic (-2)) (r_i))))) (am_th (i_al 0) (am_th (i_ic (2)) (am_th (i_cv 7 1 d_X7_no) (r_i))))))))) (am_th (i_al 0) (am_th (i_ic (1)) (am_th (i_cv 7 1 d_X7_no) (r_i)))))))))
def d_X7_feedFor : am_D := am_den 4 f_X7_feedFor
set_option maxHeartbeats 4000000 in
set_option maxRecDepth 100000 in
theorem b_X7_feedFor : am_Body yX7_feedFor cX7_feedFor 4 (some .int) 4 96 f_X7_feedFor := by
  intro p l e R s m args below meth c g n0 z0 r0 u0 C hr hn
  have C : am_Cx p l e R s m args below meth c g RX7 cX7_feedFor 4 n0 z0 (am_len u0) (am_wt u0) 4 96 := C
  have l36 : am_Snd (am_GM p l e R s m args below meth c g 4 n0 z0 r0 u0) (am_Rt r0 u0) 36 (f_X7_feedFor_l36) := by
    unfold f_X7_feedFor_l36
    exact (so_th (so_iload_n C dX7_feedFor_36 rfl) (so_th (so_bipush C dX7_feedFor_37 (by decide)) (so_br (so_icmp_gt C dX7_feedFor_39 (by decide)) (so_to) (so_th (so_aload_n C dX7_feedFor_42 rfl) (so_th (so_iload_n C dX7_feedFor_43 rfl) (so_th (so_iload_n C dX7_feedFor_44 rfl) (so_th (so_iload_n C dX7_feedFor_45 rfl) (so_th (so_iconst C dX7_feedFor_46 (by decide)) (so_th (so_iconst C dX7_feedFor_47 (by decide)) (so_th (so_cv C m_X7_doesFall rfl k_747 k_749 k_748 k_750 k_475 ⟨by decide, by decide, by decide +kernel⟩ (by decide) dX7_feedFor_48) (so_br (so_if_eq C dX7_feedFor_51 (by decide)) (so_th (so_iinc C dX7_feedFor_56 (by decide) (by decide)) (so_goto C dX7_feedFor_59 (by decide) (so_to))) (so_th (so_iload_n C dX7_feedFor_54 rfl) (so_ri C hr dX7_feedFor_55)))))))))))))
  unfold f_X7_feedFor
  exact (so_th (so_aload_n C dX7_feedFor_0 rfl) (so_th (so_cv C m_X7_good rfl k_594 k_596 k_595 k_597 k_475 ⟨by decide, by decide, by decide +kernel⟩ (by decide) dX7_feedFor_1) (so_th (so_aload_n C dX7_feedFor_4 rfl) (so_th (so_iload_n C dX7_feedFor_5 rfl) (so_th (so_cv C m_X7_isStanding rfl k_690 k_692 k_691 k_693 k_475 ⟨by decide, by decide, by decide +kernel⟩ (by decide) dX7_feedFor_6) (so_br (so_if_ne C dX7_feedFor_9 (by decide)) (so_th (so_iload_n C dX7_feedFor_18 rfl) (so_th (so_iconst C dX7_feedFor_19 (by decide)) (so_th (so_bipush C dX7_feedFor_20 (by decide)) (so_th (so_cs C m_X7_in k_511 k_513 k_512 k_475 ⟨by decide, by decide, by decide +kernel⟩ (by decide) dX7_feedFor_22) (so_br (so_if_ne C dX7_feedFor_25 (by decide)) (so_th (so_iconst C dX7_feedFor_34 (by decide)) (so_th (so_istore_n C dX7_feedFor_35 rfl (by decide)) (so_sq (so_lp l36 5000) (so_th (so_bipush C dX7_feedFor_62 (by decide)) (so_ri C hr dX7_feedFor_64))))) (so_th (so_aload_n C dX7_feedFor_28 rfl) (so_th (so_iconst C dX7_feedFor_29 (by decide)) (so_th (so_cv C m_X7_no rfl k_609 k_611 k_610 k_612 k_475 ⟨by decide, by decide, by decide +kernel⟩ (by decide) dX7_feedFor_30) (so_ri C hr dX7_feedFor_33))))))))) (so_th (so_aload_n C dX7_feedFor_12 rfl) (so_th (so_iconst C dX7_feedFor_13 (by decide)) (so_th (so_cv C m_X7_no rfl k_609 k_611 k_610 k_612 k_475 ⟨by decide, by decide, by decide +kernel⟩ (by decide) dX7_feedFor_14) (so_ri C hr dX7_feedFor_17))))))))))
theorem m_X7_feedFor : am_M yX7_feedFor cX7_feedFor 4 (some .int) 4 96 d_X7_feedFor := am_M_of (by decide +kernel) b_X7_feedFor
theorem dX7_feedAgainst_0 : decode cX7_feedAgainst 0 = .ok (.aload_n 0, 1) := by decide +kernel
theorem dX7_feedAgainst_1 : decode cX7_feedAgainst 1 = .ok (.invokevirtual 189, 3) := by decide +kernel
theorem dX7_feedAgainst_4 : decode cX7_feedAgainst 4 = .ok (.aload_n 0, 1) := by decide +kernel
theorem dX7_feedAgainst_5 : decode cX7_feedAgainst 5 = .ok (.iload_n 1, 1) := by decide +kernel
theorem dX7_feedAgainst_6 : decode cX7_feedAgainst 6 = .ok (.invokevirtual 348, 3) := by decide +kernel
theorem dX7_feedAgainst_9 : decode cX7_feedAgainst 9 = .ok (.ifCond .ne 9, 3) := by decide +kernel
theorem dX7_feedAgainst_12 : decode cX7_feedAgainst 12 = .ok (.aload_n 0, 1) := by decide +kernel
theorem dX7_feedAgainst_13 : decode cX7_feedAgainst 13 = .ok (.iconst 1, 1) := by decide +kernel
theorem dX7_feedAgainst_14 : decode cX7_feedAgainst 14 = .ok (.invokevirtual 192, 3) := by decide +kernel
theorem dX7_feedAgainst_17 : decode cX7_feedAgainst 17 = .ok (.ireturn, 1) := by decide +kernel
theorem dX7_feedAgainst_18 : decode cX7_feedAgainst 18 = .ok (.iload_n 2, 1) := by decide +kernel
theorem dX7_feedAgainst_19 : decode cX7_feedAgainst 19 = .ok (.iconst 0, 1) := by decide +kernel
theorem dX7_feedAgainst_20 : decode cX7_feedAgainst 20 = .ok (.bipush 23, 2) := by decide +kernel
theorem dX7_feedAgainst_22 : decode cX7_feedAgainst 22 = .ok (.invokestatic 157, 3) := by decide +kernel
theorem dX7_feedAgainst_25 : decode cX7_feedAgainst 25 = .ok (.ifCond .eq 13, 3) := by decide +kernel
theorem dX7_feedAgainst_28 : decode cX7_feedAgainst 28 = .ok (.iload_n 3, 1) := by decide +kernel
theorem dX7_feedAgainst_29 : decode cX7_feedAgainst 29 = .ok (.iconst 0, 1) := by decide +kernel
theorem dX7_feedAgainst_30 : decode cX7_feedAgainst 30 = .ok (.bipush 9, 2) := by decide +kernel
theorem dX7_feedAgainst_32 : decode cX7_feedAgainst 32 = .ok (.invokestatic 157, 3) := by decide +kernel
theorem dX7_feedAgainst_35 : decode cX7_feedAgainst 35 = .ok (.ifCond .ne 9, 3) := by decide +kernel
theorem dX7_feedAgainst_38 : decode cX7_feedAgainst 38 = .ok (.aload_n 0, 1) := by decide +kernel
theorem dX7_feedAgainst_39 : decode cX7_feedAgainst 39 = .ok (.iconst 2, 1) := by decide +kernel
theorem dX7_feedAgainst_40 : decode cX7_feedAgainst 40 = .ok (.invokevirtual 192, 3) := by decide +kernel
theorem dX7_feedAgainst_43 : decode cX7_feedAgainst 43 = .ok (.ireturn, 1) := by decide +kernel
theorem dX7_feedAgainst_44 : decode cX7_feedAgainst 44 = .ok (.iconst 0, 1) := by decide +kernel
theorem dX7_feedAgainst_45 : decode cX7_feedAgainst 45 = .ok (.istore 4, 2) := by decide +kernel
theorem dX7_feedAgainst_47 : decode cX7_feedAgainst 47 = .ok (.iload 4, 2) := by decide +kernel
theorem dX7_feedAgainst_49 : decode cX7_feedAgainst 49 = .ok (.bipush 60, 2) := by decide +kernel
theorem dX7_feedAgainst_51 : decode cX7_feedAgainst 51 = .ok (.if_icmp .gt 25, 3) := by decide +kernel
theorem dX7_feedAgainst_54 : decode cX7_feedAgainst 54 = .ok (.aload_n 0, 1) := by decide +kernel
theorem dX7_feedAgainst_55 : decode cX7_feedAgainst 55 = .ok (.iload_n 1, 1) := by decide +kernel
theorem dX7_feedAgainst_56 : decode cX7_feedAgainst 56 = .ok (.iload_n 2, 1) := by decide +kernel
theorem dX7_feedAgainst_57 : decode cX7_feedAgainst 57 = .ok (.iload 4, 2) := by decide +kernel
theorem dX7_feedAgainst_59 : decode cX7_feedAgainst 59 = .ok (.iconst 1, 1) := by decide +kernel
theorem dX7_feedAgainst_60 : decode cX7_feedAgainst 60 = .ok (.iload_n 3, 1) := by decide +kernel
theorem dX7_feedAgainst_61 : decode cX7_feedAgainst 61 = .ok (.invokevirtual 409, 3) := by decide +kernel
theorem dX7_feedAgainst_64 : decode cX7_feedAgainst 64 = .ok (.ifCond .eq 6, 3) := by decide +kernel
theorem dX7_feedAgainst_67 : decode cX7_feedAgainst 67 = .ok (.iload 4, 2) := by decide +kernel
theorem dX7_feedAgainst_69 : decode cX7_feedAgainst 69 = .ok (.ireturn, 1) := by decide +kernel
theorem dX7_feedAgainst_70 : decode cX7_feedAgainst 70 = .ok (.iinc 4 1, 3) := by decide +kernel
theorem dX7_feedAgainst_73 : decode cX7_feedAgainst 73 = .ok (.goto (-26), 3) := by decide +kernel
theorem dX7_feedAgainst_76 : decode cX7_feedAgainst 76 = .ok (.bipush (-2), 2) := by decide +kernel
theorem dX7_feedAgainst_78 : decode cX7_feedAgainst 78 = .ok (.ireturn, 1) := by decide +kernel
def f_X7_feedAgainst_l47 : am_F := am_th (i_il 4) (am_th (i_ic (60)) (am_br (b_2 (fun x y => decide (y < x))) (am_to 76) (am_th (i_al 0) (am_th (i_il 1) (am_th (i_il 2) (am_th (i_il 4) (am_th (i_ic (1)) (am_th (i_il 3) (am_th (i_cv 7 5 d_X7_doesFall) (am_br (b_1 (fun x => decide (x = 0))) (am_th (i_inc 4 (1)) (am_to 47)) (am_th (i_il 4) (r_i))))))))))))
def f_X7_feedAgainst : am_F := am_th (i_al 0) (am_th (i_cv 7 0 d_X7_good) (am_th (i_al 0) (am_th (i_il 1) (am_th (i_cv 7 1 d_X7_isStanding) (am_br (b_1 (fun x => decide (¬ x = 0))) (am_th (i_il 2) (am_th (i_ic (0)) (am_th (i_ic (23)) (am_th (i_cs 3 d_X7_in) (am_br (b_1 (fun x => decide (x = 0))) (am_th (i_al 0) (am_th (i_ic (2)) (am_th (i_cv 7 1 d_X7_no) (r_i)))) (am_th (i_il 3) (am_th (i_ic (0)) (am_th (i_ic (9)) (am_th (i_cs 3 d_X7_in) (am_br (b_1 (fun x => decide (¬ x = 0))) (am_th (i_ic (0)) (am_th (i_is 4) (am_sq 76 (am_lp 5000 47 f_X7_feedAgainst_l47) (am_th (i_ic (-2)) (r_i))))) (am_th (i_al 0) (am_th (i_ic (2)) (am_th (i_cv 7 1 d_X7_no) (r_i)))))))))))))) (am_th (i_al 0) (am_th (i_ic (1)) (am_th (i_cv 7 1 d_X7_no) (r_i)))))))))
def d_X7_feedAgainst : am_D := am_den 5 f_X7_feedAgainst
set_option maxHeartbeats 4000000 in
set_option maxRecDepth 100000 in
theorem b_X7_feedAgainst : am_Body yX7_feedAgainst cX7_feedAgainst 5 (some .int) 4 96 f_X7_feedAgainst := by
  intro p l e R s m args below meth c g n0 z0 r0 u0 C hr hn
  have C : am_Cx p l e R s m args below meth c g RX7 cX7_feedAgainst 5 n0 z0 (am_len u0) (am_wt u0) 4 96 := C
  have l47 : am_Snd (am_GM p l e R s m args below meth c g 5 n0 z0 r0 u0) (am_Rt r0 u0) 47 (f_X7_feedAgainst_l47) := by
    unfold f_X7_feedAgainst_l47
    exact (so_th (so_iload C dX7_feedAgainst_47) (so_th (so_bipush C dX7_feedAgainst_49 (by decide)) (so_br (so_icmp_gt C dX7_feedAgainst_51 (by decide)) (so_to) (so_th (so_aload_n C dX7_feedAgainst_54 rfl) (so_th (so_iload_n C dX7_feedAgainst_55 rfl) (so_th (so_iload_n C dX7_feedAgainst_56 rfl) (so_th (so_iload C dX7_feedAgainst_57) (so_th (so_iconst C dX7_feedAgainst_59 (by decide)) (so_th (so_iload_n C dX7_feedAgainst_60 rfl) (so_th (so_cv C m_X7_doesFall rfl k_747 k_749 k_748 k_750 k_475 ⟨by decide, by decide, by decide +kernel⟩ (by decide) dX7_feedAgainst_61) (so_br (so_if_eq C dX7_feedAgainst_64 (by decide)) (so_th (so_iinc C dX7_feedAgainst_70 (by decide) (by decide)) (so_goto C dX7_feedAgainst_73 (by decide) (so_to))) (so_th (so_iload C dX7_feedAgainst_67) (so_ri C hr dX7_feedAgainst_69)))))))))))))
  unfold f_X7_feedAgainst
  exact (so_th (so_aload_n C dX7_feedAgainst_0 rfl) (so_th (so_cv C m_X7_good rfl k_594 k_596 k_595 k_597 k_475 ⟨by decide, by decide, by decide +kernel⟩ (by decide) dX7_feedAgainst_1) (so_th (so_aload_n C dX7_feedAgainst_4 rfl) (so_th (so_iload_n C dX7_feedAgainst_5 rfl) (so_th (so_cv C m_X7_isStanding rfl k_690 k_692 k_691 k_693 k_475 ⟨by decide, by decide, by decide +kernel⟩ (by decide) dX7_feedAgainst_6) (so_br (so_if_ne C dX7_feedAgainst_9 (by decide)) (so_th (so_iload_n C dX7_feedAgainst_18 rfl) (so_th (so_iconst C dX7_feedAgainst_19 (by decide)) (so_th (so_bipush C dX7_feedAgainst_20 (by decide)) (so_th (so_cs C m_X7_in k_511 k_513 k_512 k_475 ⟨by decide, by decide, by decide +kernel⟩ (by decide) dX7_feedAgainst_22) (so_br (so_if_eq C dX7_feedAgainst_25 (by decide)) (so_th (so_aload_n C dX7_feedAgainst_38 rfl) (so_th (so_iconst C dX7_feedAgainst_39 (by decide)) (so_th (so_cv C m_X7_no rfl k_609 k_611 k_610 k_612 k_475 ⟨by decide, by decide, by decide +kernel⟩ (by decide) dX7_feedAgainst_40) (so_ri C hr dX7_feedAgainst_43)))) (so_th (so_iload_n C dX7_feedAgainst_28 rfl) (so_th (so_iconst C dX7_feedAgainst_29 (by decide)) (so_th (so_bipush C dX7_feedAgainst_30 (by decide)) (so_th (so_cs C m_X7_in k_511 k_513 k_512 k_475 ⟨by decide, by decide, by decide +kernel⟩ (by decide) dX7_feedAgainst_32) (so_br (so_if_ne C dX7_feedAgainst_35 (by decide)) (so_th (so_iconst C dX7_feedAgainst_44 (by decide)) (so_th (so_istore C dX7_feedAgainst_45 (by decide)) (so_sq (so_lp l47 5000) (so_th (so_bipush C dX7_feedAgainst_76 (by decide)) (so_ri C hr dX7_feedAgainst_78))))) (so_th (so_aload_n C dX7_feedAgainst_38 rfl) (so_th (so_iconst C dX7_feedAgainst_39 (by decide)) (so_th (so_cv C m_X7_no rfl k_609 k_611 k_610 k_612 k_475 ⟨by decide, by decide, by decide +kernel⟩ (by decide) dX7_feedAgainst_40) (so_ri C hr dX7_feedAgainst_43)))))))))))))) (so_th (so_aload_n C dX7_feedAgainst_12 rfl) (so_th (so_iconst C dX7_feedAgainst_13 (by decide)) (so_th (so_cv C m_X7_no rfl k_609 k_611 k_610 k_612 k_475 ⟨by decide, by decide, by decide +kernel⟩ (by decide) dX7_feedAgainst_14) (so_ri C hr dX7_feedAgainst_17))))))))))
theorem m_X7_feedAgainst : am_M yX7_feedAgainst cX7_feedAgainst 5 (some .int) 4 96 d_X7_feedAgainst := am_M_of (by decide +kernel) b_X7_feedAgainst
theorem dX7_peopleOf_0 : decode cX7_peopleOf 0 = .ok (.iload_n 1, 1) := by decide +kernel
theorem dX7_peopleOf_1 : decode cX7_peopleOf 1 = .ok (.iload_n 2, 1) := by decide +kernel
theorem dX7_peopleOf_2 : decode cX7_peopleOf 2 = .ok (.invokestatic 295, 3) := by decide +kernel
theorem dX7_peopleOf_5 : decode cX7_peopleOf 5 = .ok (.ifCond .eq 15, 3) := by decide +kernel
theorem dX7_peopleOf_8 : decode cX7_peopleOf 8 = .ok (.aload_n 0, 1) := by decide +kernel
theorem dX7_peopleOf_9 : decode cX7_peopleOf 9 = .ok (.getfield 20, 3) := by decide +kernel
theorem dX7_peopleOf_12 : decode cX7_peopleOf 12 = .ok (.bipush 12, 2) := by decide +kernel
theorem dX7_peopleOf_14 : decode cX7_peopleOf 14 = .ok (.iload_n 2, 1) := by decide +kernel
theorem dX7_peopleOf_15 : decode cX7_peopleOf 15 = .ok (.iadd, 1) := by decide +kernel
theorem dX7_peopleOf_16 : decode cX7_peopleOf 16 = .ok (.iaload, 1) := by decide +kernel
theorem dX7_peopleOf_17 : decode cX7_peopleOf 17 = .ok (.goto 4, 3) := by decide +kernel
theorem dX7_peopleOf_20 : decode cX7_peopleOf 20 = .ok (.iconst 0, 1) := by decide +kernel
theorem dX7_peopleOf_21 : decode cX7_peopleOf 21 = .ok (.ireturn, 1) := by decide +kernel
def f_X7_peopleOf : am_F := am_th (i_il 1) (am_th (i_il 2) (am_th (i_cs 2 d_X7_hasBit) (am_br (b_1 (fun x => decide (x = 0))) (am_th (i_ic (0)) (r_i)) (am_th (i_al 0) (am_th (i_gr 7 15) (am_th (i_ic (12)) (am_th (i_il 2) (am_th (i_2 (fun x y => x + y)) (am_th (i_ia 0) (r_i))))))))))
def d_X7_peopleOf : am_D := am_den 3 f_X7_peopleOf
set_option maxHeartbeats 4000000 in
set_option maxRecDepth 100000 in
theorem b_X7_peopleOf : am_Body yX7_peopleOf cX7_peopleOf 3 (some .int) 1 21 f_X7_peopleOf := by
  intro p l e R s m args below meth c g n0 z0 r0 u0 C hr hn
  have C : am_Cx p l e R s m args below meth c g RX7 cX7_peopleOf 3 n0 z0 (am_len u0) (am_wt u0) 1 21 := C
  unfold f_X7_peopleOf
  exact (so_th (so_iload_n C dX7_peopleOf_0 rfl) (so_th (so_iload_n C dX7_peopleOf_1 rfl) (so_th (so_cs C m_X7_hasBit k_631 k_633 k_632 k_475 ⟨by decide, by decide, by decide +kernel⟩ (by decide) dX7_peopleOf_2) (so_br (so_if_eq C dX7_peopleOf_5 (by decide)) (so_th (so_iconst C dX7_peopleOf_20 (by decide)) (so_ri C hr dX7_peopleOf_21)) (so_th (so_aload_n C dX7_peopleOf_8 rfl) (so_th (so_getr C fl_RX7_20 dX7_peopleOf_9) (so_th (so_bipush C dX7_peopleOf_12 (by decide)) (so_th (so_iload_n C dX7_peopleOf_14 rfl) (so_th (so_iadd C dX7_peopleOf_15) (so_th (so_iald C dX7_peopleOf_16) (so_goto C dX7_peopleOf_17 (by decide) (so_ri C hr dX7_peopleOf_21))))))))))))
theorem m_X7_peopleOf : am_M yX7_peopleOf cX7_peopleOf 3 (some .int) 1 21 d_X7_peopleOf := am_M_of (by decide +kernel) b_X7_peopleOf
