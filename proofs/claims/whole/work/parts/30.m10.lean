theorem dX7_share_0 : decode cX7_share 0 = .ok (.aload_n 0, 1) := by decide +kernel
theorem dX7_share_1 : decode cX7_share 1 = .ok (.invokevirtual 189, 3) := by decide +kernel
theorem dX7_share_4 : decode cX7_share 4 = .ok (.aload_n 0, 1) := by decide +kernel
theorem dX7_share_5 : decode cX7_share 5 = .ok (.iload_n 1, 1) := by decide +kernel
theorem dX7_share_6 : decode cX7_share 6 = .ok (.invokevirtual 348, 3) := by decide +kernel
theorem dX7_share_9 : decode cX7_share 9 = .ok (.ifCond .eq 11, 3) := by decide +kernel
theorem dX7_share_12 : decode cX7_share 12 = .ok (.aload_n 0, 1) := by decide +kernel
theorem dX7_share_13 : decode cX7_share 13 = .ok (.iload_n 2, 1) := by decide +kernel
theorem dX7_share_14 : decode cX7_share 14 = .ok (.invokevirtual 325, 3) := by decide +kernel
theorem dX7_share_17 : decode cX7_share 17 = .ok (.ifCond .ne 9, 3) := by decide +kernel
theorem dX7_share_20 : decode cX7_share 20 = .ok (.aload_n 0, 1) := by decide +kernel
theorem dX7_share_21 : decode cX7_share 21 = .ok (.iconst 1, 1) := by decide +kernel
theorem dX7_share_22 : decode cX7_share 22 = .ok (.invokevirtual 192, 3) := by decide +kernel
theorem dX7_share_25 : decode cX7_share 25 = .ok (.ireturn, 1) := by decide +kernel
theorem dX7_share_26 : decode cX7_share 26 = .ok (.iload_n 3, 1) := by decide +kernel
theorem dX7_share_27 : decode cX7_share 27 = .ok (.iconst 0, 1) := by decide +kernel
theorem dX7_share_28 : decode cX7_share 28 = .ok (.sipush 999, 3) := by decide +kernel
theorem dX7_share_31 : decode cX7_share 31 = .ok (.invokestatic 157, 3) := by decide +kernel
theorem dX7_share_34 : decode cX7_share 34 = .ok (.ifCond .ne 9, 3) := by decide +kernel
theorem dX7_share_37 : decode cX7_share 37 = .ok (.aload_n 0, 1) := by decide +kernel
theorem dX7_share_38 : decode cX7_share 38 = .ok (.iconst 2, 1) := by decide +kernel
theorem dX7_share_39 : decode cX7_share 39 = .ok (.invokevirtual 192, 3) := by decide +kernel
theorem dX7_share_42 : decode cX7_share 42 = .ok (.ireturn, 1) := by decide +kernel
theorem dX7_share_43 : decode cX7_share 43 = .ok (.aload_n 0, 1) := by decide +kernel
theorem dX7_share_44 : decode cX7_share 44 = .ok (.aload_n 0, 1) := by decide +kernel
theorem dX7_share_45 : decode cX7_share 45 = .ok (.getfield 26, 3) := by decide +kernel
theorem dX7_share_48 : decode cX7_share 48 = .ok (.iload_n 1, 1) := by decide +kernel
theorem dX7_share_49 : decode cX7_share 49 = .ok (.invokevirtual 289, 3) := by decide +kernel
theorem dX7_share_52 : decode cX7_share 52 = .ok (.istore 4, 2) := by decide +kernel
theorem dX7_share_54 : decode cX7_share 54 = .ok (.iload 4, 2) := by decide +kernel
theorem dX7_share_56 : decode cX7_share 56 = .ok (.iload_n 2, 1) := by decide +kernel
theorem dX7_share_57 : decode cX7_share 57 = .ok (.invokestatic 295, 3) := by decide +kernel
theorem dX7_share_60 : decode cX7_share 60 = .ok (.ifCond .ne 5, 3) := by decide +kernel
theorem dX7_share_63 : decode cX7_share 63 = .ok (.iconst 0, 1) := by decide +kernel
theorem dX7_share_64 : decode cX7_share 64 = .ok (.ireturn, 1) := by decide +kernel
theorem dX7_share_65 : decode cX7_share 65 = .ok (.iconst 0, 1) := by decide +kernel
theorem dX7_share_66 : decode cX7_share 66 = .ok (.istore 5, 2) := by decide +kernel
theorem dX7_share_68 : decode cX7_share 68 = .ok (.iconst 0, 1) := by decide +kernel
theorem dX7_share_69 : decode cX7_share 69 = .ok (.istore 6, 2) := by decide +kernel
theorem dX7_share_71 : decode cX7_share 71 = .ok (.iload 6, 2) := by decide +kernel
theorem dX7_share_73 : decode cX7_share 73 = .ok (.aload_n 0, 1) := by decide +kernel
theorem dX7_share_74 : decode cX7_share 74 = .ok (.getfield 20, 3) := by decide +kernel
theorem dX7_share_77 : decode cX7_share 77 = .ok (.bipush 6, 2) := by decide +kernel
theorem dX7_share_79 : decode cX7_share 79 = .ok (.iaload, 1) := by decide +kernel
theorem dX7_share_80 : decode cX7_share 80 = .ok (.if_icmp .ge 22, 3) := by decide +kernel
theorem dX7_share_83 : decode cX7_share 83 = .ok (.iload 5, 2) := by decide +kernel
theorem dX7_share_85 : decode cX7_share 85 = .ok (.aload_n 0, 1) := by decide +kernel
theorem dX7_share_86 : decode cX7_share 86 = .ok (.iload 4, 2) := by decide +kernel
theorem dX7_share_88 : decode cX7_share 88 = .ok (.iload 6, 2) := by decide +kernel
theorem dX7_share_90 : decode cX7_share 90 = .ok (.invokevirtual 413, 3) := by decide +kernel
theorem dX7_share_93 : decode cX7_share 93 = .ok (.iadd, 1) := by decide +kernel
theorem dX7_share_94 : decode cX7_share 94 = .ok (.istore 5, 2) := by decide +kernel
theorem dX7_share_96 : decode cX7_share 96 = .ok (.iinc 6 1, 3) := by decide +kernel
theorem dX7_share_99 : decode cX7_share 99 = .ok (.goto (-28), 3) := by decide +kernel
theorem dX7_share_102 : decode cX7_share 102 = .ok (.iload_n 3, 1) := by decide +kernel
theorem dX7_share_103 : decode cX7_share 103 = .ok (.istore 6, 2) := by decide +kernel
theorem dX7_share_105 : decode cX7_share 105 = .ok (.iconst 0, 1) := by decide +kernel
theorem dX7_share_106 : decode cX7_share 106 = .ok (.istore 7, 2) := by decide +kernel
theorem dX7_share_108 : decode cX7_share 108 = .ok (.iload_n 3, 1) := by decide +kernel
theorem dX7_share_109 : decode cX7_share 109 = .ok (.aload_n 0, 1) := by decide +kernel
theorem dX7_share_110 : decode cX7_share 110 = .ok (.getfield 20, 3) := by decide +kernel
theorem dX7_share_113 : decode cX7_share 113 = .ok (.bipush 12, 2) := by decide +kernel
theorem dX7_share_115 : decode cX7_share 115 = .ok (.iload_n 2, 1) := by decide +kernel
theorem dX7_share_116 : decode cX7_share 116 = .ok (.iadd, 1) := by decide +kernel
theorem dX7_share_117 : decode cX7_share 117 = .ok (.iaload, 1) := by decide +kernel
theorem dX7_share_118 : decode cX7_share 118 = .ok (.imul, 1) := by decide +kernel
theorem dX7_share_119 : decode cX7_share 119 = .ok (.iload 5, 2) := by decide +kernel
theorem dX7_share_121 : decode cX7_share 121 = .ok (.irem, 1) := by decide +kernel
theorem dX7_share_122 : decode cX7_share 122 = .ok (.istore 8, 2) := by decide +kernel
theorem dX7_share_124 : decode cX7_share 124 = .ok (.iconst 0, 1) := by decide +kernel
theorem dX7_share_125 : decode cX7_share 125 = .ok (.istore 9, 2) := by decide +kernel
theorem dX7_share_127 : decode cX7_share 127 = .ok (.iload 9, 2) := by decide +kernel
theorem dX7_share_129 : decode cX7_share 129 = .ok (.aload_n 0, 1) := by decide +kernel
theorem dX7_share_130 : decode cX7_share 130 = .ok (.getfield 20, 3) := by decide +kernel
theorem dX7_share_133 : decode cX7_share 133 = .ok (.bipush 6, 2) := by decide +kernel
theorem dX7_share_135 : decode cX7_share 135 = .ok (.iaload, 1) := by decide +kernel
theorem dX7_share_136 : decode cX7_share 136 = .ok (.if_icmp .ge 82, 3) := by decide +kernel
theorem dX7_share_139 : decode cX7_share 139 = .ok (.iload 6, 2) := by decide +kernel
theorem dX7_share_141 : decode cX7_share 141 = .ok (.iload_n 3, 1) := by decide +kernel
theorem dX7_share_142 : decode cX7_share 142 = .ok (.aload_n 0, 1) := by decide +kernel
theorem dX7_share_143 : decode cX7_share 143 = .ok (.iload 4, 2) := by decide +kernel
theorem dX7_share_145 : decode cX7_share 145 = .ok (.iload 9, 2) := by decide +kernel
theorem dX7_share_147 : decode cX7_share 147 = .ok (.invokevirtual 413, 3) := by decide +kernel
theorem dX7_share_150 : decode cX7_share 150 = .ok (.imul, 1) := by decide +kernel
theorem dX7_share_151 : decode cX7_share 151 = .ok (.iload 5, 2) := by decide +kernel
theorem dX7_share_153 : decode cX7_share 153 = .ok (.idiv, 1) := by decide +kernel
theorem dX7_share_154 : decode cX7_share 154 = .ok (.isub, 1) := by decide +kernel
theorem dX7_share_155 : decode cX7_share 155 = .ok (.istore 6, 2) := by decide +kernel
theorem dX7_share_157 : decode cX7_share 157 = .ok (.iload_n 3, 1) := by decide +kernel
theorem dX7_share_158 : decode cX7_share 158 = .ok (.aload_n 0, 1) := by decide +kernel
theorem dX7_share_159 : decode cX7_share 159 = .ok (.iload 4, 2) := by decide +kernel
theorem dX7_share_161 : decode cX7_share 161 = .ok (.iload 9, 2) := by decide +kernel
theorem dX7_share_163 : decode cX7_share 163 = .ok (.invokevirtual 413, 3) := by decide +kernel
theorem dX7_share_166 : decode cX7_share 166 = .ok (.imul, 1) := by decide +kernel
theorem dX7_share_167 : decode cX7_share 167 = .ok (.iload 5, 2) := by decide +kernel
theorem dX7_share_169 : decode cX7_share 169 = .ok (.irem, 1) := by decide +kernel
theorem dX7_share_170 : decode cX7_share 170 = .ok (.istore 10, 2) := by decide +kernel
theorem dX7_share_172 : decode cX7_share 172 = .ok (.iload 7, 2) := by decide +kernel
theorem dX7_share_174 : decode cX7_share 174 = .ok (.iload 4, 2) := by decide +kernel
theorem dX7_share_176 : decode cX7_share 176 = .ok (.iload 9, 2) := by decide +kernel
theorem dX7_share_178 : decode cX7_share 178 = .ok (.invokestatic 295, 3) := by decide +kernel
theorem dX7_share_181 : decode cX7_share 181 = .ok (.ifCond .eq 27, 3) := by decide +kernel
theorem dX7_share_184 : decode cX7_share 184 = .ok (.iload 10, 2) := by decide +kernel
theorem dX7_share_186 : decode cX7_share 186 = .ok (.iload 8, 2) := by decide +kernel
theorem dX7_share_188 : decode cX7_share 188 = .ok (.if_icmp .gt 16, 3) := by decide +kernel
theorem dX7_share_191 : decode cX7_share 191 = .ok (.iload 10, 2) := by decide +kernel
theorem dX7_share_193 : decode cX7_share 193 = .ok (.iload 8, 2) := by decide +kernel
theorem dX7_share_195 : decode cX7_share 195 = .ok (.if_icmp .ne 13, 3) := by decide +kernel
theorem dX7_share_198 : decode cX7_share 198 = .ok (.iload 9, 2) := by decide +kernel
theorem dX7_share_200 : decode cX7_share 200 = .ok (.iload_n 2, 1) := by decide +kernel
theorem dX7_share_201 : decode cX7_share 201 = .ok (.if_icmp .ge 7, 3) := by decide +kernel
theorem dX7_share_204 : decode cX7_share 204 = .ok (.iconst 1, 1) := by decide +kernel
theorem dX7_share_205 : decode cX7_share 205 = .ok (.goto 4, 3) := by decide +kernel
theorem dX7_share_208 : decode cX7_share 208 = .ok (.iconst 0, 1) := by decide +kernel
theorem dX7_share_209 : decode cX7_share 209 = .ok (.iadd, 1) := by decide +kernel
theorem dX7_share_210 : decode cX7_share 210 = .ok (.istore 7, 2) := by decide +kernel
theorem dX7_share_212 : decode cX7_share 212 = .ok (.iinc 9 1, 3) := by decide +kernel
theorem dX7_share_215 : decode cX7_share 215 = .ok (.goto (-88), 3) := by decide +kernel
theorem dX7_share_218 : decode cX7_share 218 = .ok (.iload_n 3, 1) := by decide +kernel
theorem dX7_share_219 : decode cX7_share 219 = .ok (.aload_n 0, 1) := by decide +kernel
theorem dX7_share_220 : decode cX7_share 220 = .ok (.getfield 20, 3) := by decide +kernel
theorem dX7_share_223 : decode cX7_share 223 = .ok (.bipush 12, 2) := by decide +kernel
theorem dX7_share_225 : decode cX7_share 225 = .ok (.iload_n 2, 1) := by decide +kernel
theorem dX7_share_226 : decode cX7_share 226 = .ok (.iadd, 1) := by decide +kernel
theorem dX7_share_227 : decode cX7_share 227 = .ok (.iaload, 1) := by decide +kernel
theorem dX7_share_228 : decode cX7_share 228 = .ok (.imul, 1) := by decide +kernel
theorem dX7_share_229 : decode cX7_share 229 = .ok (.iload 5, 2) := by decide +kernel
theorem dX7_share_231 : decode cX7_share 231 = .ok (.idiv, 1) := by decide +kernel
theorem dX7_share_232 : decode cX7_share 232 = .ok (.iload 7, 2) := by decide +kernel
theorem dX7_share_234 : decode cX7_share 234 = .ok (.iload 6, 2) := by decide +kernel
theorem dX7_share_236 : decode cX7_share 236 = .ok (.if_icmp .ge 7, 3) := by decide +kernel
theorem dX7_share_239 : decode cX7_share 239 = .ok (.iconst 1, 1) := by decide +kernel
theorem dX7_share_240 : decode cX7_share 240 = .ok (.goto 4, 3) := by decide +kernel
theorem dX7_share_243 : decode cX7_share 243 = .ok (.iconst 0, 1) := by decide +kernel
theorem dX7_share_244 : decode cX7_share 244 = .ok (.iadd, 1) := by decide +kernel
theorem dX7_share_245 : decode cX7_share 245 = .ok (.ireturn, 1) := by decide +kernel
def f_X7_share_l71 : am_F := am_th (i_il 6) (am_th (i_al 0) (am_th (i_gr 7 15) (am_th (i_ic (6)) (am_th (i_ia 0) (am_br (b_2 (fun x y => decide (y ≤ x))) (am_to 102) (am_th (i_il 5) (am_th (i_al 0) (am_th (i_il 4) (am_th (i_il 6) (am_th (i_cv 7 2 d_X7_peopleOf) (am_th (i_2 (fun x y => x + y)) (am_th (i_is 5) (am_th (i_inc 6 (1)) (am_to 71))))))))))))))
def f_X7_share_l127 : am_F := am_th (i_il 9) (am_th (i_al 0) (am_th (i_gr 7 15) (am_th (i_ic (6)) (am_th (i_ia 0) (am_br (b_2 (fun x y => decide (y ≤ x))) (am_to 218) (am_th (i_il 6) (am_th (i_il 3) (am_th (i_al 0) (am_th (i_il 4) (am_th (i_il 9) (am_th (i_cv 7 2 d_X7_peopleOf) (am_th (i_2 (fun x y => x * y)) (am_th (i_il 5) (am_th (i_2n (fun x y => x / y)) (am_th (i_2 (fun x y => x - y)) (am_th (i_is 6) (am_th (i_il 3) (am_th (i_al 0) (am_th (i_il 4) (am_th (i_il 9) (am_th (i_cv 7 2 d_X7_peopleOf) (am_th (i_2 (fun x y => x * y)) (am_th (i_il 5) (am_th (i_2n (fun x y => x - x / y * y)) (am_th (i_is 10) (am_th (i_il 7) (am_th (i_il 4) (am_th (i_il 9) (am_th (i_cs 2 d_X7_hasBit) (am_sq 209 (am_br (b_1 (fun x => decide (x = 0))) (am_th (i_ic (0)) (am_to 209)) (am_th (i_il 10) (am_th (i_il 8) (am_br (b_2 (fun x y => decide (y < x))) (am_th (i_ic (1)) (am_to 209)) (am_th (i_il 10) (am_th (i_il 8) (am_br (b_2 (fun x y => decide (¬ x = y))) (am_th (i_ic (0)) (am_to 209)) (am_th (i_il 9) (am_th (i_il 2) (am_br (b_2 (fun x y => decide (y ≤ x))) (am_th (i_ic (0)) (am_to 209)) (am_th (i_ic (1)) (am_to 209)))))))))))) (am_th (i_2 (fun x y => x + y)) (am_th (i_is 7) (am_th (i_inc 9 (1)) (am_to 127))))))))))))))))))))))))))))))))))
def f_X7_share : am_F := am_th (i_al 0) (am_th (i_cv 7 0 d_X7_good) (am_th (i_al 0) (am_th (i_il 1) (am_th (i_cv 7 1 d_X7_isStanding) (am_br (b_1 (fun x => decide (x = 0))) (am_th (i_al 0) (am_th (i_ic (1)) (am_th (i_cv 7 1 d_X7_no) (r_i)))) (am_th (i_al 0) (am_th (i_il 2) (am_th (i_cv 7 1 d_X7_isFamily) (am_br (b_1 (fun x => decide (¬ x = 0))) (am_th (i_il 3) (am_th (i_ic (0)) (am_th (i_ic (999)) (am_th (i_cs 3 d_X7_in) (am_br (b_1 (fun x => decide (¬ x = 0))) (am_th (i_al 0) (am_th (i_al 0) (am_th (i_gr 7 17) (am_th (i_il 1) (am_th (i_cv 7 2 d_X7_partiesIn) (am_th (i_is 4) (am_th (i_il 4) (am_th (i_il 2) (am_th (i_cs 2 d_X7_hasBit) (am_br (b_1 (fun x => decide (¬ x = 0))) (am_th (i_ic (0)) (am_th (i_is 5) (am_th (i_ic (0)) (am_th (i_is 6) (am_sq 102 (am_lp 5000 71 f_X7_share_l71) (am_th (i_il 3) (am_th (i_is 6) (am_th (i_ic (0)) (am_th (i_is 7) (am_th (i_il 3) (am_th (i_al 0) (am_th (i_gr 7 15) (am_th (i_ic (12)) (am_th (i_il 2) (am_th (i_2 (fun x y => x + y)) (am_th (i_ia 0) (am_th (i_2 (fun x y => x * y)) (am_th (i_il 5) (am_th (i_2n (fun x y => x - x / y * y)) (am_th (i_is 8) (am_th (i_ic (0)) (am_th (i_is 9) (am_sq 218 (am_lp 5000 127 f_X7_share_l127) (am_th (i_il 3) (am_th (i_al 0) (am_th (i_gr 7 15) (am_th (i_ic (12)) (am_th (i_il 2) (am_th (i_2 (fun x y => x + y)) (am_th (i_ia 0) (am_th (i_2 (fun x y => x * y)) (am_th (i_il 5) (am_th (i_2n (fun x y => x / y)) (am_th (i_il 7) (am_th (i_il 6) (am_br (b_2 (fun x y => decide (y ≤ x))) (am_th (i_ic (0)) (am_th (i_2 (fun x y => x + y)) (r_i))) (am_th (i_ic (1)) (am_th (i_2 (fun x y => x + y)) (r_i))))))))))))))))))))))))))))))))))))))) (am_th (i_ic (0)) (r_i)))))))))))) (am_th (i_al 0) (am_th (i_ic (2)) (am_th (i_cv 7 1 d_X7_no) (r_i))))))))) (am_th (i_al 0) (am_th (i_ic (1)) (am_th (i_cv 7 1 d_X7_no) (r_i)))))))))))))
def d_X7_share : am_D := am_den 11 f_X7_share
set_option maxHeartbeats 4000000 in
set_option maxRecDepth 100000 in
theorem b_X7_share : am_Body yX7_share cX7_share 11 (some .int) 3 66 f_X7_share := by
  intro p l e R s m args below meth c g n0 z0 r0 u0 C hr hn
  have C : am_Cx p l e R s m args below meth c g RX7 cX7_share 11 n0 z0 (am_len u0) (am_wt u0) 3 66 := C
  have l71 : am_Snd (am_GM p l e R s m args below meth c g 11 n0 z0 r0 u0) (am_Rt r0 u0) 71 (f_X7_share_l71) := by
    unfold f_X7_share_l71
    exact (so_th (so_iload C dX7_share_71) (so_th (so_aload_n C dX7_share_73 rfl) (so_th (so_getr C fl_RX7_20 dX7_share_74) (so_th (so_bipush C dX7_share_77 (by decide)) (so_th (so_iald C dX7_share_79) (so_br (so_icmp_ge C dX7_share_80 (by decide)) (so_to) (so_th (so_iload C dX7_share_83) (so_th (so_aload_n C dX7_share_85 rfl) (so_th (so_iload C dX7_share_86) (so_th (so_iload C dX7_share_88) (so_th (so_cv C m_X7_peopleOf rfl k_751 k_753 k_752 k_754 k_475 ⟨by decide, by decide, by decide +kernel⟩ (by decide) dX7_share_90) (so_th (so_iadd C dX7_share_93) (so_th (so_istore C dX7_share_94 (by decide)) (so_th (so_iinc C dX7_share_96 (by decide) (by decide)) (so_goto C dX7_share_99 (by decide) (so_to))))))))))))))))
  have l127 : am_Snd (am_GM p l e R s m args below meth c g 11 n0 z0 r0 u0) (am_Rt r0 u0) 127 (f_X7_share_l127) := by
    unfold f_X7_share_l127
    exact (so_th (so_iload C dX7_share_127) (so_th (so_aload_n C dX7_share_129 rfl) (so_th (so_getr C fl_RX7_20 dX7_share_130) (so_th (so_bipush C dX7_share_133 (by decide)) (so_th (so_iald C dX7_share_135) (so_br (so_icmp_ge C dX7_share_136 (by decide)) (so_to) (so_th (so_iload C dX7_share_139) (so_th (so_iload_n C dX7_share_141 rfl) (so_th (so_aload_n C dX7_share_142 rfl) (so_th (so_iload C dX7_share_143) (so_th (so_iload C dX7_share_145) (so_th (so_cv C m_X7_peopleOf rfl k_751 k_753 k_752 k_754 k_475 ⟨by decide, by decide, by decide +kernel⟩ (by decide) dX7_share_147) (so_th (so_imul C dX7_share_150) (so_th (so_iload C dX7_share_151) (so_th (so_idiv C dX7_share_153) (so_th (so_isub C dX7_share_154) (so_th (so_istore C dX7_share_155 (by decide)) (so_th (so_iload_n C dX7_share_157 rfl) (so_th (so_aload_n C dX7_share_158 rfl) (so_th (so_iload C dX7_share_159) (so_th (so_iload C dX7_share_161) (so_th (so_cv C m_X7_peopleOf rfl k_751 k_753 k_752 k_754 k_475 ⟨by decide, by decide, by decide +kernel⟩ (by decide) dX7_share_163) (so_th (so_imul C dX7_share_166) (so_th (so_iload C dX7_share_167) (so_th (so_irem C dX7_share_169) (so_th (so_istore C dX7_share_170 (by decide)) (so_th (so_iload C dX7_share_172) (so_th (so_iload C dX7_share_174) (so_th (so_iload C dX7_share_176) (so_th (so_cs C m_X7_hasBit k_631 k_633 k_632 k_475 ⟨by decide, by decide, by decide +kernel⟩ (by decide) dX7_share_178) (so_sq (so_br (so_if_eq C dX7_share_181 (by decide)) (so_th (so_iconst C dX7_share_208 (by decide)) (so_to)) (so_th (so_iload C dX7_share_184) (so_th (so_iload C dX7_share_186) (so_br (so_icmp_gt C dX7_share_188 (by decide)) (so_th (so_iconst C dX7_share_204 (by decide)) (so_goto C dX7_share_205 (by decide) (so_to))) (so_th (so_iload C dX7_share_191) (so_th (so_iload C dX7_share_193) (so_br (so_icmp_ne C dX7_share_195 (by decide)) (so_th (so_iconst C dX7_share_208 (by decide)) (so_to)) (so_th (so_iload C dX7_share_198) (so_th (so_iload_n C dX7_share_200 rfl) (so_br (so_icmp_ge C dX7_share_201 (by decide)) (so_th (so_iconst C dX7_share_208 (by decide)) (so_to)) (so_th (so_iconst C dX7_share_204 (by decide)) (so_goto C dX7_share_205 (by decide) (so_to))))))))))))) (so_th (so_iadd C dX7_share_209) (so_th (so_istore C dX7_share_210 (by decide)) (so_th (so_iinc C dX7_share_212 (by decide) (by decide)) (so_goto C dX7_share_215 (by decide) (so_to))))))))))))))))))))))))))))))))))))
  unfold f_X7_share
  exact (so_th (so_aload_n C dX7_share_0 rfl) (so_th (so_cv C m_X7_good rfl k_594 k_596 k_595 k_597 k_475 ⟨by decide, by decide, by decide +kernel⟩ (by decide) dX7_share_1) (so_th (so_aload_n C dX7_share_4 rfl) (so_th (so_iload_n C dX7_share_5 rfl) (so_th (so_cv C m_X7_isStanding rfl k_690 k_692 k_691 k_693 k_475 ⟨by decide, by decide, by decide +kernel⟩ (by decide) dX7_share_6) (so_br (so_if_eq C dX7_share_9 (by decide)) (so_th (so_aload_n C dX7_share_20 rfl) (so_th (so_iconst C dX7_share_21 (by decide)) (so_th (so_cv C m_X7_no rfl k_609 k_611 k_610 k_612 k_475 ⟨by decide, by decide, by decide +kernel⟩ (by decide) dX7_share_22) (so_ri C hr dX7_share_25)))) (so_th (so_aload_n C dX7_share_12 rfl) (so_th (so_iload_n C dX7_share_13 rfl) (so_th (so_cv C m_X7_isFamily rfl k_662 k_664 k_663 k_665 k_475 ⟨by decide, by decide, by decide +kernel⟩ (by decide) dX7_share_14) (so_br (so_if_ne C dX7_share_17 (by decide)) (so_th (so_iload_n C dX7_share_26 rfl) (so_th (so_iconst C dX7_share_27 (by decide)) (so_th (so_sipush C dX7_share_28 (by decide)) (so_th (so_cs C m_X7_in k_511 k_513 k_512 k_475 ⟨by decide, by decide, by decide +kernel⟩ (by decide) dX7_share_31) (so_br (so_if_ne C dX7_share_34 (by decide)) (so_th (so_aload_n C dX7_share_43 rfl) (so_th (so_aload_n C dX7_share_44 rfl) (so_th (so_getr C fl_RX7_26 dX7_share_45) (so_th (so_iload_n C dX7_share_48 rfl) (so_th (so_cv C m_X7_partiesIn rfl k_623 k_625 k_624 k_626 k_475 ⟨by decide, by decide, by decide +kernel⟩ (by decide) dX7_share_49) (so_th (so_istore C dX7_share_52 (by decide)) (so_th (so_iload C dX7_share_54) (so_th (so_iload_n C dX7_share_56 rfl) (so_th (so_cs C m_X7_hasBit k_631 k_633 k_632 k_475 ⟨by decide, by decide, by decide +kernel⟩ (by decide) dX7_share_57) (so_br (so_if_ne C dX7_share_60 (by decide)) (so_th (so_iconst C dX7_share_65 (by decide)) (so_th (so_istore C dX7_share_66 (by decide)) (so_th (so_iconst C dX7_share_68 (by decide)) (so_th (so_istore C dX7_share_69 (by decide)) (so_sq (so_lp l71 5000) (so_th (so_iload_n C dX7_share_102 rfl) (so_th (so_istore C dX7_share_103 (by decide)) (so_th (so_iconst C dX7_share_105 (by decide)) (so_th (so_istore C dX7_share_106 (by decide)) (so_th (so_iload_n C dX7_share_108 rfl) (so_th (so_aload_n C dX7_share_109 rfl) (so_th (so_getr C fl_RX7_20 dX7_share_110) (so_th (so_bipush C dX7_share_113 (by decide)) (so_th (so_iload_n C dX7_share_115 rfl) (so_th (so_iadd C dX7_share_116) (so_th (so_iald C dX7_share_117) (so_th (so_imul C dX7_share_118) (so_th (so_iload C dX7_share_119) (so_th (so_irem C dX7_share_121) (so_th (so_istore C dX7_share_122 (by decide)) (so_th (so_iconst C dX7_share_124 (by decide)) (so_th (so_istore C dX7_share_125 (by decide)) (so_sq (so_lp l127 5000) (so_th (so_iload_n C dX7_share_218 rfl) (so_th (so_aload_n C dX7_share_219 rfl) (so_th (so_getr C fl_RX7_20 dX7_share_220) (so_th (so_bipush C dX7_share_223 (by decide)) (so_th (so_iload_n C dX7_share_225 rfl) (so_th (so_iadd C dX7_share_226) (so_th (so_iald C dX7_share_227) (so_th (so_imul C dX7_share_228) (so_th (so_iload C dX7_share_229) (so_th (so_idiv C dX7_share_231) (so_th (so_iload C dX7_share_232) (so_th (so_iload C dX7_share_234) (so_br (so_icmp_ge C dX7_share_236 (by decide)) (so_th (so_iconst C dX7_share_243 (by decide)) (so_th (so_iadd C dX7_share_244) (so_ri C hr dX7_share_245))) (so_th (so_iconst C dX7_share_239 (by decide)) (so_goto C dX7_share_240 (by decide) (so_th (so_iadd C dX7_share_244) (so_ri C hr dX7_share_245)))))))))))))))))))))))))))))))))))))))) (so_th (so_iconst C dX7_share_63 (by decide)) (so_ri C hr dX7_share_64)))))))))))) (so_th (so_aload_n C dX7_share_37 rfl) (so_th (so_iconst C dX7_share_38 (by decide)) (so_th (so_cv C m_X7_no rfl k_609 k_611 k_610 k_612 k_475 ⟨by decide, by decide, by decide +kernel⟩ (by decide) dX7_share_39) (so_ri C hr dX7_share_42))))))))) (so_th (so_aload_n C dX7_share_20 rfl) (so_th (so_iconst C dX7_share_21 (by decide)) (so_th (so_cv C m_X7_no rfl k_609 k_611 k_610 k_612 k_475 ⟨by decide, by decide, by decide +kernel⟩ (by decide) dX7_share_22) (so_ri C hr dX7_share_25))))))))))))))
theorem m_X7_share : am_M yX7_share cX7_share 11 (some .int) 3 66 d_X7_share := am_M_of (by decide +kernel) b_X7_share
theorem dX7_gameOf_0 : decode cX7_gameOf 0 = .ok (.aload_n 0, 1) := by decide +kernel
theorem dX7_gameOf_1 : decode cX7_gameOf 1 = .ok (.getfield 26, 3) := by decide +kernel
theorem dX7_gameOf_4 : decode cX7_gameOf 4 = .ok (.iload_n 1, 1) := by decide +kernel
theorem dX7_gameOf_5 : decode cX7_gameOf 5 = .ok (.iaload, 1) := by decide +kernel
theorem dX7_gameOf_6 : decode cX7_gameOf 6 = .ok (.iload_n 2, 1) := by decide +kernel
theorem dX7_gameOf_7 : decode cX7_gameOf 7 = .ok (.iadd, 1) := by decide +kernel
theorem dX7_gameOf_8 : decode cX7_gameOf 8 = .ok (.iload_n 3, 1) := by decide +kernel
theorem dX7_gameOf_9 : decode cX7_gameOf 9 = .ok (.isub, 1) := by decide +kernel
theorem dX7_gameOf_10 : decode cX7_gameOf 10 = .ok (.istore 5, 2) := by decide +kernel
theorem dX7_gameOf_12 : decode cX7_gameOf 12 = .ok (.iload 5, 2) := by decide +kernel
theorem dX7_gameOf_14 : decode cX7_gameOf 14 = .ok (.aload_n 0, 1) := by decide +kernel
theorem dX7_gameOf_15 : decode cX7_gameOf 15 = .ok (.getfield 20, 3) := by decide +kernel
theorem dX7_gameOf_18 : decode cX7_gameOf 18 = .ok (.iconst 1, 1) := by decide +kernel
theorem dX7_gameOf_19 : decode cX7_gameOf 19 = .ok (.iaload, 1) := by decide +kernel
theorem dX7_gameOf_20 : decode cX7_gameOf 20 = .ok (.if_icmp .lt 7, 3) := by decide +kernel
theorem dX7_gameOf_23 : decode cX7_gameOf 23 = .ok (.iconst 1, 1) := by decide +kernel
theorem dX7_gameOf_24 : decode cX7_gameOf 24 = .ok (.goto 4, 3) := by decide +kernel
theorem dX7_gameOf_27 : decode cX7_gameOf 27 = .ok (.iconst 0, 1) := by decide +kernel
theorem dX7_gameOf_28 : decode cX7_gameOf 28 = .ok (.istore 6, 2) := by decide +kernel
theorem dX7_gameOf_30 : decode cX7_gameOf 30 = .ok (.iload 4, 2) := by decide +kernel
theorem dX7_gameOf_32 : decode cX7_gameOf 32 = .ok (.ifCond .eq 19, 3) := by decide +kernel
theorem dX7_gameOf_35 : decode cX7_gameOf 35 = .ok (.iload 6, 2) := by decide +kernel
theorem dX7_gameOf_37 : decode cX7_gameOf 37 = .ok (.ifCond .eq 8, 3) := by decide +kernel
theorem dX7_gameOf_40 : decode cX7_gameOf 40 = .ok (.bipush (-9), 2) := by decide +kernel
theorem dX7_gameOf_42 : decode cX7_gameOf 42 = .ok (.goto 4, 3) := by decide +kernel
theorem dX7_gameOf_45 : decode cX7_gameOf 45 = .ok (.iconst 0, 1) := by decide +kernel
theorem dX7_gameOf_46 : decode cX7_gameOf 46 = .ok (.iload_n 3, 1) := by decide +kernel
theorem dX7_gameOf_47 : decode cX7_gameOf 47 = .ok (.isub, 1) := by decide +kernel
theorem dX7_gameOf_48 : decode cX7_gameOf 48 = .ok (.goto 16, 3) := by decide +kernel
theorem dX7_gameOf_51 : decode cX7_gameOf 51 = .ok (.iload 6, 2) := by decide +kernel
theorem dX7_gameOf_53 : decode cX7_gameOf 53 = .ok (.ifCond .eq 8, 3) := by decide +kernel
theorem dX7_gameOf_56 : decode cX7_gameOf 56 = .ok (.bipush 9, 2) := by decide +kernel
theorem dX7_gameOf_58 : decode cX7_gameOf 58 = .ok (.goto 4, 3) := by decide +kernel
theorem dX7_gameOf_61 : decode cX7_gameOf 61 = .ok (.iconst 0, 1) := by decide +kernel
theorem dX7_gameOf_62 : decode cX7_gameOf 62 = .ok (.iload_n 2, 1) := by decide +kernel
theorem dX7_gameOf_63 : decode cX7_gameOf 63 = .ok (.isub, 1) := by decide +kernel
theorem dX7_gameOf_64 : decode cX7_gameOf 64 = .ok (.ireturn, 1) := by decide +kernel
def f_X7_gameOf : am_F := am_th (i_al 0) (am_th (i_gr 7 17) (am_th (i_il 1) (am_th (i_ia 0) (am_th (i_il 2) (am_th (i_2 (fun x y => x + y)) (am_th (i_il 3) (am_th (i_2 (fun x y => x - y)) (am_th (i_is 5) (am_th (i_il 5) (am_th (i_al 0) (am_th (i_gr 7 15) (am_th (i_ic (1)) (am_th (i_ia 0) (am_br (b_2 (fun x y => decide (x < y))) (am_th (i_ic (0)) (am_th (i_is 6) (am_th (i_il 4) (am_br (b_1 (fun x => decide (x = 0))) (am_th (i_il 6) (am_br (b_1 (fun x => decide (x = 0))) (am_th (i_ic (0)) (am_th (i_il 2) (am_th (i_2 (fun x y => x - y)) (r_i)))) (am_th (i_ic (9)) (am_th (i_il 2) (am_th (i_2 (fun x y => x - y)) (r_i)))))) (am_th (i_il 6) (am_br (b_1 (fun x => decide (x = 0))) (am_th (i_ic (0)) (am_th (i_il 3) (am_th (i_2 (fun x y => x - y)) (r_i)))) (am_th (i_ic (-9)) (am_th (i_il 3) (am_th (i_2 (fun x y => x - y)) (r_i)))))))))) (am_th (i_ic (1)) (am_th (i_is 6) (am_th (i_il 4) (am_br (b_1 (fun x => decide (x = 0))) (am_th (i_il 6) (am_br (b_1 (fun x => decide (x = 0))) (am_th (i_ic (0)) (am_th (i_il 2) (am_th (i_2 (fun x y => x - y)) (r_i)))) (am_th (i_ic (9)) (am_th (i_il 2) (am_th (i_2 (fun x y => x - y)) (r_i)))))) (am_th (i_il 6) (am_br (b_1 (fun x => decide (x = 0))) (am_th (i_ic (0)) (am_th (i_il 3) (am_th (i_2 (fun x y => x - y)) (r_i)))) (am_th (i_ic (-9)) (am_th (i_il 3) (am_th (i_2 (fun x y => x - y)) (r_i))))))))))))))))))))))))
def d_X7_gameOf : am_D := am_den 7 f_X7_gameOf
set_option maxHeartbeats 4000000 in
set_option maxRecDepth 100000 in
theorem b_X7_gameOf : am_Body yX7_gameOf cX7_gameOf 7 (some .int) 0 0 f_X7_gameOf := by
  intro p l e R s m args below meth c g n0 z0 r0 u0 C hr hn
  have C : am_Cx p l e R s m args below meth c g RX7 cX7_gameOf 7 n0 z0 (am_len u0) (am_wt u0) 0 0 := C
  unfold f_X7_gameOf
  exact (so_th (so_aload_n C dX7_gameOf_0 rfl) (so_th (so_getr C fl_RX7_26 dX7_gameOf_1) (so_th (so_iload_n C dX7_gameOf_4 rfl) (so_th (so_iald C dX7_gameOf_5) (so_th (so_iload_n C dX7_gameOf_6 rfl) (so_th (so_iadd C dX7_gameOf_7) (so_th (so_iload_n C dX7_gameOf_8 rfl) (so_th (so_isub C dX7_gameOf_9) (so_th (so_istore C dX7_gameOf_10 (by decide)) (so_th (so_iload C dX7_gameOf_12) (so_th (so_aload_n C dX7_gameOf_14 rfl) (so_th (so_getr C fl_RX7_20 dX7_gameOf_15) (so_th (so_iconst C dX7_gameOf_18 (by decide)) (so_th (so_iald C dX7_gameOf_19) (so_br (so_icmp_lt C dX7_gameOf_20 (by decide)) (so_th (so_iconst C dX7_gameOf_27 (by decide)) (so_th (so_istore C dX7_gameOf_28 (by decide)) (so_th (so_iload C dX7_gameOf_30) (so_br (so_if_eq C dX7_gameOf_32 (by decide)) (so_th (so_iload C dX7_gameOf_51) (so_br (so_if_eq C dX7_gameOf_53 (by decide)) (so_th (so_iconst C dX7_gameOf_61 (by decide)) (so_th (so_iload_n C dX7_gameOf_62 rfl) (so_th (so_isub C dX7_gameOf_63) (so_ri C hr dX7_gameOf_64)))) (so_th (so_bipush C dX7_gameOf_56 (by decide)) (so_goto C dX7_gameOf_58 (by decide) (so_th (so_iload_n C dX7_gameOf_62 rfl) (so_th (so_isub C dX7_gameOf_63) (so_ri C hr dX7_gameOf_64))))))) (so_th (so_iload C dX7_gameOf_35) (so_br (so_if_eq C dX7_gameOf_37 (by decide)) (so_th (so_iconst C dX7_gameOf_45 (by decide)) (so_th (so_iload_n C dX7_gameOf_46 rfl) (so_th (so_isub C dX7_gameOf_47) (so_goto C dX7_gameOf_48 (by decide) (so_ri C hr dX7_gameOf_64))))) (so_th (so_bipush C dX7_gameOf_40 (by decide)) (so_goto C dX7_gameOf_42 (by decide) (so_th (so_iload_n C dX7_gameOf_46 rfl) (so_th (so_isub C dX7_gameOf_47) (so_goto C dX7_gameOf_48 (by decide) (so_ri C hr dX7_gameOf_64)))))))))))) (so_th (so_iconst C dX7_gameOf_23 (by decide)) (so_goto C dX7_gameOf_24 (by decide) (so_th (so_istore C dX7_gameOf_28 (by decide)) (so_th (so_iload C dX7_gameOf_30) (so_br (so_if_eq C dX7_gameOf_32 (by decide)) (so_th (so_iload C dX7_gameOf_51) (so_br (so_if_eq C dX7_gameOf_53 (by decide)) (so_th (so_iconst C dX7_gameOf_61 (by decide)) (so_th (so_iload_n C dX7_gameOf_62 rfl) (so_th (so_isub C dX7_gameOf_63) (so_ri C hr dX7_gameOf_64)))) (so_th (so_bipush C dX7_gameOf_56 (by decide)) (so_goto C dX7_gameOf_58 (by decide) (so_th (so_iload_n C dX7_gameOf_62 rfl) (so_th (so_isub C dX7_gameOf_63) (so_ri C hr dX7_gameOf_64))))))) (so_th (so_iload C dX7_gameOf_35) (so_br (so_if_eq C dX7_gameOf_37 (by decide)) (so_th (so_iconst C dX7_gameOf_45 (by decide)) (so_th (so_iload_n C dX7_gameOf_46 rfl) (so_th (so_isub C dX7_gameOf_47) (so_goto C dX7_gameOf_48 (by decide) (so_ri C hr dX7_gameOf_64))))) (so_th (so_bipush C dX7_gameOf_40 (by decide)) (so_goto C dX7_gameOf_42 (by decide) (so_th (so_iload_n C dX7_gameOf_46 rfl) (so_th (so_isub C dX7_gameOf_47) (so_goto C dX7_gameOf_48 (by decide) (so_ri C hr dX7_gameOf_64))))))))))))))))))))))))))))
theorem m_X7_gameOf : am_M yX7_gameOf cX7_gameOf 7 (some .int) 0 0 d_X7_gameOf := am_M_of (by decide +kernel) b_X7_gameOf
theorem dX7_game_0 : decode cX7_game 0 = .ok (.aload_n 0, 1) := by decide +kernel
theorem dX7_game_1 : decode cX7_game 1 = .ok (.invokevirtual 189, 3) := by decide +kernel
theorem dX7_game_4 : decode cX7_game 4 = .ok (.aload_n 0, 1) := by decide +kernel
theorem dX7_game_5 : decode cX7_game 5 = .ok (.iload_n 1, 1) := by decide +kernel
theorem dX7_game_6 : decode cX7_game 6 = .ok (.invokevirtual 348, 3) := by decide +kernel
theorem dX7_game_9 : decode cX7_game 9 = .ok (.ifCond .ne 9, 3) := by decide +kernel
theorem dX7_game_12 : decode cX7_game 12 = .ok (.aload_n 0, 1) := by decide +kernel
theorem dX7_game_13 : decode cX7_game 13 = .ok (.iconst 1, 1) := by decide +kernel
theorem dX7_game_14 : decode cX7_game 14 = .ok (.invokevirtual 351, 3) := by decide +kernel
theorem dX7_game_17 : decode cX7_game 17 = .ok (.ireturn, 1) := by decide +kernel
theorem dX7_game_18 : decode cX7_game 18 = .ok (.iload_n 2, 1) := by decide +kernel
theorem dX7_game_19 : decode cX7_game 19 = .ok (.iconst 0, 1) := by decide +kernel
theorem dX7_game_20 : decode cX7_game 20 = .ok (.iconst 4, 1) := by decide +kernel
theorem dX7_game_21 : decode cX7_game 21 = .ok (.invokestatic 157, 3) := by decide +kernel
theorem dX7_game_24 : decode cX7_game 24 = .ok (.ifCond .eq 24, 3) := by decide +kernel
theorem dX7_game_27 : decode cX7_game 27 = .ok (.iload_n 3, 1) := by decide +kernel
theorem dX7_game_28 : decode cX7_game 28 = .ok (.iconst 0, 1) := by decide +kernel
theorem dX7_game_29 : decode cX7_game 29 = .ok (.iconst 4, 1) := by decide +kernel
theorem dX7_game_30 : decode cX7_game 30 = .ok (.invokestatic 157, 3) := by decide +kernel
theorem dX7_game_33 : decode cX7_game 33 = .ok (.ifCond .eq 15, 3) := by decide +kernel
theorem dX7_game_36 : decode cX7_game 36 = .ok (.aload_n 0, 1) := by decide +kernel
theorem dX7_game_37 : decode cX7_game 37 = .ok (.iload_n 1, 1) := by decide +kernel
theorem dX7_game_38 : decode cX7_game 38 = .ok (.iload_n 2, 1) := by decide +kernel
theorem dX7_game_39 : decode cX7_game 39 = .ok (.iload_n 3, 1) := by decide +kernel
theorem dX7_game_40 : decode cX7_game 40 = .ok (.iload 4, 2) := by decide +kernel
theorem dX7_game_42 : decode cX7_game 42 = .ok (.invokevirtual 416, 3) := by decide +kernel
theorem dX7_game_45 : decode cX7_game 45 = .ok (.goto 8, 3) := by decide +kernel
theorem dX7_game_48 : decode cX7_game 48 = .ok (.aload_n 0, 1) := by decide +kernel
theorem dX7_game_49 : decode cX7_game 49 = .ok (.iconst 2, 1) := by decide +kernel
theorem dX7_game_50 : decode cX7_game 50 = .ok (.invokevirtual 351, 3) := by decide +kernel
theorem dX7_game_53 : decode cX7_game 53 = .ok (.ireturn, 1) := by decide +kernel
def f_X7_game : am_F := am_th (i_al 0) (am_th (i_cv 7 0 d_X7_good) (am_th (i_al 0) (am_th (i_il 1) (am_th (i_cv 7 1 d_X7_isStanding) (am_br (b_1 (fun x => decide (¬ x = 0))) (am_th (i_il 2) (am_th (i_ic (0)) (am_th (i_ic (4)) (am_th (i_cs 3 d_X7_in) (am_br (b_1 (fun x => decide (x = 0))) (am_th (i_al 0) (am_th (i_ic (2)) (am_th (i_cv 7 1 d_X7_less) (r_i)))) (am_th (i_il 3) (am_th (i_ic (0)) (am_th (i_ic (4)) (am_th (i_cs 3 d_X7_in) (am_br (b_1 (fun x => decide (x = 0))) (am_th (i_al 0) (am_th (i_ic (2)) (am_th (i_cv 7 1 d_X7_less) (r_i)))) (am_th (i_al 0) (am_th (i_il 1) (am_th (i_il 2) (am_th (i_il 3) (am_th (i_il 4) (am_th (i_cv 7 4 d_X7_gameOf) (r_i))))))))))))))))) (am_th (i_al 0) (am_th (i_ic (1)) (am_th (i_cv 7 1 d_X7_less) (r_i)))))))))
def d_X7_game : am_D := am_den 5 f_X7_game
set_option maxHeartbeats 4000000 in
set_option maxRecDepth 100000 in
theorem b_X7_game : am_Body yX7_game cX7_game 5 (some .int) 3 64 f_X7_game := by
  intro p l e R s m args below meth c g n0 z0 r0 u0 C hr hn
  have C : am_Cx p l e R s m args below meth c g RX7 cX7_game 5 n0 z0 (am_len u0) (am_wt u0) 3 64 := C
  unfold f_X7_game
  exact (so_th (so_aload_n C dX7_game_0 rfl) (so_th (so_cv C m_X7_good rfl k_594 k_596 k_595 k_597 k_475 ⟨by decide, by decide, by decide +kernel⟩ (by decide) dX7_game_1) (so_th (so_aload_n C dX7_game_4 rfl) (so_th (so_iload_n C dX7_game_5 rfl) (so_th (so_cv C m_X7_isStanding rfl k_690 k_692 k_691 k_693 k_475 ⟨by decide, by decide, by decide +kernel⟩ (by decide) dX7_game_6) (so_br (so_if_ne C dX7_game_9 (by decide)) (so_th (so_iload_n C dX7_game_18 rfl) (so_th (so_iconst C dX7_game_19 (by decide)) (so_th (so_iconst C dX7_game_20 (by decide)) (so_th (so_cs C m_X7_in k_511 k_513 k_512 k_475 ⟨by decide, by decide, by decide +kernel⟩ (by decide) dX7_game_21) (so_br (so_if_eq C dX7_game_24 (by decide)) (so_th (so_aload_n C dX7_game_48 rfl) (so_th (so_iconst C dX7_game_49 (by decide)) (so_th (so_cv C m_X7_less rfl k_694 k_696 k_695 k_697 k_475 ⟨by decide, by decide, by decide +kernel⟩ (by decide) dX7_game_50) (so_ri C hr dX7_game_53)))) (so_th (so_iload_n C dX7_game_27 rfl) (so_th (so_iconst C dX7_game_28 (by decide)) (so_th (so_iconst C dX7_game_29 (by decide)) (so_th (so_cs C m_X7_in k_511 k_513 k_512 k_475 ⟨by decide, by decide, by decide +kernel⟩ (by decide) dX7_game_30) (so_br (so_if_eq C dX7_game_33 (by decide)) (so_th (so_aload_n C dX7_game_48 rfl) (so_th (so_iconst C dX7_game_49 (by decide)) (so_th (so_cv C m_X7_less rfl k_694 k_696 k_695 k_697 k_475 ⟨by decide, by decide, by decide +kernel⟩ (by decide) dX7_game_50) (so_ri C hr dX7_game_53)))) (so_th (so_aload_n C dX7_game_36 rfl) (so_th (so_iload_n C dX7_game_37 rfl) (so_th (so_iload_n C dX7_game_38 rfl) (so_th (so_iload_n C dX7_game_39 rfl) (so_th (so_iload C dX7_game_40) (so_th (so_cv C m_X7_gameOf rfl k_755 k_757 k_756 k_758 k_475 ⟨by decide, by decide, by decide +kernel⟩ (by decide) dX7_game_42) (so_goto C dX7_game_45 (by decide) (so_ri C hr dX7_game_53)))))))))))))))))) (so_th (so_aload_n C dX7_game_12 rfl) (so_th (so_iconst C dX7_game_13 (by decide)) (so_th (so_cv C m_X7_less rfl k_694 k_696 k_695 k_697 k_475 ⟨by decide, by decide, by decide +kernel⟩ (by decide) dX7_game_14) (so_ri C hr dX7_game_17))))))))))
theorem m_X7_game : am_M yX7_game cX7_game 5 (some .int) 3 64 d_X7_game := am_M_of (by decide +kernel) b_X7_game
theorem dX7_isRest_0 : decode cX7_isRest 0 = .ok (.iconst 1, 1) := by decide +kernel
theorem dX7_isRest_1 : decode cX7_isRest 1 = .ok (.istore 4, 2) := by decide +kernel
theorem dX7_isRest_3 : decode cX7_isRest 3 = .ok (.iconst 0, 1) := by decide +kernel
theorem dX7_isRest_4 : decode cX7_isRest 4 = .ok (.istore 5, 2) := by decide +kernel
theorem dX7_isRest_6 : decode cX7_isRest 6 = .ok (.iload 5, 2) := by decide +kernel
theorem dX7_isRest_8 : decode cX7_isRest 8 = .ok (.iconst 4, 1) := by decide +kernel
theorem dX7_isRest_9 : decode cX7_isRest 9 = .ok (.if_icmp .gt 61, 3) := by decide +kernel
theorem dX7_isRest_12 : decode cX7_isRest 12 = .ok (.iload 4, 2) := by decide +kernel
theorem dX7_isRest_14 : decode cX7_isRest 14 = .ok (.ifCond .eq 47, 3) := by decide +kernel
theorem dX7_isRest_17 : decode cX7_isRest 17 = .ok (.aload_n 0, 1) := by decide +kernel
theorem dX7_isRest_18 : decode cX7_isRest 18 = .ok (.iload_n 1, 1) := by decide +kernel
theorem dX7_isRest_19 : decode cX7_isRest 19 = .ok (.iload 5, 2) := by decide +kernel
theorem dX7_isRest_21 : decode cX7_isRest 21 = .ok (.iload_n 3, 1) := by decide +kernel
theorem dX7_isRest_22 : decode cX7_isRest 22 = .ok (.iconst 0, 1) := by decide +kernel
theorem dX7_isRest_23 : decode cX7_isRest 23 = .ok (.invokevirtual 416, 3) := by decide +kernel
theorem dX7_isRest_26 : decode cX7_isRest 26 = .ok (.aload_n 0, 1) := by decide +kernel
theorem dX7_isRest_27 : decode cX7_isRest 27 = .ok (.iload_n 1, 1) := by decide +kernel
theorem dX7_isRest_28 : decode cX7_isRest 28 = .ok (.iload_n 2, 1) := by decide +kernel
theorem dX7_isRest_29 : decode cX7_isRest 29 = .ok (.iload_n 3, 1) := by decide +kernel
theorem dX7_isRest_30 : decode cX7_isRest 30 = .ok (.iconst 0, 1) := by decide +kernel
theorem dX7_isRest_31 : decode cX7_isRest 31 = .ok (.invokevirtual 416, 3) := by decide +kernel
theorem dX7_isRest_34 : decode cX7_isRest 34 = .ok (.if_icmp .gt 27, 3) := by decide +kernel
theorem dX7_isRest_37 : decode cX7_isRest 37 = .ok (.aload_n 0, 1) := by decide +kernel
theorem dX7_isRest_38 : decode cX7_isRest 38 = .ok (.iload_n 1, 1) := by decide +kernel
theorem dX7_isRest_39 : decode cX7_isRest 39 = .ok (.iload_n 2, 1) := by decide +kernel
theorem dX7_isRest_40 : decode cX7_isRest 40 = .ok (.iload 5, 2) := by decide +kernel
theorem dX7_isRest_42 : decode cX7_isRest 42 = .ok (.iconst 1, 1) := by decide +kernel
theorem dX7_isRest_43 : decode cX7_isRest 43 = .ok (.invokevirtual 416, 3) := by decide +kernel
theorem dX7_isRest_46 : decode cX7_isRest 46 = .ok (.aload_n 0, 1) := by decide +kernel
theorem dX7_isRest_47 : decode cX7_isRest 47 = .ok (.iload_n 1, 1) := by decide +kernel
theorem dX7_isRest_48 : decode cX7_isRest 48 = .ok (.iload_n 2, 1) := by decide +kernel
theorem dX7_isRest_49 : decode cX7_isRest 49 = .ok (.iload_n 3, 1) := by decide +kernel
theorem dX7_isRest_50 : decode cX7_isRest 50 = .ok (.iconst 1, 1) := by decide +kernel
theorem dX7_isRest_51 : decode cX7_isRest 51 = .ok (.invokevirtual 416, 3) := by decide +kernel
theorem dX7_isRest_54 : decode cX7_isRest 54 = .ok (.if_icmp .gt 7, 3) := by decide +kernel
theorem dX7_isRest_57 : decode cX7_isRest 57 = .ok (.iconst 1, 1) := by decide +kernel
theorem dX7_isRest_58 : decode cX7_isRest 58 = .ok (.goto 4, 3) := by decide +kernel
theorem dX7_isRest_61 : decode cX7_isRest 61 = .ok (.iconst 0, 1) := by decide +kernel
theorem dX7_isRest_62 : decode cX7_isRest 62 = .ok (.istore 4, 2) := by decide +kernel
theorem dX7_isRest_64 : decode cX7_isRest 64 = .ok (.iinc 5 1, 3) := by decide +kernel
theorem dX7_isRest_67 : decode cX7_isRest 67 = .ok (.goto (-61), 3) := by decide +kernel
theorem dX7_isRest_70 : decode cX7_isRest 70 = .ok (.iload 4, 2) := by decide +kernel
theorem dX7_isRest_72 : decode cX7_isRest 72 = .ok (.ireturn, 1) := by decide +kernel
def f_X7_isRest_l6 : am_F := am_th (i_il 5) (am_th (i_ic (4)) (am_br (b_2 (fun x y => decide (y < x))) (am_to 70) (am_th (i_il 4) (am_sq 62 (am_br (b_1 (fun x => decide (x = 0))) (am_th (i_ic (0)) (am_to 62)) (am_th (i_al 0) (am_th (i_il 1) (am_th (i_il 5) (am_th (i_il 3) (am_th (i_ic (0)) (am_th (i_cv 7 4 d_X7_gameOf) (am_th (i_al 0) (am_th (i_il 1) (am_th (i_il 2) (am_th (i_il 3) (am_th (i_ic (0)) (am_th (i_cv 7 4 d_X7_gameOf) (am_br (b_2 (fun x y => decide (y < x))) (am_th (i_ic (0)) (am_to 62)) (am_th (i_al 0) (am_th (i_il 1) (am_th (i_il 2) (am_th (i_il 5) (am_th (i_ic (1)) (am_th (i_cv 7 4 d_X7_gameOf) (am_th (i_al 0) (am_th (i_il 1) (am_th (i_il 2) (am_th (i_il 3) (am_th (i_ic (1)) (am_th (i_cv 7 4 d_X7_gameOf) (am_br (b_2 (fun x y => decide (y < x))) (am_th (i_ic (0)) (am_to 62)) (am_th (i_ic (1)) (am_to 62))))))))))))))))))))))))))))) (am_th (i_is 4) (am_th (i_inc 5 (1)) (am_to 6)))))))
def f_X7_isRest : am_F := am_th (i_ic (1)) (am_th (i_is 4) (am_th (i_ic (0)) (am_th (i_is 5) (am_sq 70 (am_lp 5000 6 f_X7_isRest_l6) (am_th (i_il 4) (r_z))))))
def d_X7_isRest : am_D := am_den 6 f_X7_isRest
set_option maxHeartbeats 4000000 in
set_option maxRecDepth 100000 in
theorem b_X7_isRest : am_Body yX7_isRest cX7_isRest 6 (some .boolean) 1 26 f_X7_isRest := by
  intro p l e R s m args below meth c g n0 z0 r0 u0 C hr hn
  have C : am_Cx p l e R s m args below meth c g RX7 cX7_isRest 6 n0 z0 (am_len u0) (am_wt u0) 1 26 := C
  have l6 : am_Snd (am_GM p l e R s m args below meth c g 6 n0 z0 r0 u0) (am_Rt r0 u0) 6 (f_X7_isRest_l6) := by
    unfold f_X7_isRest_l6
    exact (so_th (so_iload C dX7_isRest_6) (so_th (so_iconst C dX7_isRest_8 (by decide)) (so_br (so_icmp_gt C dX7_isRest_9 (by decide)) (so_to) (so_th (so_iload C dX7_isRest_12) (so_sq (so_br (so_if_eq C dX7_isRest_14 (by decide)) (so_th (so_iconst C dX7_isRest_61 (by decide)) (so_to)) (so_th (so_aload_n C dX7_isRest_17 rfl) (so_th (so_iload_n C dX7_isRest_18 rfl) (so_th (so_iload C dX7_isRest_19) (so_th (so_iload_n C dX7_isRest_21 rfl) (so_th (so_iconst C dX7_isRest_22 (by decide)) (so_th (so_cv C m_X7_gameOf rfl k_755 k_757 k_756 k_758 k_475 ⟨by decide, by decide, by decide +kernel⟩ (by decide) dX7_isRest_23) (so_th (so_aload_n C dX7_isRest_26 rfl) (so_th (so_iload_n C dX7_isRest_27 rfl) (so_th (so_iload_n C dX7_isRest_28 rfl) (so_th (so_iload_n C dX7_isRest_29 rfl) (so_th (so_iconst C dX7_isRest_30 (by decide)) (so_th (so_cv C m_X7_gameOf rfl k_755 k_757 k_756 k_758 k_475 ⟨by decide, by decide, by decide +kernel⟩ (by decide) dX7_isRest_31) (so_br (so_icmp_gt C dX7_isRest_34 (by decide)) (so_th (so_iconst C dX7_isRest_61 (by decide)) (so_to)) (so_th (so_aload_n C dX7_isRest_37 rfl) (so_th (so_iload_n C dX7_isRest_38 rfl) (so_th (so_iload_n C dX7_isRest_39 rfl) (so_th (so_iload C dX7_isRest_40) (so_th (so_iconst C dX7_isRest_42 (by decide)) (so_th (so_cv C m_X7_gameOf rfl k_755 k_757 k_756 k_758 k_475 ⟨by decide, by decide, by decide +kernel⟩ (by decide) dX7_isRest_43) (so_th (so_aload_n C dX7_isRest_46 rfl) (so_th (so_iload_n C dX7_isRest_47 rfl) (so_th (so_iload_n C dX7_isRest_48 rfl) (so_th (so_iload_n C dX7_isRest_49 rfl) (so_th (so_iconst C dX7_isRest_50 (by decide)) (so_th (so_cv C m_X7_gameOf rfl k_755 k_757 k_756 k_758 k_475 ⟨by decide, by decide, by decide +kernel⟩ (by decide) dX7_isRest_51) (so_br (so_icmp_gt C dX7_isRest_54 (by decide)) (so_th (so_iconst C dX7_isRest_61 (by decide)) (so_to)) (so_th (so_iconst C dX7_isRest_57 (by decide)) (so_goto C dX7_isRest_58 (by decide) (so_to)))))))))))))))))))))))))))))) (so_th (so_istore C dX7_isRest_62 (by decide)) (so_th (so_iinc C dX7_isRest_64 (by decide) (by decide)) (so_goto C dX7_isRest_67 (by decide) (so_to)))))))))
  unfold f_X7_isRest
  exact (so_th (so_iconst C dX7_isRest_0 (by decide)) (so_th (so_istore C dX7_isRest_1 (by decide)) (so_th (so_iconst C dX7_isRest_3 (by decide)) (so_th (so_istore C dX7_isRest_4 (by decide)) (so_sq (so_lp l6 5000) (so_th (so_iload C dX7_isRest_70) (so_rz C hr dX7_isRest_72)))))))
theorem m_X7_isRest : am_M yX7_isRest cX7_isRest 6 (some .boolean) 1 26 d_X7_isRest := am_M_of (by decide +kernel) b_X7_isRest
theorem dX7_seekRests_0 : decode cX7_seekRests 0 = .ok (.iconst 0, 1) := by decide +kernel
theorem dX7_seekRests_1 : decode cX7_seekRests 1 = .ok (.istore_n 2, 1) := by decide +kernel
theorem dX7_seekRests_2 : decode cX7_seekRests 2 = .ok (.aload_n 0, 1) := by decide +kernel
theorem dX7_seekRests_3 : decode cX7_seekRests 3 = .ok (.bipush (-2), 2) := by decide +kernel
theorem dX7_seekRests_5 : decode cX7_seekRests 5 = .ok (.putfield 420, 3) := by decide +kernel
theorem dX7_seekRests_8 : decode cX7_seekRests 8 = .ok (.iconst 0, 1) := by decide +kernel
theorem dX7_seekRests_9 : decode cX7_seekRests 9 = .ok (.istore_n 3, 1) := by decide +kernel
theorem dX7_seekRests_10 : decode cX7_seekRests 10 = .ok (.iload_n 3, 1) := by decide +kernel
theorem dX7_seekRests_11 : decode cX7_seekRests 11 = .ok (.iconst 4, 1) := by decide +kernel
theorem dX7_seekRests_12 : decode cX7_seekRests 12 = .ok (.if_icmp .gt 56, 3) := by decide +kernel
theorem dX7_seekRests_15 : decode cX7_seekRests 15 = .ok (.iconst 0, 1) := by decide +kernel
theorem dX7_seekRests_16 : decode cX7_seekRests 16 = .ok (.istore 4, 2) := by decide +kernel
theorem dX7_seekRests_18 : decode cX7_seekRests 18 = .ok (.iload 4, 2) := by decide +kernel
theorem dX7_seekRests_20 : decode cX7_seekRests 20 = .ok (.iconst 4, 1) := by decide +kernel
theorem dX7_seekRests_21 : decode cX7_seekRests 21 = .ok (.if_icmp .gt 41, 3) := by decide +kernel
theorem dX7_seekRests_24 : decode cX7_seekRests 24 = .ok (.aload_n 0, 1) := by decide +kernel
theorem dX7_seekRests_25 : decode cX7_seekRests 25 = .ok (.iload_n 1, 1) := by decide +kernel
theorem dX7_seekRests_26 : decode cX7_seekRests 26 = .ok (.iload_n 3, 1) := by decide +kernel
theorem dX7_seekRests_27 : decode cX7_seekRests 27 = .ok (.iload 4, 2) := by decide +kernel
theorem dX7_seekRests_29 : decode cX7_seekRests 29 = .ok (.invokevirtual 423, 3) := by decide +kernel
theorem dX7_seekRests_32 : decode cX7_seekRests 32 = .ok (.ifCond .ne 6, 3) := by decide +kernel
theorem dX7_seekRests_35 : decode cX7_seekRests 35 = .ok (.goto 21, 3) := by decide +kernel
theorem dX7_seekRests_38 : decode cX7_seekRests 38 = .ok (.iload_n 2, 1) := by decide +kernel
theorem dX7_seekRests_39 : decode cX7_seekRests 39 = .ok (.ifCond .ne 14, 3) := by decide +kernel
theorem dX7_seekRests_42 : decode cX7_seekRests 42 = .ok (.aload_n 0, 1) := by decide +kernel
theorem dX7_seekRests_43 : decode cX7_seekRests 43 = .ok (.bipush 10, 2) := by decide +kernel
theorem dX7_seekRests_45 : decode cX7_seekRests 45 = .ok (.iload_n 3, 1) := by decide +kernel
theorem dX7_seekRests_46 : decode cX7_seekRests 46 = .ok (.imul, 1) := by decide +kernel
theorem dX7_seekRests_47 : decode cX7_seekRests 47 = .ok (.iload 4, 2) := by decide +kernel
theorem dX7_seekRests_49 : decode cX7_seekRests 49 = .ok (.iadd, 1) := by decide +kernel
theorem dX7_seekRests_50 : decode cX7_seekRests 50 = .ok (.putfield 420, 3) := by decide +kernel
theorem dX7_seekRests_53 : decode cX7_seekRests 53 = .ok (.iinc 2 1, 3) := by decide +kernel
theorem dX7_seekRests_56 : decode cX7_seekRests 56 = .ok (.iinc 4 1, 3) := by decide +kernel
theorem dX7_seekRests_59 : decode cX7_seekRests 59 = .ok (.goto (-41), 3) := by decide +kernel
theorem dX7_seekRests_62 : decode cX7_seekRests 62 = .ok (.iinc 3 1, 3) := by decide +kernel
theorem dX7_seekRests_65 : decode cX7_seekRests 65 = .ok (.goto (-55), 3) := by decide +kernel
theorem dX7_seekRests_68 : decode cX7_seekRests 68 = .ok (.iload_n 2, 1) := by decide +kernel
theorem dX7_seekRests_69 : decode cX7_seekRests 69 = .ok (.ireturn, 1) := by decide +kernel
def f_X7_seekRests_l18 : am_F := am_th (i_il 4) (am_th (i_ic (4)) (am_br (b_2 (fun x y => decide (y < x))) (am_th (i_inc 3 (1)) (am_to 10)) (am_th (i_al 0) (am_th (i_il 1) (am_th (i_il 3) (am_th (i_il 4) (am_th (i_cv 7 3 d_X7_isRest) (am_sq 56 (am_br (b_1 (fun x => decide (¬ x = 0))) (am_th (i_il 2) (am_sq 53 (am_br (b_1 (fun x => decide (¬ x = 0))) (am_to 53) (am_th (i_al 0) (am_th (i_ic (10)) (am_th (i_il 3) (am_th (i_2 (fun x y => x * y)) (am_th (i_il 4) (am_th (i_2 (fun x y => x + y)) (am_th (i_pi 7 35) (am_to 53))))))))) (am_th (i_inc 2 (1)) (am_to 56)))) (am_to 56)) (am_th (i_inc 4 (1)) (am_to 18))))))))))
def f_X7_seekRests_l10 : am_F := am_th (i_il 3) (am_th (i_ic (4)) (am_br (b_2 (fun x y => decide (y < x))) (am_to 68) (am_th (i_ic (0)) (am_th (i_is 4) (am_lp 5000 18 f_X7_seekRests_l18)))))
def f_X7_seekRests : am_F := am_th (i_ic (0)) (am_th (i_is 2) (am_th (i_al 0) (am_th (i_ic (-2)) (am_th (i_pi 7 35) (am_th (i_ic (0)) (am_th (i_is 3) (am_sq 68 (am_lp 5000 10 f_X7_seekRests_l10) (am_th (i_il 2) (r_i)))))))))
def d_X7_seekRests : am_D := am_den 5 f_X7_seekRests
set_option maxHeartbeats 4000000 in
set_option maxRecDepth 100000 in
theorem b_X7_seekRests : am_Body yX7_seekRests cX7_seekRests 5 (some .int) 2 51 f_X7_seekRests := by
  intro p l e R s m args below meth c g n0 z0 r0 u0 C hr hn
  have C : am_Cx p l e R s m args below meth c g RX7 cX7_seekRests 5 n0 z0 (am_len u0) (am_wt u0) 2 51 := C
  have l18 : am_Snd (am_GM p l e R s m args below meth c g 5 n0 z0 r0 u0) (am_Rt r0 u0) 18 (f_X7_seekRests_l18) := by
    unfold f_X7_seekRests_l18
    exact (so_th (so_iload C dX7_seekRests_18) (so_th (so_iconst C dX7_seekRests_20 (by decide)) (so_br (so_icmp_gt C dX7_seekRests_21 (by decide)) (so_th (so_iinc C dX7_seekRests_62 (by decide) (by decide)) (so_goto C dX7_seekRests_65 (by decide) (so_to))) (so_th (so_aload_n C dX7_seekRests_24 rfl) (so_th (so_iload_n C dX7_seekRests_25 rfl) (so_th (so_iload_n C dX7_seekRests_26 rfl) (so_th (so_iload C dX7_seekRests_27) (so_th (so_cv C m_X7_isRest rfl k_759 k_761 k_760 k_762 k_475 ⟨by decide, by decide, by decide +kernel⟩ (by decide) dX7_seekRests_29) (so_sq (so_br (so_if_ne C dX7_seekRests_32 (by decide)) (so_th (so_iload_n C dX7_seekRests_38 rfl) (so_sq (so_br (so_if_ne C dX7_seekRests_39 (by decide)) (so_to) (so_th (so_aload_n C dX7_seekRests_42 rfl) (so_th (so_bipush C dX7_seekRests_43 (by decide)) (so_th (so_iload_n C dX7_seekRests_45 rfl) (so_th (so_imul C dX7_seekRests_46) (so_th (so_iload C dX7_seekRests_47) (so_th (so_iadd C dX7_seekRests_49) (so_th (so_puti C fl_RX7_420 fp_7 (Or.inl rfl) dX7_seekRests_50) (so_to))))))))) (so_th (so_iinc C dX7_seekRests_53 (by decide) (by decide)) (so_to)))) (so_goto C dX7_seekRests_35 (by decide) (so_to))) (so_th (so_iinc C dX7_seekRests_56 (by decide) (by decide)) (so_goto C dX7_seekRests_59 (by decide) (so_to))))))))))))
  have l10 : am_Snd (am_GM p l e R s m args below meth c g 5 n0 z0 r0 u0) (am_Rt r0 u0) 10 (f_X7_seekRests_l10) := by
    unfold f_X7_seekRests_l10
    exact (so_th (so_iload_n C dX7_seekRests_10 rfl) (so_th (so_iconst C dX7_seekRests_11 (by decide)) (so_br (so_icmp_gt C dX7_seekRests_12 (by decide)) (so_to) (so_th (so_iconst C dX7_seekRests_15 (by decide)) (so_th (so_istore C dX7_seekRests_16 (by decide)) (so_lp l18 5000))))))
  unfold f_X7_seekRests
  exact (so_th (so_iconst C dX7_seekRests_0 (by decide)) (so_th (so_istore_n C dX7_seekRests_1 rfl (by decide)) (so_th (so_aload_n C dX7_seekRests_2 rfl) (so_th (so_bipush C dX7_seekRests_3 (by decide)) (so_th (so_puti C fl_RX7_420 fp_7 (Or.inl rfl) dX7_seekRests_5) (so_th (so_iconst C dX7_seekRests_8 (by decide)) (so_th (so_istore_n C dX7_seekRests_9 rfl (by decide)) (so_sq (so_lp l10 5000) (so_th (so_iload_n C dX7_seekRests_68 rfl) (so_ri C hr dX7_seekRests_69))))))))))
theorem m_X7_seekRests : am_M yX7_seekRests cX7_seekRests 5 (some .int) 2 51 d_X7_seekRests := am_M_of (by decide +kernel) b_X7_seekRests
theorem dX7_rests_0 : decode cX7_rests 0 = .ok (.aload_n 0, 1) := by decide +kernel
theorem dX7_rests_1 : decode cX7_rests 1 = .ok (.invokevirtual 189, 3) := by decide +kernel
theorem dX7_rests_4 : decode cX7_rests 4 = .ok (.aload_n 0, 1) := by decide +kernel
theorem dX7_rests_5 : decode cX7_rests 5 = .ok (.iload_n 1, 1) := by decide +kernel
theorem dX7_rests_6 : decode cX7_rests 6 = .ok (.invokevirtual 348, 3) := by decide +kernel
theorem dX7_rests_9 : decode cX7_rests 9 = .ok (.ifCond .eq 11, 3) := by decide +kernel
theorem dX7_rests_12 : decode cX7_rests 12 = .ok (.aload_n 0, 1) := by decide +kernel
theorem dX7_rests_13 : decode cX7_rests 13 = .ok (.iload_n 1, 1) := by decide +kernel
theorem dX7_rests_14 : decode cX7_rests 14 = .ok (.invokevirtual 426, 3) := by decide +kernel
theorem dX7_rests_17 : decode cX7_rests 17 = .ok (.goto 8, 3) := by decide +kernel
theorem dX7_rests_20 : decode cX7_rests 20 = .ok (.aload_n 0, 1) := by decide +kernel
theorem dX7_rests_21 : decode cX7_rests 21 = .ok (.iconst 1, 1) := by decide +kernel
theorem dX7_rests_22 : decode cX7_rests 22 = .ok (.invokevirtual 192, 3) := by decide +kernel
theorem dX7_rests_25 : decode cX7_rests 25 = .ok (.ireturn, 1) := by decide +kernel
def f_X7_rests : am_F := am_th (i_al 0) (am_th (i_cv 7 0 d_X7_good) (am_th (i_al 0) (am_th (i_il 1) (am_th (i_cv 7 1 d_X7_isStanding) (am_br (b_1 (fun x => decide (x = 0))) (am_th (i_al 0) (am_th (i_ic (1)) (am_th (i_cv 7 1 d_X7_no) (r_i)))) (am_th (i_al 0) (am_th (i_il 1) (am_th (i_cv 7 1 d_X7_seekRests) (r_i)))))))))
def d_X7_rests : am_D := am_den 2 f_X7_rests
set_option maxHeartbeats 4000000 in
set_option maxRecDepth 100000 in
theorem b_X7_rests : am_Body yX7_rests cX7_rests 2 (some .int) 3 75 f_X7_rests := by
  intro p l e R s m args below meth c g n0 z0 r0 u0 C hr hn
  have C : am_Cx p l e R s m args below meth c g RX7 cX7_rests 2 n0 z0 (am_len u0) (am_wt u0) 3 75 := C
  unfold f_X7_rests
  exact (so_th (so_aload_n C dX7_rests_0 rfl) (so_th (so_cv C m_X7_good rfl k_594 k_596 k_595 k_597 k_475 ⟨by decide, by decide, by decide +kernel⟩ (by decide) dX7_rests_1) (so_th (so_aload_n C dX7_rests_4 rfl) (so_th (so_iload_n C dX7_rests_5 rfl) (so_th (so_cv C m_X7_isStanding rfl k_690 k_692 k_691 k_693 k_475 ⟨by decide, by decide, by decide +kernel⟩ (by decide) dX7_rests_6) (so_br (so_if_eq C dX7_rests_9 (by decide)) (so_th (so_aload_n C dX7_rests_20 rfl) (so_th (so_iconst C dX7_rests_21 (by decide)) (so_th (so_cv C m_X7_no rfl k_609 k_611 k_610 k_612 k_475 ⟨by decide, by decide, by decide +kernel⟩ (by decide) dX7_rests_22) (so_ri C hr dX7_rests_25)))) (so_th (so_aload_n C dX7_rests_12 rfl) (so_th (so_iload_n C dX7_rests_13 rfl) (so_th (so_cv C m_X7_seekRests rfl k_763 k_765 k_764 k_766 k_475 ⟨by decide, by decide, by decide +kernel⟩ (by decide) dX7_rests_14) (so_goto C dX7_rests_17 (by decide) (so_ri C hr dX7_rests_25)))))))))))
theorem m_X7_rests : am_M yX7_rests cX7_rests 2 (some .int) 3 75 d_X7_rests := am_M_of (by decide +kernel) b_X7_rests
theorem dX7_rest_0 : decode cX7_rest 0 = .ok (.aload_n 0, 1) := by decide +kernel
theorem dX7_rest_1 : decode cX7_rest 1 = .ok (.invokevirtual 189, 3) := by decide +kernel
theorem dX7_rest_4 : decode cX7_rest 4 = .ok (.aload_n 0, 1) := by decide +kernel
theorem dX7_rest_5 : decode cX7_rest 5 = .ok (.iload_n 1, 1) := by decide +kernel
theorem dX7_rest_6 : decode cX7_rest 6 = .ok (.invokevirtual 348, 3) := by decide +kernel
theorem dX7_rest_9 : decode cX7_rest 9 = .ok (.ifCond .ne 9, 3) := by decide +kernel
theorem dX7_rest_12 : decode cX7_rest 12 = .ok (.aload_n 0, 1) := by decide +kernel
theorem dX7_rest_13 : decode cX7_rest 13 = .ok (.iconst 1, 1) := by decide +kernel
theorem dX7_rest_14 : decode cX7_rest 14 = .ok (.invokevirtual 192, 3) := by decide +kernel
theorem dX7_rest_17 : decode cX7_rest 17 = .ok (.ireturn, 1) := by decide +kernel
theorem dX7_rest_18 : decode cX7_rest 18 = .ok (.aload_n 0, 1) := by decide +kernel
theorem dX7_rest_19 : decode cX7_rest 19 = .ok (.iload_n 1, 1) := by decide +kernel
theorem dX7_rest_20 : decode cX7_rest 20 = .ok (.invokevirtual 426, 3) := by decide +kernel
theorem dX7_rest_23 : decode cX7_rest 23 = .ok (.pop, 1) := by decide +kernel
theorem dX7_rest_24 : decode cX7_rest 24 = .ok (.aload_n 0, 1) := by decide +kernel
theorem dX7_rest_25 : decode cX7_rest 25 = .ok (.getfield 420, 3) := by decide +kernel
theorem dX7_rest_28 : decode cX7_rest 28 = .ok (.ireturn, 1) := by decide +kernel
def f_X7_rest : am_F := am_th (i_al 0) (am_th (i_cv 7 0 d_X7_good) (am_th (i_al 0) (am_th (i_il 1) (am_th (i_cv 7 1 d_X7_isStanding) (am_br (b_1 (fun x => decide (¬ x = 0))) (am_th (i_al 0) (am_th (i_il 1) (am_th (i_cv 7 1 d_X7_seekRests) (am_th (i_pop) (am_th (i_al 0) (am_th (i_gi 7 35) (r_i))))))) (am_th (i_al 0) (am_th (i_ic (1)) (am_th (i_cv 7 1 d_X7_no) (r_i)))))))))
def d_X7_rest : am_D := am_den 2 f_X7_rest
set_option maxHeartbeats 4000000 in
set_option maxRecDepth 100000 in
theorem b_X7_rest : am_Body yX7_rest cX7_rest 2 (some .int) 3 75 f_X7_rest := by
  intro p l e R s m args below meth c g n0 z0 r0 u0 C hr hn
  have C : am_Cx p l e R s m args below meth c g RX7 cX7_rest 2 n0 z0 (am_len u0) (am_wt u0) 3 75 := C
  unfold f_X7_rest
  exact (so_th (so_aload_n C dX7_rest_0 rfl) (so_th (so_cv C m_X7_good rfl k_594 k_596 k_595 k_597 k_475 ⟨by decide, by decide, by decide +kernel⟩ (by decide) dX7_rest_1) (so_th (so_aload_n C dX7_rest_4 rfl) (so_th (so_iload_n C dX7_rest_5 rfl) (so_th (so_cv C m_X7_isStanding rfl k_690 k_692 k_691 k_693 k_475 ⟨by decide, by decide, by decide +kernel⟩ (by decide) dX7_rest_6) (so_br (so_if_ne C dX7_rest_9 (by decide)) (so_th (so_aload_n C dX7_rest_18 rfl) (so_th (so_iload_n C dX7_rest_19 rfl) (so_th (so_cv C m_X7_seekRests rfl k_763 k_765 k_764 k_766 k_475 ⟨by decide, by decide, by decide +kernel⟩ (by decide) dX7_rest_20) (so_th (so_pop C dX7_rest_23) (so_th (so_aload_n C dX7_rest_24 rfl) (so_th (so_geti C fl_RX7_420 (by decide) dX7_rest_25) (so_ri C hr dX7_rest_28))))))) (so_th (so_aload_n C dX7_rest_12 rfl) (so_th (so_iconst C dX7_rest_13 (by decide)) (so_th (so_cv C m_X7_no rfl k_609 k_611 k_610 k_612 k_475 ⟨by decide, by decide, by decide +kernel⟩ (by decide) dX7_rest_14) (so_ri C hr dX7_rest_17))))))))))
theorem m_X7_rest : am_M yX7_rest cX7_rest 2 (some .int) 3 75 d_X7_rest := am_M_of (by decide +kernel) b_X7_rest
theorem dX7_explains_0 : decode cX7_explains 0 = .ok (.iconst 0, 1) := by decide +kernel
theorem dX7_explains_1 : decode cX7_explains 1 = .ok (.istore_n 2, 1) := by decide +kernel
theorem dX7_explains_2 : decode cX7_explains 2 = .ok (.iload_n 2, 1) := by decide +kernel
theorem dX7_explains_3 : decode cX7_explains 3 = .ok (.bipush 24, 2) := by decide +kernel
theorem dX7_explains_5 : decode cX7_explains 5 = .ok (.if_icmp .ge 86, 3) := by decide +kernel
theorem dX7_explains_8 : decode cX7_explains 8 = .ok (.iconst 0, 1) := by decide +kernel
theorem dX7_explains_9 : decode cX7_explains 9 = .ok (.istore_n 3, 1) := by decide +kernel
theorem dX7_explains_10 : decode cX7_explains 10 = .ok (.iconst 0, 1) := by decide +kernel
theorem dX7_explains_11 : decode cX7_explains 11 = .ok (.istore 4, 2) := by decide +kernel
theorem dX7_explains_13 : decode cX7_explains 13 = .ok (.iload 4, 2) := by decide +kernel
theorem dX7_explains_15 : decode cX7_explains 15 = .ok (.aload_n 0, 1) := by decide +kernel
theorem dX7_explains_16 : decode cX7_explains 16 = .ok (.getfield 20, 3) := by decide +kernel
theorem dX7_explains_19 : decode cX7_explains 19 = .ok (.bipush 10, 2) := by decide +kernel
theorem dX7_explains_21 : decode cX7_explains 21 = .ok (.iaload, 1) := by decide +kernel
theorem dX7_explains_22 : decode cX7_explains 22 = .ok (.if_icmp .ge 52, 3) := by decide +kernel
theorem dX7_explains_25 : decode cX7_explains 25 = .ok (.iload_n 3, 1) := by decide +kernel
theorem dX7_explains_26 : decode cX7_explains 26 = .ok (.aload_n 0, 1) := by decide +kernel
theorem dX7_explains_27 : decode cX7_explains 27 = .ok (.getfield 20, 3) := by decide +kernel
theorem dX7_explains_30 : decode cX7_explains 30 = .ok (.bipush 100, 2) := by decide +kernel
theorem dX7_explains_32 : decode cX7_explains 32 = .ok (.iconst 2, 1) := by decide +kernel
theorem dX7_explains_33 : decode cX7_explains 33 = .ok (.iload 4, 2) := by decide +kernel
theorem dX7_explains_35 : decode cX7_explains 35 = .ok (.imul, 1) := by decide +kernel
theorem dX7_explains_36 : decode cX7_explains 36 = .ok (.iadd, 1) := by decide +kernel
theorem dX7_explains_37 : decode cX7_explains 37 = .ok (.iconst 1, 1) := by decide +kernel
theorem dX7_explains_38 : decode cX7_explains 38 = .ok (.iadd, 1) := by decide +kernel
theorem dX7_explains_39 : decode cX7_explains 39 = .ok (.iaload, 1) := by decide +kernel
theorem dX7_explains_40 : decode cX7_explains 40 = .ok (.iload_n 2, 1) := by decide +kernel
theorem dX7_explains_41 : decode cX7_explains 41 = .ok (.if_icmp .ne 24, 3) := by decide +kernel
theorem dX7_explains_44 : decode cX7_explains 44 = .ok (.iconst 1, 1) := by decide +kernel
theorem dX7_explains_45 : decode cX7_explains 45 = .ok (.aload_n 1, 1) := by decide +kernel
theorem dX7_explains_46 : decode cX7_explains 46 = .ok (.aload_n 0, 1) := by decide +kernel
theorem dX7_explains_47 : decode cX7_explains 47 = .ok (.getfield 20, 3) := by decide +kernel
theorem dX7_explains_50 : decode cX7_explains 50 = .ok (.bipush 100, 2) := by decide +kernel
theorem dX7_explains_52 : decode cX7_explains 52 = .ok (.iconst 2, 1) := by decide +kernel
theorem dX7_explains_53 : decode cX7_explains 53 = .ok (.iload 4, 2) := by decide +kernel
theorem dX7_explains_55 : decode cX7_explains 55 = .ok (.imul, 1) := by decide +kernel
theorem dX7_explains_56 : decode cX7_explains 56 = .ok (.iadd, 1) := by decide +kernel
theorem dX7_explains_57 : decode cX7_explains 57 = .ok (.iaload, 1) := by decide +kernel
theorem dX7_explains_58 : decode cX7_explains 58 = .ok (.invokestatic 282, 3) := by decide +kernel
theorem dX7_explains_61 : decode cX7_explains 61 = .ok (.ishl, 1) := by decide +kernel
theorem dX7_explains_62 : decode cX7_explains 62 = .ok (.goto 4, 3) := by decide +kernel
theorem dX7_explains_65 : decode cX7_explains 65 = .ok (.iconst 0, 1) := by decide +kernel
theorem dX7_explains_66 : decode cX7_explains 66 = .ok (.ior, 1) := by decide +kernel
theorem dX7_explains_67 : decode cX7_explains 67 = .ok (.istore_n 3, 1) := by decide +kernel
theorem dX7_explains_68 : decode cX7_explains 68 = .ok (.iinc 4 1, 3) := by decide +kernel
theorem dX7_explains_71 : decode cX7_explains 71 = .ok (.goto (-58), 3) := by decide +kernel
theorem dX7_explains_74 : decode cX7_explains 74 = .ok (.aload_n 0, 1) := by decide +kernel
theorem dX7_explains_75 : decode cX7_explains 75 = .ok (.aload_n 1, 1) := by decide +kernel
theorem dX7_explains_76 : decode cX7_explains 76 = .ok (.invokevirtual 311, 3) := by decide +kernel
theorem dX7_explains_79 : decode cX7_explains 79 = .ok (.iload_n 3, 1) := by decide +kernel
theorem dX7_explains_80 : decode cX7_explains 80 = .ok (.if_icmp .eq 5, 3) := by decide +kernel
theorem dX7_explains_83 : decode cX7_explains 83 = .ok (.iconst 0, 1) := by decide +kernel
theorem dX7_explains_84 : decode cX7_explains 84 = .ok (.ireturn, 1) := by decide +kernel
theorem dX7_explains_85 : decode cX7_explains 85 = .ok (.iinc 2 1, 3) := by decide +kernel
theorem dX7_explains_88 : decode cX7_explains 88 = .ok (.goto (-86), 3) := by decide +kernel
theorem dX7_explains_91 : decode cX7_explains 91 = .ok (.iconst 1, 1) := by decide +kernel
theorem dX7_explains_92 : decode cX7_explains 92 = .ok (.ireturn, 1) := by decide +kernel
def f_X7_explains_l13 : am_F := am_th (i_il 4) (am_th (i_al 0) (am_th (i_gr 7 15) (am_th (i_ic (10)) (am_th (i_ia 0) (am_br (b_2 (fun x y => decide (y ≤ x))) (am_th (i_al 0) (am_th (i_al 1) (am_th (i_cv 7 1 d_X7_seasonAsTold) (am_th (i_il 3) (am_br (b_2 (fun x y => decide (x = y))) (am_th (i_inc 2 (1)) (am_to 2)) (am_th (i_ic (0)) (r_z))))))) (am_th (i_il 3) (am_th (i_al 0) (am_th (i_gr 7 15) (am_th (i_ic (100)) (am_th (i_ic (2)) (am_th (i_il 4) (am_th (i_2 (fun x y => x * y)) (am_th (i_2 (fun x y => x + y)) (am_th (i_ic (1)) (am_th (i_2 (fun x y => x + y)) (am_th (i_ia 0) (am_th (i_il 2) (am_sq 66 (am_br (b_2 (fun x y => decide (¬ x = y))) (am_th (i_ic (0)) (am_to 66)) (am_th (i_ic (1)) (am_th (i_al 1) (am_th (i_al 0) (am_th (i_gr 7 15) (am_th (i_ic (100)) (am_th (i_ic (2)) (am_th (i_il 4) (am_th (i_2 (fun x y => x * y)) (am_th (i_2 (fun x y => x + y)) (am_th (i_ia 0) (am_th (i_cs 2 d_X7_rootOf) (am_th (i_2 (fun x y => x <<< (y &&& 31))) (am_to 66)))))))))))))) (am_th (i_2 (fun x y => x ||| y)) (am_th (i_is 3) (am_th (i_inc 4 (1)) (am_to 13))))))))))))))))))))))
def f_X7_explains_l2 : am_F := am_th (i_il 2) (am_th (i_ic (24)) (am_br (b_2 (fun x y => decide (y ≤ x))) (am_to 91) (am_th (i_ic (0)) (am_th (i_is 3) (am_th (i_ic (0)) (am_th (i_is 4) (am_lp 5000 13 f_X7_explains_l13)))))))
def f_X7_explains : am_F := am_th (i_ic (0)) (am_th (i_is 2) (am_sq 91 (am_lp 5000 2 f_X7_explains_l2) (am_th (i_ic (1)) (r_z))))
def d_X7_explains : am_D := am_den 5 f_X7_explains
set_option maxHeartbeats 4000000 in
set_option maxRecDepth 100000 in
theorem b_X7_explains : am_Body yX7_explains cX7_explains 5 (some .boolean) 5 114 f_X7_explains := by
  intro p l e R s m args below meth c g n0 z0 r0 u0 C hr hn
  have C : am_Cx p l e R s m args below meth c g RX7 cX7_explains 5 n0 z0 (am_len u0) (am_wt u0) 5 114 := C
  have l13 : am_Snd (am_GM p l e R s m args below meth c g 5 n0 z0 r0 u0) (am_Rt r0 u0) 13 (f_X7_explains_l13) := by
    unfold f_X7_explains_l13
    exact (so_th (so_iload C dX7_explains_13) (so_th (so_aload_n C dX7_explains_15 rfl) (so_th (so_getr C fl_RX7_20 dX7_explains_16) (so_th (so_bipush C dX7_explains_19 (by decide)) (so_th (so_iald C dX7_explains_21) (so_br (so_icmp_ge C dX7_explains_22 (by decide)) (so_th (so_aload_n C dX7_explains_74 rfl) (so_th (so_aload_n C dX7_explains_75 rfl) (so_th (so_cv C m_X7_seasonAsTold rfl k_646 k_648 k_647 k_649 k_475 ⟨by decide, by decide, by decide +kernel⟩ (by decide) dX7_explains_76) (so_th (so_iload_n C dX7_explains_79 rfl) (so_br (so_icmp_eq C dX7_explains_80 (by decide)) (so_th (so_iinc C dX7_explains_85 (by decide) (by decide)) (so_goto C dX7_explains_88 (by decide) (so_to))) (so_th (so_iconst C dX7_explains_83 (by decide)) (so_rz C hr dX7_explains_84))))))) (so_th (so_iload_n C dX7_explains_25 rfl) (so_th (so_aload_n C dX7_explains_26 rfl) (so_th (so_getr C fl_RX7_20 dX7_explains_27) (so_th (so_bipush C dX7_explains_30 (by decide)) (so_th (so_iconst C dX7_explains_32 (by decide)) (so_th (so_iload C dX7_explains_33) (so_th (so_imul C dX7_explains_35) (so_th (so_iadd C dX7_explains_36) (so_th (so_iconst C dX7_explains_37 (by decide)) (so_th (so_iadd C dX7_explains_38) (so_th (so_iald C dX7_explains_39) (so_th (so_iload_n C dX7_explains_40 rfl) (so_sq (so_br (so_icmp_ne C dX7_explains_41 (by decide)) (so_th (so_iconst C dX7_explains_65 (by decide)) (so_to)) (so_th (so_iconst C dX7_explains_44 (by decide)) (so_th (so_aload_n C dX7_explains_45 rfl) (so_th (so_aload_n C dX7_explains_46 rfl) (so_th (so_getr C fl_RX7_20 dX7_explains_47) (so_th (so_bipush C dX7_explains_50 (by decide)) (so_th (so_iconst C dX7_explains_52 (by decide)) (so_th (so_iload C dX7_explains_53) (so_th (so_imul C dX7_explains_55) (so_th (so_iadd C dX7_explains_56) (so_th (so_iald C dX7_explains_57) (so_th (so_cs C m_X7_rootOf k_616 k_618 k_617 k_475 ⟨by decide, by decide, by decide +kernel⟩ (by decide) dX7_explains_58) (so_th (so_ishl C dX7_explains_61) (so_goto C dX7_explains_62 (by decide) (so_to))))))))))))))) (so_th (so_ior C dX7_explains_66) (so_th (so_istore_n C dX7_explains_67 rfl (by decide)) (so_th (so_iinc C dX7_explains_68 (by decide) (by decide)) (so_goto C dX7_explains_71 (by decide) (so_to))))))))))))))))))))))))
  have l2 : am_Snd (am_GM p l e R s m args below meth c g 5 n0 z0 r0 u0) (am_Rt r0 u0) 2 (f_X7_explains_l2) := by
    unfold f_X7_explains_l2
    exact (so_th (so_iload_n C dX7_explains_2 rfl) (so_th (so_bipush C dX7_explains_3 (by decide)) (so_br (so_icmp_ge C dX7_explains_5 (by decide)) (so_to) (so_th (so_iconst C dX7_explains_8 (by decide)) (so_th (so_istore_n C dX7_explains_9 rfl (by decide)) (so_th (so_iconst C dX7_explains_10 (by decide)) (so_th (so_istore C dX7_explains_11 (by decide)) (so_lp l13 5000))))))))
  unfold f_X7_explains
  exact (so_th (so_iconst C dX7_explains_0 (by decide)) (so_th (so_istore_n C dX7_explains_1 rfl (by decide)) (so_sq (so_lp l2 5000) (so_th (so_iconst C dX7_explains_91 (by decide)) (so_rz C hr dX7_explains_92)))))
theorem m_X7_explains : am_M yX7_explains cX7_explains 5 (some .boolean) 5 114 d_X7_explains := am_M_of (by decide +kernel) b_X7_explains
theorem dX7_seekWays_0 : decode cX7_seekWays 0 = .ok (.iconst 0, 1) := by decide +kernel
theorem dX7_seekWays_1 : decode cX7_seekWays 1 = .ok (.istore_n 1, 1) := by decide +kernel
theorem dX7_seekWays_2 : decode cX7_seekWays 2 = .ok (.aload_n 0, 1) := by decide +kernel
theorem dX7_seekWays_3 : decode cX7_seekWays 3 = .ok (.aload_n 0, 1) := by decide +kernel
theorem dX7_seekWays_4 : decode cX7_seekWays 4 = .ok (.getfield 38, 3) := by decide +kernel
theorem dX7_seekWays_7 : decode cX7_seekWays 7 = .ok (.invokevirtual 202, 3) := by decide +kernel
theorem dX7_seekWays_10 : decode cX7_seekWays 10 = .ok (.aload_n 0, 1) := by decide +kernel
theorem dX7_seekWays_11 : decode cX7_seekWays 11 = .ok (.aload_n 0, 1) := by decide +kernel
theorem dX7_seekWays_12 : decode cX7_seekWays 12 = .ok (.getfield 38, 3) := by decide +kernel
theorem dX7_seekWays_15 : decode cX7_seekWays 15 = .ok (.invokevirtual 429, 3) := by decide +kernel
theorem dX7_seekWays_18 : decode cX7_seekWays 18 = .ok (.ifCond .eq 13, 3) := by decide +kernel
theorem dX7_seekWays_21 : decode cX7_seekWays 21 = .ok (.aload_n 0, 1) := by decide +kernel
theorem dX7_seekWays_22 : decode cX7_seekWays 22 = .ok (.getfield 65, 3) := by decide +kernel
theorem dX7_seekWays_25 : decode cX7_seekWays 25 = .ok (.iconst 0, 1) := by decide +kernel
theorem dX7_seekWays_26 : decode cX7_seekWays 26 = .ok (.bipush (-2), 2) := by decide +kernel
theorem dX7_seekWays_28 : decode cX7_seekWays 28 = .ok (.iastore, 1) := by decide +kernel
theorem dX7_seekWays_29 : decode cX7_seekWays 29 = .ok (.iconst 1, 1) := by decide +kernel
theorem dX7_seekWays_30 : decode cX7_seekWays 30 = .ok (.istore_n 1, 1) := by decide +kernel
theorem dX7_seekWays_31 : decode cX7_seekWays 31 = .ok (.iconst 0, 1) := by decide +kernel
theorem dX7_seekWays_32 : decode cX7_seekWays 32 = .ok (.istore_n 2, 1) := by decide +kernel
theorem dX7_seekWays_33 : decode cX7_seekWays 33 = .ok (.iload_n 2, 1) := by decide +kernel
theorem dX7_seekWays_34 : decode cX7_seekWays 34 = .ok (.aload_n 0, 1) := by decide +kernel
theorem dX7_seekWays_35 : decode cX7_seekWays 35 = .ok (.getfield 20, 3) := by decide +kernel
theorem dX7_seekWays_38 : decode cX7_seekWays 38 = .ok (.bipush 7, 2) := by decide +kernel
theorem dX7_seekWays_40 : decode cX7_seekWays 40 = .ok (.iaload, 1) := by decide +kernel
theorem dX7_seekWays_41 : decode cX7_seekWays 41 = .ok (.if_icmp .ge 91, 3) := by decide +kernel
theorem dX7_seekWays_44 : decode cX7_seekWays 44 = .ok (.iconst 0, 1) := by decide +kernel
theorem dX7_seekWays_45 : decode cX7_seekWays 45 = .ok (.istore_n 3, 1) := by decide +kernel
theorem dX7_seekWays_46 : decode cX7_seekWays 46 = .ok (.iload_n 3, 1) := by decide +kernel
theorem dX7_seekWays_47 : decode cX7_seekWays 47 = .ok (.aload_n 0, 1) := by decide +kernel
theorem dX7_seekWays_48 : decode cX7_seekWays 48 = .ok (.getfield 20, 3) := by decide +kernel
theorem dX7_seekWays_51 : decode cX7_seekWays 51 = .ok (.bipush 7, 2) := by decide +kernel
theorem dX7_seekWays_53 : decode cX7_seekWays 53 = .ok (.iaload, 1) := by decide +kernel
theorem dX7_seekWays_54 : decode cX7_seekWays 54 = .ok (.if_icmp .ge 72, 3) := by decide +kernel
theorem dX7_seekWays_57 : decode cX7_seekWays 57 = .ok (.aload_n 0, 1) := by decide +kernel
theorem dX7_seekWays_58 : decode cX7_seekWays 58 = .ok (.aload_n 0, 1) := by decide +kernel
theorem dX7_seekWays_59 : decode cX7_seekWays 59 = .ok (.getfield 38, 3) := by decide +kernel
theorem dX7_seekWays_62 : decode cX7_seekWays 62 = .ok (.invokevirtual 202, 3) := by decide +kernel
theorem dX7_seekWays_65 : decode cX7_seekWays 65 = .ok (.aload_n 0, 1) := by decide +kernel
theorem dX7_seekWays_66 : decode cX7_seekWays 66 = .ok (.aload_n 0, 1) := by decide +kernel
theorem dX7_seekWays_67 : decode cX7_seekWays 67 = .ok (.getfield 38, 3) := by decide +kernel
theorem dX7_seekWays_70 : decode cX7_seekWays 70 = .ok (.iload_n 2, 1) := by decide +kernel
theorem dX7_seekWays_71 : decode cX7_seekWays 71 = .ok (.iload_n 3, 1) := by decide +kernel
theorem dX7_seekWays_72 : decode cX7_seekWays 72 = .ok (.invokevirtual 354, 3) := by decide +kernel
theorem dX7_seekWays_75 : decode cX7_seekWays 75 = .ok (.ifCond .ne 6, 3) := by decide +kernel
theorem dX7_seekWays_78 : decode cX7_seekWays 78 = .ok (.goto 42, 3) := by decide +kernel
theorem dX7_seekWays_81 : decode cX7_seekWays 81 = .ok (.aload_n 0, 1) := by decide +kernel
theorem dX7_seekWays_82 : decode cX7_seekWays 82 = .ok (.aload_n 0, 1) := by decide +kernel
theorem dX7_seekWays_83 : decode cX7_seekWays 83 = .ok (.getfield 38, 3) := by decide +kernel
theorem dX7_seekWays_86 : decode cX7_seekWays 86 = .ok (.iload_n 2, 1) := by decide +kernel
theorem dX7_seekWays_87 : decode cX7_seekWays 87 = .ok (.iload_n 3, 1) := by decide +kernel
theorem dX7_seekWays_88 : decode cX7_seekWays 88 = .ok (.invokevirtual 367, 3) := by decide +kernel
theorem dX7_seekWays_91 : decode cX7_seekWays 91 = .ok (.aload_n 0, 1) := by decide +kernel
theorem dX7_seekWays_92 : decode cX7_seekWays 92 = .ok (.aload_n 0, 1) := by decide +kernel
theorem dX7_seekWays_93 : decode cX7_seekWays 93 = .ok (.getfield 38, 3) := by decide +kernel
theorem dX7_seekWays_96 : decode cX7_seekWays 96 = .ok (.invokevirtual 429, 3) := by decide +kernel
theorem dX7_seekWays_99 : decode cX7_seekWays 99 = .ok (.ifCond .ne 6, 3) := by decide +kernel
theorem dX7_seekWays_102 : decode cX7_seekWays 102 = .ok (.goto 18, 3) := by decide +kernel
theorem dX7_seekWays_105 : decode cX7_seekWays 105 = .ok (.aload_n 0, 1) := by decide +kernel
theorem dX7_seekWays_106 : decode cX7_seekWays 106 = .ok (.getfield 65, 3) := by decide +kernel
theorem dX7_seekWays_109 : decode cX7_seekWays 109 = .ok (.iload_n 1, 1) := by decide +kernel
theorem dX7_seekWays_110 : decode cX7_seekWays 110 = .ok (.bipush 10, 2) := by decide +kernel
theorem dX7_seekWays_112 : decode cX7_seekWays 112 = .ok (.iload_n 2, 1) := by decide +kernel
theorem dX7_seekWays_113 : decode cX7_seekWays 113 = .ok (.imul, 1) := by decide +kernel
theorem dX7_seekWays_114 : decode cX7_seekWays 114 = .ok (.iload_n 3, 1) := by decide +kernel
theorem dX7_seekWays_115 : decode cX7_seekWays 115 = .ok (.iadd, 1) := by decide +kernel
theorem dX7_seekWays_116 : decode cX7_seekWays 116 = .ok (.iastore, 1) := by decide +kernel
theorem dX7_seekWays_117 : decode cX7_seekWays 117 = .ok (.iinc 1 1, 3) := by decide +kernel
theorem dX7_seekWays_120 : decode cX7_seekWays 120 = .ok (.iinc 3 1, 3) := by decide +kernel
theorem dX7_seekWays_123 : decode cX7_seekWays 123 = .ok (.goto (-77), 3) := by decide +kernel
theorem dX7_seekWays_126 : decode cX7_seekWays 126 = .ok (.iinc 2 1, 3) := by decide +kernel
theorem dX7_seekWays_129 : decode cX7_seekWays 129 = .ok (.goto (-96), 3) := by decide +kernel
theorem dX7_seekWays_132 : decode cX7_seekWays 132 = .ok (.iload_n 1, 1) := by decide +kernel
theorem dX7_seekWays_133 : decode cX7_seekWays 133 = .ok (.ireturn, 1) := by decide +kernel
def f_X7_seekWays_l46 : am_F := am_th (i_il 3) (am_th (i_al 0) (am_th (i_gr 7 15) (am_th (i_ic (7)) (am_th (i_ia 0) (am_br (b_2 (fun x y => decide (y ≤ x))) (am_th (i_inc 2 (1)) (am_to 33)) (am_th (i_al 0) (am_th (i_al 0) (am_th (i_gr 7 23) (am_th (i_cv 7 1 d_X7_layTold) (am_th (i_al 0) (am_th (i_al 0) (am_th (i_gr 7 23) (am_th (i_il 2) (am_th (i_il 3) (am_th (i_cv 7 3 d_X7_oddsIn) (am_sq 120 (am_br (b_1 (fun x => decide (¬ x = 0))) (am_th (i_al 0) (am_th (i_al 0) (am_th (i_gr 7 23) (am_th (i_il 2) (am_th (i_il 3) (am_th (i_cv 7 3 d_X7_grafts) (am_th (i_al 0) (am_th (i_al 0) (am_th (i_gr 7 23) (am_th (i_cv 7 1 d_X7_explains) (am_br (b_1 (fun x => decide (¬ x = 0))) (am_th (i_al 0) (am_th (i_gr 7 36) (am_th (i_il 1) (am_th (i_ic (10)) (am_th (i_il 2) (am_th (i_2 (fun x y => x * y)) (am_th (i_il 3) (am_th (i_2 (fun x y => x + y)) (am_th (i_iS) (am_th (i_inc 1 (1)) (am_to 120))))))))))) (am_to 120)))))))))))) (am_to 120)) (am_th (i_inc 3 (1)) (am_to 46))))))))))))))))))
def f_X7_seekWays_l33 : am_F := am_th (i_il 2) (am_th (i_al 0) (am_th (i_gr 7 15) (am_th (i_ic (7)) (am_th (i_ia 0) (am_br (b_2 (fun x y => decide (y ≤ x))) (am_to 132) (am_th (i_ic (0)) (am_th (i_is 3) (am_lp 5000 46 f_X7_seekWays_l46))))))))
def f_X7_seekWays : am_F := am_th (i_ic (0)) (am_th (i_is 1) (am_th (i_al 0) (am_th (i_al 0) (am_th (i_gr 7 23) (am_th (i_cv 7 1 d_X7_layTold) (am_th (i_al 0) (am_th (i_al 0) (am_th (i_gr 7 23) (am_th (i_cv 7 1 d_X7_explains) (am_br (b_1 (fun x => decide (x = 0))) (am_th (i_ic (0)) (am_th (i_is 2) (am_sq 132 (am_lp 5000 33 f_X7_seekWays_l33) (am_th (i_il 1) (r_i))))) (am_th (i_al 0) (am_th (i_gr 7 36) (am_th (i_ic (0)) (am_th (i_ic (-2)) (am_th (i_iS) (am_th (i_ic (1)) (am_th (i_is 1) (am_th (i_ic (0)) (am_th (i_is 2) (am_sq 132 (am_lp 5000 33 f_X7_seekWays_l33) (am_th (i_il 1) (r_i))))))))))))))))))))))
def d_X7_seekWays : am_D := am_den 4 f_X7_seekWays
set_option maxHeartbeats 4000000 in
set_option maxRecDepth 100000 in
theorem b_X7_seekWays : am_Body yX7_seekWays cX7_seekWays 4 (some .int) 6 138 f_X7_seekWays := by
  intro p l e R s m args below meth c g n0 z0 r0 u0 C hr hn
  have C : am_Cx p l e R s m args below meth c g RX7 cX7_seekWays 4 n0 z0 (am_len u0) (am_wt u0) 6 138 := C
  have l46 : am_Snd (am_GM p l e R s m args below meth c g 4 n0 z0 r0 u0) (am_Rt r0 u0) 46 (f_X7_seekWays_l46) := by
    unfold f_X7_seekWays_l46
    exact (so_th (so_iload_n C dX7_seekWays_46 rfl) (so_th (so_aload_n C dX7_seekWays_47 rfl) (so_th (so_getr C fl_RX7_20 dX7_seekWays_48) (so_th (so_bipush C dX7_seekWays_51 (by decide)) (so_th (so_iald C dX7_seekWays_53) (so_br (so_icmp_ge C dX7_seekWays_54 (by decide)) (so_th (so_iinc C dX7_seekWays_126 (by decide) (by decide)) (so_goto C dX7_seekWays_129 (by decide) (so_to))) (so_th (so_aload_n C dX7_seekWays_57 rfl) (so_th (so_aload_n C dX7_seekWays_58 rfl) (so_th (so_getr C fl_RX7_38 dX7_seekWays_59) (so_th (so_cv C m_X7_layTold rfl k_605 k_607 k_606 k_608 k_475 ⟨by decide, by decide, by decide +kernel⟩ (by decide) dX7_seekWays_62) (so_th (so_aload_n C dX7_seekWays_65 rfl) (so_th (so_aload_n C dX7_seekWays_66 rfl) (so_th (so_getr C fl_RX7_38 dX7_seekWays_67) (so_th (so_iload_n C dX7_seekWays_70 rfl) (so_th (so_iload_n C dX7_seekWays_71 rfl) (so_th (so_cv C m_X7_oddsIn rfl k_698 k_700 k_699 k_701 k_475 ⟨by decide, by decide, by decide +kernel⟩ (by decide) dX7_seekWays_72) (so_sq (so_br (so_if_ne C dX7_seekWays_75 (by decide)) (so_th (so_aload_n C dX7_seekWays_81 rfl) (so_th (so_aload_n C dX7_seekWays_82 rfl) (so_th (so_getr C fl_RX7_38 dX7_seekWays_83) (so_th (so_iload_n C dX7_seekWays_86 rfl) (so_th (so_iload_n C dX7_seekWays_87 rfl) (so_th (so_cv C m_X7_grafts rfl k_702 k_704 k_703 k_705 k_475 ⟨by decide, by decide, by decide +kernel⟩ (by decide) dX7_seekWays_88) (so_th (so_aload_n C dX7_seekWays_91 rfl) (so_th (so_aload_n C dX7_seekWays_92 rfl) (so_th (so_getr C fl_RX7_38 dX7_seekWays_93) (so_th (so_cv C m_X7_explains rfl k_767 k_769 k_768 k_770 k_475 ⟨by decide, by decide, by decide +kernel⟩ (by decide) dX7_seekWays_96) (so_br (so_if_ne C dX7_seekWays_99 (by decide)) (so_th (so_aload_n C dX7_seekWays_105 rfl) (so_th (so_getr C fl_RX7_65 dX7_seekWays_106) (so_th (so_iload_n C dX7_seekWays_109 rfl) (so_th (so_bipush C dX7_seekWays_110 (by decide)) (so_th (so_iload_n C dX7_seekWays_112 rfl) (so_th (so_imul C dX7_seekWays_113) (so_th (so_iload_n C dX7_seekWays_114 rfl) (so_th (so_iadd C dX7_seekWays_115) (so_th (so_iast C dX7_seekWays_116) (so_th (so_iinc C dX7_seekWays_117 (by decide) (by decide)) (so_to))))))))))) (so_goto C dX7_seekWays_102 (by decide) (so_to))))))))))))) (so_goto C dX7_seekWays_78 (by decide) (so_to))) (so_th (so_iinc C dX7_seekWays_120 (by decide) (by decide)) (so_goto C dX7_seekWays_123 (by decide) (so_to))))))))))))))))))))
  have l33 : am_Snd (am_GM p l e R s m args below meth c g 4 n0 z0 r0 u0) (am_Rt r0 u0) 33 (f_X7_seekWays_l33) := by
    unfold f_X7_seekWays_l33
    exact (so_th (so_iload_n C dX7_seekWays_33 rfl) (so_th (so_aload_n C dX7_seekWays_34 rfl) (so_th (so_getr C fl_RX7_20 dX7_seekWays_35) (so_th (so_bipush C dX7_seekWays_38 (by decide)) (so_th (so_iald C dX7_seekWays_40) (so_br (so_icmp_ge C dX7_seekWays_41 (by decide)) (so_to) (so_th (so_iconst C dX7_seekWays_44 (by decide)) (so_th (so_istore_n C dX7_seekWays_45 rfl (by decide)) (so_lp l46 5000)))))))))
  unfold f_X7_seekWays
  exact (so_th (so_iconst C dX7_seekWays_0 (by decide)) (so_th (so_istore_n C dX7_seekWays_1 rfl (by decide)) (so_th (so_aload_n C dX7_seekWays_2 rfl) (so_th (so_aload_n C dX7_seekWays_3 rfl) (so_th (so_getr C fl_RX7_38 dX7_seekWays_4) (so_th (so_cv C m_X7_layTold rfl k_605 k_607 k_606 k_608 k_475 ⟨by decide, by decide, by decide +kernel⟩ (by decide) dX7_seekWays_7) (so_th (so_aload_n C dX7_seekWays_10 rfl) (so_th (so_aload_n C dX7_seekWays_11 rfl) (so_th (so_getr C fl_RX7_38 dX7_seekWays_12) (so_th (so_cv C m_X7_explains rfl k_767 k_769 k_768 k_770 k_475 ⟨by decide, by decide, by decide +kernel⟩ (by decide) dX7_seekWays_15) (so_br (so_if_eq C dX7_seekWays_18 (by decide)) (so_th (so_iconst C dX7_seekWays_31 (by decide)) (so_th (so_istore_n C dX7_seekWays_32 rfl (by decide)) (so_sq (so_lp l33 5000) (so_th (so_iload_n C dX7_seekWays_132 rfl) (so_ri C hr dX7_seekWays_133))))) (so_th (so_aload_n C dX7_seekWays_21 rfl) (so_th (so_getr C fl_RX7_65 dX7_seekWays_22) (so_th (so_iconst C dX7_seekWays_25 (by decide)) (so_th (so_bipush C dX7_seekWays_26 (by decide)) (so_th (so_iast C dX7_seekWays_28) (so_th (so_iconst C dX7_seekWays_29 (by decide)) (so_th (so_istore_n C dX7_seekWays_30 rfl (by decide)) (so_th (so_iconst C dX7_seekWays_31 (by decide)) (so_th (so_istore_n C dX7_seekWays_32 rfl (by decide)) (so_sq (so_lp l33 5000) (so_th (so_iload_n C dX7_seekWays_132 rfl) (so_ri C hr dX7_seekWays_133)))))))))))))))))))))))
theorem m_X7_seekWays : am_M yX7_seekWays cX7_seekWays 4 (some .int) 6 138 d_X7_seekWays := am_M_of (by decide +kernel) b_X7_seekWays
theorem dX7_ways_0 : decode cX7_ways 0 = .ok (.aload_n 0, 1) := by decide +kernel
theorem dX7_ways_1 : decode cX7_ways 1 = .ok (.invokevirtual 189, 3) := by decide +kernel
theorem dX7_ways_4 : decode cX7_ways 4 = .ok (.aload_n 0, 1) := by decide +kernel
theorem dX7_ways_5 : decode cX7_ways 5 = .ok (.getfield 206, 3) := by decide +kernel
theorem dX7_ways_8 : decode cX7_ways 8 = .ok (.ifCond .eq 10, 3) := by decide +kernel
theorem dX7_ways_11 : decode cX7_ways 11 = .ok (.aload_n 0, 1) := by decide +kernel
theorem dX7_ways_12 : decode cX7_ways 12 = .ok (.invokevirtual 432, 3) := by decide +kernel
theorem dX7_ways_15 : decode cX7_ways 15 = .ok (.goto 8, 3) := by decide +kernel
theorem dX7_ways_18 : decode cX7_ways 18 = .ok (.aload_n 0, 1) := by decide +kernel
theorem dX7_ways_19 : decode cX7_ways 19 = .ok (.iconst 1, 1) := by decide +kernel
theorem dX7_ways_20 : decode cX7_ways 20 = .ok (.invokevirtual 192, 3) := by decide +kernel
theorem dX7_ways_23 : decode cX7_ways 23 = .ok (.ireturn, 1) := by decide +kernel
def f_X7_ways : am_F := am_th (i_al 0) (am_th (i_cv 7 0 d_X7_good) (am_th (i_al 0) (am_th (i_gi 7 14) (am_br (b_1 (fun x => decide (x = 0))) (am_th (i_al 0) (am_th (i_ic (1)) (am_th (i_cv 7 1 d_X7_no) (r_i)))) (am_th (i_al 0) (am_th (i_cv 7 0 d_X7_seekWays) (r_i)))))))
def d_X7_ways : am_D := am_den 1 f_X7_ways
set_option maxHeartbeats 4000000 in
set_option maxRecDepth 100000 in
theorem b_X7_ways : am_Body yX7_ways cX7_ways 1 (some .int) 7 161 f_X7_ways := by
  intro p l e R s m args below meth c g n0 z0 r0 u0 C hr hn
  have C : am_Cx p l e R s m args below meth c g RX7 cX7_ways 1 n0 z0 (am_len u0) (am_wt u0) 7 161 := C
  unfold f_X7_ways
  exact (so_th (so_aload_n C dX7_ways_0 rfl) (so_th (so_cv C m_X7_good rfl k_594 k_596 k_595 k_597 k_475 ⟨by decide, by decide, by decide +kernel⟩ (by decide) dX7_ways_1) (so_th (so_aload_n C dX7_ways_4 rfl) (so_th (so_geti C fl_RX7_206 (by decide) dX7_ways_5) (so_br (so_if_eq C dX7_ways_8 (by decide)) (so_th (so_aload_n C dX7_ways_18 rfl) (so_th (so_iconst C dX7_ways_19 (by decide)) (so_th (so_cv C m_X7_no rfl k_609 k_611 k_610 k_612 k_475 ⟨by decide, by decide, by decide +kernel⟩ (by decide) dX7_ways_20) (so_ri C hr dX7_ways_23)))) (so_th (so_aload_n C dX7_ways_11 rfl) (so_th (so_cv C m_X7_seekWays rfl k_771 k_773 k_772 k_774 k_475 ⟨by decide, by decide, by decide +kernel⟩ (by decide) dX7_ways_12) (so_goto C dX7_ways_15 (by decide) (so_ri C hr dX7_ways_23)))))))))
theorem m_X7_ways : am_M yX7_ways cX7_ways 1 (some .int) 7 161 d_X7_ways := am_M_of (by decide +kernel) b_X7_ways
theorem dX7_wayAt_0 : decode cX7_wayAt 0 = .ok (.aload_n 0, 1) := by decide +kernel
theorem dX7_wayAt_1 : decode cX7_wayAt 1 = .ok (.invokevirtual 189, 3) := by decide +kernel
theorem dX7_wayAt_4 : decode cX7_wayAt 4 = .ok (.aload_n 0, 1) := by decide +kernel
theorem dX7_wayAt_5 : decode cX7_wayAt 5 = .ok (.getfield 206, 3) := by decide +kernel
theorem dX7_wayAt_8 : decode cX7_wayAt 8 = .ok (.ifCond .eq 26, 3) := by decide +kernel
theorem dX7_wayAt_11 : decode cX7_wayAt 11 = .ok (.iload_n 1, 1) := by decide +kernel
theorem dX7_wayAt_12 : decode cX7_wayAt 12 = .ok (.iconst 0, 1) := by decide +kernel
theorem dX7_wayAt_13 : decode cX7_wayAt 13 = .ok (.aload_n 0, 1) := by decide +kernel
theorem dX7_wayAt_14 : decode cX7_wayAt 14 = .ok (.invokevirtual 432, 3) := by decide +kernel
theorem dX7_wayAt_17 : decode cX7_wayAt 17 = .ok (.iconst 1, 1) := by decide +kernel
theorem dX7_wayAt_18 : decode cX7_wayAt 18 = .ok (.isub, 1) := by decide +kernel
theorem dX7_wayAt_19 : decode cX7_wayAt 19 = .ok (.invokestatic 157, 3) := by decide +kernel
theorem dX7_wayAt_22 : decode cX7_wayAt 22 = .ok (.ifCond .eq 12, 3) := by decide +kernel
theorem dX7_wayAt_25 : decode cX7_wayAt 25 = .ok (.aload_n 0, 1) := by decide +kernel
theorem dX7_wayAt_26 : decode cX7_wayAt 26 = .ok (.getfield 65, 3) := by decide +kernel
theorem dX7_wayAt_29 : decode cX7_wayAt 29 = .ok (.iload_n 1, 1) := by decide +kernel
theorem dX7_wayAt_30 : decode cX7_wayAt 30 = .ok (.iaload, 1) := by decide +kernel
theorem dX7_wayAt_31 : decode cX7_wayAt 31 = .ok (.goto 8, 3) := by decide +kernel
theorem dX7_wayAt_34 : decode cX7_wayAt 34 = .ok (.aload_n 0, 1) := by decide +kernel
theorem dX7_wayAt_35 : decode cX7_wayAt 35 = .ok (.iconst 1, 1) := by decide +kernel
theorem dX7_wayAt_36 : decode cX7_wayAt 36 = .ok (.invokevirtual 192, 3) := by decide +kernel
theorem dX7_wayAt_39 : decode cX7_wayAt 39 = .ok (.ireturn, 1) := by decide +kernel
def f_X7_wayAt : am_F := am_th (i_al 0) (am_th (i_cv 7 0 d_X7_good) (am_th (i_al 0) (am_th (i_gi 7 14) (am_br (b_1 (fun x => decide (x = 0))) (am_th (i_al 0) (am_th (i_ic (1)) (am_th (i_cv 7 1 d_X7_no) (r_i)))) (am_th (i_il 1) (am_th (i_ic (0)) (am_th (i_al 0) (am_th (i_cv 7 0 d_X7_seekWays) (am_th (i_ic (1)) (am_th (i_2 (fun x y => x - y)) (am_th (i_cs 3 d_X7_in) (am_br (b_1 (fun x => decide (x = 0))) (am_th (i_al 0) (am_th (i_ic (1)) (am_th (i_cv 7 1 d_X7_no) (r_i)))) (am_th (i_al 0) (am_th (i_gr 7 36) (am_th (i_il 1) (am_th (i_ia 0) (r_i)))))))))))))))))
def d_X7_wayAt : am_D := am_den 2 f_X7_wayAt
set_option maxHeartbeats 4000000 in
set_option maxRecDepth 100000 in
theorem b_X7_wayAt : am_Body yX7_wayAt cX7_wayAt 2 (some .int) 7 161 f_X7_wayAt := by
  intro p l e R s m args below meth c g n0 z0 r0 u0 C hr hn
  have C : am_Cx p l e R s m args below meth c g RX7 cX7_wayAt 2 n0 z0 (am_len u0) (am_wt u0) 7 161 := C
  unfold f_X7_wayAt
  exact (so_th (so_aload_n C dX7_wayAt_0 rfl) (so_th (so_cv C m_X7_good rfl k_594 k_596 k_595 k_597 k_475 ⟨by decide, by decide, by decide +kernel⟩ (by decide) dX7_wayAt_1) (so_th (so_aload_n C dX7_wayAt_4 rfl) (so_th (so_geti C fl_RX7_206 (by decide) dX7_wayAt_5) (so_br (so_if_eq C dX7_wayAt_8 (by decide)) (so_th (so_aload_n C dX7_wayAt_34 rfl) (so_th (so_iconst C dX7_wayAt_35 (by decide)) (so_th (so_cv C m_X7_no rfl k_609 k_611 k_610 k_612 k_475 ⟨by decide, by decide, by decide +kernel⟩ (by decide) dX7_wayAt_36) (so_ri C hr dX7_wayAt_39)))) (so_th (so_iload_n C dX7_wayAt_11 rfl) (so_th (so_iconst C dX7_wayAt_12 (by decide)) (so_th (so_aload_n C dX7_wayAt_13 rfl) (so_th (so_cv C m_X7_seekWays rfl k_771 k_773 k_772 k_774 k_475 ⟨by decide, by decide, by decide +kernel⟩ (by decide) dX7_wayAt_14) (so_th (so_iconst C dX7_wayAt_17 (by decide)) (so_th (so_isub C dX7_wayAt_18) (so_th (so_cs C m_X7_in k_511 k_513 k_512 k_475 ⟨by decide, by decide, by decide +kernel⟩ (by decide) dX7_wayAt_19) (so_br (so_if_eq C dX7_wayAt_22 (by decide)) (so_th (so_aload_n C dX7_wayAt_34 rfl) (so_th (so_iconst C dX7_wayAt_35 (by decide)) (so_th (so_cv C m_X7_no rfl k_609 k_611 k_610 k_612 k_475 ⟨by decide, by decide, by decide +kernel⟩ (by decide) dX7_wayAt_36) (so_ri C hr dX7_wayAt_39)))) (so_th (so_aload_n C dX7_wayAt_25 rfl) (so_th (so_getr C fl_RX7_65 dX7_wayAt_26) (so_th (so_iload_n C dX7_wayAt_29 rfl) (so_th (so_iald C dX7_wayAt_30) (so_goto C dX7_wayAt_31 (by decide) (so_ri C hr dX7_wayAt_39)))))))))))))))))))
theorem m_X7_wayAt : am_M yX7_wayAt cX7_wayAt 2 (some .int) 7 161 d_X7_wayAt := am_M_of (by decide +kernel) b_X7_wayAt
theorem dX7_judge_0 : decode cX7_judge 0 = .ok (.aload_n 0, 1) := by decide +kernel
theorem dX7_judge_1 : decode cX7_judge 1 = .ok (.invokevirtual 189, 3) := by decide +kernel
theorem dX7_judge_4 : decode cX7_judge 4 = .ok (.aload_n 0, 1) := by decide +kernel
theorem dX7_judge_5 : decode cX7_judge 5 = .ok (.getfield 206, 3) := by decide +kernel
theorem dX7_judge_8 : decode cX7_judge 8 = .ok (.ifCond .ne 9, 3) := by decide +kernel
theorem dX7_judge_11 : decode cX7_judge 11 = .ok (.aload_n 0, 1) := by decide +kernel
theorem dX7_judge_12 : decode cX7_judge 12 = .ok (.iconst 1, 1) := by decide +kernel
theorem dX7_judge_13 : decode cX7_judge 13 = .ok (.invokevirtual 192, 3) := by decide +kernel
theorem dX7_judge_16 : decode cX7_judge 16 = .ok (.ireturn, 1) := by decide +kernel
theorem dX7_judge_17 : decode cX7_judge 17 = .ok (.iconst 0, 1) := by decide +kernel
theorem dX7_judge_18 : decode cX7_judge 18 = .ok (.istore_n 1, 1) := by decide +kernel
theorem dX7_judge_19 : decode cX7_judge 19 = .ok (.iload_n 1, 1) := by decide +kernel
theorem dX7_judge_20 : decode cX7_judge 20 = .ok (.aload_n 0, 1) := by decide +kernel
theorem dX7_judge_21 : decode cX7_judge 21 = .ok (.getfield 20, 3) := by decide +kernel
theorem dX7_judge_24 : decode cX7_judge 24 = .ok (.bipush 10, 2) := by decide +kernel
theorem dX7_judge_26 : decode cX7_judge 26 = .ok (.iaload, 1) := by decide +kernel
theorem dX7_judge_27 : decode cX7_judge 27 = .ok (.if_icmp .ge 65, 3) := by decide +kernel
theorem dX7_judge_30 : decode cX7_judge 30 = .ok (.aload_n 0, 1) := by decide +kernel
theorem dX7_judge_31 : decode cX7_judge 31 = .ok (.aload_n 0, 1) := by decide +kernel
theorem dX7_judge_32 : decode cX7_judge 32 = .ok (.getfield 38, 3) := by decide +kernel
theorem dX7_judge_35 : decode cX7_judge 35 = .ok (.invokevirtual 202, 3) := by decide +kernel
theorem dX7_judge_38 : decode cX7_judge 38 = .ok (.aload_n 0, 1) := by decide +kernel
theorem dX7_judge_39 : decode cX7_judge 39 = .ok (.aload_n 0, 1) := by decide +kernel
theorem dX7_judge_40 : decode cX7_judge 40 = .ok (.getfield 38, 3) := by decide +kernel
theorem dX7_judge_43 : decode cX7_judge 43 = .ok (.aload_n 0, 1) := by decide +kernel
theorem dX7_judge_44 : decode cX7_judge 44 = .ok (.getfield 20, 3) := by decide +kernel
theorem dX7_judge_47 : decode cX7_judge 47 = .ok (.bipush 100, 2) := by decide +kernel
theorem dX7_judge_49 : decode cX7_judge 49 = .ok (.iconst 2, 1) := by decide +kernel
theorem dX7_judge_50 : decode cX7_judge 50 = .ok (.iload_n 1, 1) := by decide +kernel
theorem dX7_judge_51 : decode cX7_judge 51 = .ok (.imul, 1) := by decide +kernel
theorem dX7_judge_52 : decode cX7_judge 52 = .ok (.iadd, 1) := by decide +kernel
theorem dX7_judge_53 : decode cX7_judge 53 = .ok (.iconst 1, 1) := by decide +kernel
theorem dX7_judge_54 : decode cX7_judge 54 = .ok (.iadd, 1) := by decide +kernel
theorem dX7_judge_55 : decode cX7_judge 55 = .ok (.iaload, 1) := by decide +kernel
theorem dX7_judge_56 : decode cX7_judge 56 = .ok (.invokevirtual 315, 3) := by decide +kernel
theorem dX7_judge_59 : decode cX7_judge 59 = .ok (.aload_n 0, 1) := by decide +kernel
theorem dX7_judge_60 : decode cX7_judge 60 = .ok (.aload_n 0, 1) := by decide +kernel
theorem dX7_judge_61 : decode cX7_judge 61 = .ok (.getfield 38, 3) := by decide +kernel
theorem dX7_judge_64 : decode cX7_judge 64 = .ok (.invokevirtual 311, 3) := by decide +kernel
theorem dX7_judge_67 : decode cX7_judge 67 = .ok (.aload_n 0, 1) := by decide +kernel
theorem dX7_judge_68 : decode cX7_judge 68 = .ok (.getfield 20, 3) := by decide +kernel
theorem dX7_judge_71 : decode cX7_judge 71 = .ok (.bipush 100, 2) := by decide +kernel
theorem dX7_judge_73 : decode cX7_judge 73 = .ok (.iconst 2, 1) := by decide +kernel
theorem dX7_judge_74 : decode cX7_judge 74 = .ok (.iload_n 1, 1) := by decide +kernel
theorem dX7_judge_75 : decode cX7_judge 75 = .ok (.imul, 1) := by decide +kernel
theorem dX7_judge_76 : decode cX7_judge 76 = .ok (.iadd, 1) := by decide +kernel
theorem dX7_judge_77 : decode cX7_judge 77 = .ok (.iaload, 1) := by decide +kernel
theorem dX7_judge_78 : decode cX7_judge 78 = .ok (.invokestatic 295, 3) := by decide +kernel
theorem dX7_judge_81 : decode cX7_judge 81 = .ok (.ifCond .ne 5, 3) := by decide +kernel
theorem dX7_judge_84 : decode cX7_judge 84 = .ok (.iload_n 1, 1) := by decide +kernel
theorem dX7_judge_85 : decode cX7_judge 85 = .ok (.ireturn, 1) := by decide +kernel
theorem dX7_judge_86 : decode cX7_judge 86 = .ok (.iinc 1 1, 3) := by decide +kernel
theorem dX7_judge_89 : decode cX7_judge 89 = .ok (.goto (-70), 3) := by decide +kernel
theorem dX7_judge_92 : decode cX7_judge 92 = .ok (.bipush (-2), 2) := by decide +kernel
theorem dX7_judge_94 : decode cX7_judge 94 = .ok (.ireturn, 1) := by decide +kernel
def f_X7_judge_l19 : am_F := am_th (i_il 1) (am_th (i_al 0) (am_th (i_gr 7 15) (am_th (i_ic (10)) (am_th (i_ia 0) (am_br (b_2 (fun x y => decide (y ≤ x))) (am_to 92) (am_th (i_al 0) (am_th (i_al 0) (am_th (i_gr 7 23) (am_th (i_cv 7 1 d_X7_layTold) (am_th (i_al 0) (am_th (i_al 0) (am_th (i_gr 7 23) (am_th (i_al 0) (am_th (i_gr 7 15) (am_th (i_ic (100)) (am_th (i_ic (2)) (am_th (i_il 1) (am_th (i_2 (fun x y => x * y)) (am_th (i_2 (fun x y => x + y)) (am_th (i_ic (1)) (am_th (i_2 (fun x y => x + y)) (am_th (i_ia 0) (am_th (i_cv 7 2 d_X7_goes) (am_th (i_al 0) (am_th (i_al 0) (am_th (i_gr 7 23) (am_th (i_cv 7 1 d_X7_seasonAsTold) (am_th (i_al 0) (am_th (i_gr 7 15) (am_th (i_ic (100)) (am_th (i_ic (2)) (am_th (i_il 1) (am_th (i_2 (fun x y => x * y)) (am_th (i_2 (fun x y => x + y)) (am_th (i_ia 0) (am_th (i_cs 2 d_X7_hasBit) (am_br (b_1 (fun x => decide (¬ x = 0))) (am_th (i_inc 1 (1)) (am_to 19)) (am_th (i_il 1) (r_i)))))))))))))))))))))))))))))))))))))))
def f_X7_judge : am_F := am_th (i_al 0) (am_th (i_cv 7 0 d_X7_good) (am_th (i_al 0) (am_th (i_gi 7 14) (am_br (b_1 (fun x => decide (¬ x = 0))) (am_th (i_ic (0)) (am_th (i_is 1) (am_sq 92 (am_lp 5000 19 f_X7_judge_l19) (am_th (i_ic (-2)) (r_i))))) (am_th (i_al 0) (am_th (i_ic (1)) (am_th (i_cv 7 1 d_X7_no) (r_i))))))))
def d_X7_judge : am_D := am_den 2 f_X7_judge
set_option maxHeartbeats 4000000 in
set_option maxRecDepth 100000 in
theorem b_X7_judge : am_Body yX7_judge cX7_judge 2 (some .int) 6 137 f_X7_judge := by
  intro p l e R s m args below meth c g n0 z0 r0 u0 C hr hn
  have C : am_Cx p l e R s m args below meth c g RX7 cX7_judge 2 n0 z0 (am_len u0) (am_wt u0) 6 137 := C
  have l19 : am_Snd (am_GM p l e R s m args below meth c g 2 n0 z0 r0 u0) (am_Rt r0 u0) 19 (f_X7_judge_l19) := by
    unfold f_X7_judge_l19
    exact (so_th (so_iload_n C dX7_judge_19 rfl) (so_th (so_aload_n C dX7_judge_20 rfl) (so_th (so_getr C fl_RX7_20 dX7_judge_21) (so_th (so_bipush C dX7_judge_24 (by decide)) (so_th (so_iald C dX7_judge_26) (so_br (so_icmp_ge C dX7_judge_27 (by decide)) (so_to) (so_th (so_aload_n C dX7_judge_30 rfl) (so_th (so_aload_n C dX7_judge_31 rfl) (so_th (so_getr C fl_RX7_38 dX7_judge_32) (so_th (so_cv C m_X7_layTold rfl k_605 k_607 k_606 k_608 k_475 ⟨by decide, by decide, by decide +kernel⟩ (by decide) dX7_judge_35) (so_th (so_aload_n C dX7_judge_38 rfl) (so_th (so_aload_n C dX7_judge_39 rfl) (so_th (so_getr C fl_RX7_38 dX7_judge_40) (so_th (so_aload_n C dX7_judge_43 rfl) (so_th (so_getr C fl_RX7_20 dX7_judge_44) (so_th (so_bipush C dX7_judge_47 (by decide)) (so_th (so_iconst C dX7_judge_49 (by decide)) (so_th (so_iload_n C dX7_judge_50 rfl) (so_th (so_imul C dX7_judge_51) (so_th (so_iadd C dX7_judge_52) (so_th (so_iconst C dX7_judge_53 (by decide)) (so_th (so_iadd C dX7_judge_54) (so_th (so_iald C dX7_judge_55) (so_th (so_cv C m_X7_goes rfl k_650 k_652 k_651 k_653 k_475 ⟨by decide, by decide, by decide +kernel⟩ (by decide) dX7_judge_56) (so_th (so_aload_n C dX7_judge_59 rfl) (so_th (so_aload_n C dX7_judge_60 rfl) (so_th (so_getr C fl_RX7_38 dX7_judge_61) (so_th (so_cv C m_X7_seasonAsTold rfl k_646 k_648 k_647 k_649 k_475 ⟨by decide, by decide, by decide +kernel⟩ (by decide) dX7_judge_64) (so_th (so_aload_n C dX7_judge_67 rfl) (so_th (so_getr C fl_RX7_20 dX7_judge_68) (so_th (so_bipush C dX7_judge_71 (by decide)) (so_th (so_iconst C dX7_judge_73 (by decide)) (so_th (so_iload_n C dX7_judge_74 rfl) (so_th (so_imul C dX7_judge_75) (so_th (so_iadd C dX7_judge_76) (so_th (so_iald C dX7_judge_77) (so_th (so_cs C m_X7_hasBit k_631 k_633 k_632 k_475 ⟨by decide, by decide, by decide +kernel⟩ (by decide) dX7_judge_78) (so_br (so_if_ne C dX7_judge_81 (by decide)) (so_th (so_iinc C dX7_judge_86 (by decide) (by decide)) (so_goto C dX7_judge_89 (by decide) (so_to))) (so_th (so_iload_n C dX7_judge_84 rfl) (so_ri C hr dX7_judge_85))))))))))))))))))))))))))))))))))))))))
  unfold f_X7_judge
  exact (so_th (so_aload_n C dX7_judge_0 rfl) (so_th (so_cv C m_X7_good rfl k_594 k_596 k_595 k_597 k_475 ⟨by decide, by decide, by decide +kernel⟩ (by decide) dX7_judge_1) (so_th (so_aload_n C dX7_judge_4 rfl) (so_th (so_geti C fl_RX7_206 (by decide) dX7_judge_5) (so_br (so_if_ne C dX7_judge_8 (by decide)) (so_th (so_iconst C dX7_judge_17 (by decide)) (so_th (so_istore_n C dX7_judge_18 rfl (by decide)) (so_sq (so_lp l19 5000) (so_th (so_bipush C dX7_judge_92 (by decide)) (so_ri C hr dX7_judge_94))))) (so_th (so_aload_n C dX7_judge_11 rfl) (so_th (so_iconst C dX7_judge_12 (by decide)) (so_th (so_cv C m_X7_no rfl k_609 k_611 k_610 k_612 k_475 ⟨by decide, by decide, by decide +kernel⟩ (by decide) dX7_judge_13) (so_ri C hr dX7_judge_16)))))))))
theorem m_X7_judge : am_M yX7_judge cX7_judge 2 (some .int) 6 137 d_X7_judge := am_M_of (by decide +kernel) b_X7_judge
theorem dX7_draw_0 : decode cX7_draw 0 = .ok (.aload_n 0, 1) := by decide +kernel
theorem dX7_draw_1 : decode cX7_draw 1 = .ok (.bipush 75, 2) := by decide +kernel
theorem dX7_draw_3 : decode cX7_draw 3 = .ok (.aload_n 0, 1) := by decide +kernel
theorem dX7_draw_4 : decode cX7_draw 4 = .ok (.getfield 435, 3) := by decide +kernel
theorem dX7_draw_7 : decode cX7_draw 7 = .ok (.imul, 1) := by decide +kernel
theorem dX7_draw_8 : decode cX7_draw 8 = .ok (.bipush 74, 2) := by decide +kernel
theorem dX7_draw_10 : decode cX7_draw 10 = .ok (.iadd, 1) := by decide +kernel
theorem dX7_draw_11 : decode cX7_draw 11 = .ok (.ldc_w 438, 3) := by decide +kernel
theorem dX7_draw_14 : decode cX7_draw 14 = .ok (.irem, 1) := by decide +kernel
theorem dX7_draw_15 : decode cX7_draw 15 = .ok (.putfield 435, 3) := by decide +kernel
theorem dX7_draw_18 : decode cX7_draw 18 = .ok (.aload_n 0, 1) := by decide +kernel
theorem dX7_draw_19 : decode cX7_draw 19 = .ok (.getfield 435, 3) := by decide +kernel
theorem dX7_draw_22 : decode cX7_draw 22 = .ok (.iload_n 1, 1) := by decide +kernel
theorem dX7_draw_23 : decode cX7_draw 23 = .ok (.irem, 1) := by decide +kernel
theorem dX7_draw_24 : decode cX7_draw 24 = .ok (.ireturn, 1) := by decide +kernel
def f_X7_draw : am_F := am_th (i_al 0) (am_th (i_ic (75)) (am_th (i_al 0) (am_th (i_gi 7 37) (am_th (i_2 (fun x y => x * y)) (am_th (i_ic (74)) (am_th (i_2 (fun x y => x + y)) (am_th (i_ic (65537)) (am_th (i_2n (fun x y => x - x / y * y)) (am_th (i_pi 7 37) (am_th (i_al 0) (am_th (i_gi 7 37) (am_th (i_il 1) (am_th (i_2n (fun x y => x - x / y * y)) (r_i))))))))))))))
def d_X7_draw : am_D := am_den 2 f_X7_draw
set_option maxHeartbeats 4000000 in
set_option maxRecDepth 100000 in
theorem b_X7_draw : am_Body yX7_draw cX7_draw 2 (some .int) 0 0 f_X7_draw := by
  intro p l e R s m args below meth c g n0 z0 r0 u0 C hr hn
  have C : am_Cx p l e R s m args below meth c g RX7 cX7_draw 2 n0 z0 (am_len u0) (am_wt u0) 0 0 := C
  unfold f_X7_draw
  exact (so_th (so_aload_n C dX7_draw_0 rfl) (so_th (so_bipush C dX7_draw_1 (by decide)) (so_th (so_aload_n C dX7_draw_3 rfl) (so_th (so_geti C fl_RX7_435 (by decide) dX7_draw_4) (so_th (so_imul C dX7_draw_7) (so_th (so_bipush C dX7_draw_8 (by decide)) (so_th (so_iadd C dX7_draw_10) (so_th (so_ldcw C dX7_draw_11 k_775) (so_th (so_irem C dX7_draw_14) (so_th (so_puti C fl_RX7_435 fp_7 (Or.inl rfl) dX7_draw_15) (so_th (so_aload_n C dX7_draw_18 rfl) (so_th (so_geti C fl_RX7_435 (by decide) dX7_draw_19) (so_th (so_iload_n C dX7_draw_22 rfl) (so_th (so_irem C dX7_draw_23) (so_ri C hr dX7_draw_24)))))))))))))))
theorem m_X7_draw : am_M yX7_draw cX7_draw 2 (some .int) 0 0 d_X7_draw := am_M_of (by decide +kernel) b_X7_draw
theorem dX7_fruitsBy_0 : decode cX7_fruitsBy 0 = .ok (.aload_n 0, 1) := by decide +kernel
theorem dX7_fruitsBy_1 : decode cX7_fruitsBy 1 = .ok (.iload_n 1, 1) := by decide +kernel
theorem dX7_fruitsBy_2 : decode cX7_fruitsBy 2 = .ok (.putfield 435, 3) := by decide +kernel
theorem dX7_fruitsBy_5 : decode cX7_fruitsBy 5 = .ok (.aload_n 0, 1) := by decide +kernel
theorem dX7_fruitsBy_6 : decode cX7_fruitsBy 6 = .ok (.getfield 26, 3) := by decide +kernel
theorem dX7_fruitsBy_9 : decode cX7_fruitsBy 9 = .ok (.iconst 0, 1) := by decide +kernel
theorem dX7_fruitsBy_10 : decode cX7_fruitsBy 10 = .ok (.aload_n 0, 1) := by decide +kernel
theorem dX7_fruitsBy_11 : decode cX7_fruitsBy 11 = .ok (.getfield 38, 3) := by decide +kernel
theorem dX7_fruitsBy_14 : decode cX7_fruitsBy 14 = .ok (.iconst 0, 1) := by decide +kernel
theorem dX7_fruitsBy_15 : decode cX7_fruitsBy 15 = .ok (.bipush 26, 2) := by decide +kernel
theorem dX7_fruitsBy_17 : decode cX7_fruitsBy 17 = .ok (.invokestatic 198, 3) := by decide +kernel
theorem dX7_fruitsBy_20 : decode cX7_fruitsBy 20 = .ok (.iconst 0, 1) := by decide +kernel
theorem dX7_fruitsBy_21 : decode cX7_fruitsBy 21 = .ok (.istore_n 3, 1) := by decide +kernel
theorem dX7_fruitsBy_22 : decode cX7_fruitsBy 22 = .ok (.iload_n 3, 1) := by decide +kernel
theorem dX7_fruitsBy_23 : decode cX7_fruitsBy 23 = .ok (.iconst 4, 1) := by decide +kernel
theorem dX7_fruitsBy_24 : decode cX7_fruitsBy 24 = .ok (.iload_n 2, 1) := by decide +kernel
theorem dX7_fruitsBy_25 : decode cX7_fruitsBy 25 = .ok (.imul, 1) := by decide +kernel
theorem dX7_fruitsBy_26 : decode cX7_fruitsBy 26 = .ok (.if_icmp .ge 84, 3) := by decide +kernel
theorem dX7_fruitsBy_29 : decode cX7_fruitsBy 29 = .ok (.iconst 0, 1) := by decide +kernel
theorem dX7_fruitsBy_30 : decode cX7_fruitsBy 30 = .ok (.istore 4, 2) := by decide +kernel
theorem dX7_fruitsBy_32 : decode cX7_fruitsBy 32 = .ok (.iload 4, 2) := by decide +kernel
theorem dX7_fruitsBy_34 : decode cX7_fruitsBy 34 = .ok (.aload_n 0, 1) := by decide +kernel
theorem dX7_fruitsBy_35 : decode cX7_fruitsBy 35 = .ok (.getfield 20, 3) := by decide +kernel
theorem dX7_fruitsBy_38 : decode cX7_fruitsBy 38 = .ok (.bipush 7, 2) := by decide +kernel
theorem dX7_fruitsBy_40 : decode cX7_fruitsBy 40 = .ok (.iaload, 1) := by decide +kernel
theorem dX7_fruitsBy_41 : decode cX7_fruitsBy 41 = .ok (.if_icmp .ge 17, 3) := by decide +kernel
theorem dX7_fruitsBy_44 : decode cX7_fruitsBy 44 = .ok (.aload_n 0, 1) := by decide +kernel
theorem dX7_fruitsBy_45 : decode cX7_fruitsBy 45 = .ok (.getfield 35, 3) := by decide +kernel
theorem dX7_fruitsBy_48 : decode cX7_fruitsBy 48 = .ok (.iload 4, 2) := by decide +kernel
theorem dX7_fruitsBy_50 : decode cX7_fruitsBy 50 = .ok (.iconst 0, 1) := by decide +kernel
theorem dX7_fruitsBy_51 : decode cX7_fruitsBy 51 = .ok (.iastore, 1) := by decide +kernel
theorem dX7_fruitsBy_52 : decode cX7_fruitsBy 52 = .ok (.iinc 4 1, 3) := by decide +kernel
theorem dX7_fruitsBy_55 : decode cX7_fruitsBy 55 = .ok (.goto (-23), 3) := by decide +kernel
theorem dX7_fruitsBy_58 : decode cX7_fruitsBy 58 = .ok (.aload_n 0, 1) := by decide +kernel
theorem dX7_fruitsBy_59 : decode cX7_fruitsBy 59 = .ok (.getfield 38, 3) := by decide +kernel
theorem dX7_fruitsBy_62 : decode cX7_fruitsBy 62 = .ok (.aload_n 0, 1) := by decide +kernel
theorem dX7_fruitsBy_63 : decode cX7_fruitsBy 63 = .ok (.aload_n 0, 1) := by decide +kernel
theorem dX7_fruitsBy_64 : decode cX7_fruitsBy 64 = .ok (.getfield 20, 3) := by decide +kernel
theorem dX7_fruitsBy_67 : decode cX7_fruitsBy 67 = .ok (.bipush 7, 2) := by decide +kernel
theorem dX7_fruitsBy_69 : decode cX7_fruitsBy 69 = .ok (.iaload, 1) := by decide +kernel
theorem dX7_fruitsBy_70 : decode cX7_fruitsBy 70 = .ok (.invokevirtual 439, 3) := by decide +kernel
theorem dX7_fruitsBy_73 : decode cX7_fruitsBy 73 = .ok (.invokestatic 282, 3) := by decide +kernel
theorem dX7_fruitsBy_76 : decode cX7_fruitsBy 76 = .ok (.istore 4, 2) := by decide +kernel
theorem dX7_fruitsBy_78 : decode cX7_fruitsBy 78 = .ok (.aload_n 0, 1) := by decide +kernel
theorem dX7_fruitsBy_79 : decode cX7_fruitsBy 79 = .ok (.getfield 35, 3) := by decide +kernel
theorem dX7_fruitsBy_82 : decode cX7_fruitsBy 82 = .ok (.iload 4, 2) := by decide +kernel
theorem dX7_fruitsBy_84 : decode cX7_fruitsBy 84 = .ok (.aload_n 0, 1) := by decide +kernel
theorem dX7_fruitsBy_85 : decode cX7_fruitsBy 85 = .ok (.bipush 6, 2) := by decide +kernel
theorem dX7_fruitsBy_87 : decode cX7_fruitsBy 87 = .ok (.invokevirtual 439, 3) := by decide +kernel
theorem dX7_fruitsBy_90 : decode cX7_fruitsBy 90 = .ok (.iastore, 1) := by decide +kernel
theorem dX7_fruitsBy_91 : decode cX7_fruitsBy 91 = .ok (.aload_n 0, 1) := by decide +kernel
theorem dX7_fruitsBy_92 : decode cX7_fruitsBy 92 = .ok (.aload_n 0, 1) := by decide +kernel
theorem dX7_fruitsBy_93 : decode cX7_fruitsBy 93 = .ok (.getfield 38, 3) := by decide +kernel
theorem dX7_fruitsBy_96 : decode cX7_fruitsBy 96 = .ok (.aload_n 0, 1) := by decide +kernel
theorem dX7_fruitsBy_97 : decode cX7_fruitsBy 97 = .ok (.getfield 35, 3) := by decide +kernel
theorem dX7_fruitsBy_100 : decode cX7_fruitsBy 100 = .ok (.invokevirtual 307, 3) := by decide +kernel
theorem dX7_fruitsBy_103 : decode cX7_fruitsBy 103 = .ok (.pop, 1) := by decide +kernel
theorem dX7_fruitsBy_104 : decode cX7_fruitsBy 104 = .ok (.iinc 3 1, 3) := by decide +kernel
theorem dX7_fruitsBy_107 : decode cX7_fruitsBy 107 = .ok (.goto (-85), 3) := by decide +kernel
theorem dX7_fruitsBy_110 : decode cX7_fruitsBy 110 = .ok (.aload_n 0, 1) := by decide +kernel
theorem dX7_fruitsBy_111 : decode cX7_fruitsBy 111 = .ok (.aload_n 0, 1) := by decide +kernel
theorem dX7_fruitsBy_112 : decode cX7_fruitsBy 112 = .ok (.getfield 38, 3) := by decide +kernel
theorem dX7_fruitsBy_115 : decode cX7_fruitsBy 115 = .ok (.bipush 12, 2) := by decide +kernel
theorem dX7_fruitsBy_117 : decode cX7_fruitsBy 117 = .ok (.invokevirtual 341, 3) := by decide +kernel
theorem dX7_fruitsBy_120 : decode cX7_fruitsBy 120 = .ok (.aload_n 0, 1) := by decide +kernel
theorem dX7_fruitsBy_121 : decode cX7_fruitsBy 121 = .ok (.aload_n 0, 1) := by decide +kernel
theorem dX7_fruitsBy_122 : decode cX7_fruitsBy 122 = .ok (.getfield 26, 3) := by decide +kernel
theorem dX7_fruitsBy_125 : decode cX7_fruitsBy 125 = .ok (.bipush 12, 2) := by decide +kernel
theorem dX7_fruitsBy_127 : decode cX7_fruitsBy 127 = .ok (.invokevirtual 341, 3) := by decide +kernel
theorem dX7_fruitsBy_130 : decode cX7_fruitsBy 130 = .ok (.isub, 1) := by decide +kernel
theorem dX7_fruitsBy_131 : decode cX7_fruitsBy 131 = .ok (.ireturn, 1) := by decide +kernel
def f_X7_fruitsBy_l32 : am_F := am_th (i_il 4) (am_th (i_al 0) (am_th (i_gr 7 15) (am_th (i_ic (7)) (am_th (i_ia 0) (am_br (b_2 (fun x y => decide (y ≤ x))) (am_th (i_al 0) (am_th (i_gr 7 23) (am_th (i_al 0) (am_th (i_al 0) (am_th (i_gr 7 15) (am_th (i_ic (7)) (am_th (i_ia 0) (am_th (i_cv 7 1 d_X7_draw) (am_th (i_cs 2 d_X7_rootOf) (am_th (i_is 4) (am_th (i_al 0) (am_th (i_gr 7 22) (am_th (i_il 4) (am_th (i_al 0) (am_th (i_ic (6)) (am_th (i_cv 7 1 d_X7_draw) (am_th (i_iS) (am_th (i_al 0) (am_th (i_al 0) (am_th (i_gr 7 23) (am_th (i_al 0) (am_th (i_gr 7 22) (am_th (i_cv 7 2 d_X7_seasonBy) (am_th (i_pop) (am_th (i_inc 3 (1)) (am_to 22)))))))))))))))))))))))))) (am_th (i_al 0) (am_th (i_gr 7 22) (am_th (i_il 4) (am_th (i_ic (0)) (am_th (i_iS) (am_th (i_inc 4 (1)) (am_to 32))))))))))))
def f_X7_fruitsBy_l22 : am_F := am_th (i_il 3) (am_th (i_ic (4)) (am_th (i_il 2) (am_th (i_2 (fun x y => x * y)) (am_br (b_2 (fun x y => decide (y ≤ x))) (am_to 110) (am_th (i_ic (0)) (am_th (i_is 4) (am_lp 5000 32 f_X7_fruitsBy_l32)))))))
def f_X7_fruitsBy : am_F := am_th (i_al 0) (am_th (i_il 1) (am_th (i_pi 7 37) (am_th (i_al 0) (am_th (i_gr 7 17) (am_th (i_ic (0)) (am_th (i_al 0) (am_th (i_gr 7 23) (am_th (i_ic (0)) (am_th (i_ic (26)) (am_th (i_cs 5 d_X7_copy) (am_th (i_ic (0)) (am_th (i_is 3) (am_sq 110 (am_lp 5000 22 f_X7_fruitsBy_l22) (am_th (i_al 0) (am_th (i_al 0) (am_th (i_gr 7 23) (am_th (i_ic (12)) (am_th (i_cv 7 2 d_X7_sumOf) (am_th (i_al 0) (am_th (i_al 0) (am_th (i_gr 7 17) (am_th (i_ic (12)) (am_th (i_cv 7 2 d_X7_sumOf) (am_th (i_2 (fun x y => x - y)) (r_i)))))))))))))))))))))))))
def d_X7_fruitsBy : am_D := am_den 5 f_X7_fruitsBy
set_option maxHeartbeats 4000000 in
set_option maxRecDepth 100000 in
theorem b_X7_fruitsBy : am_Body yX7_fruitsBy cX7_fruitsBy 5 (some .int) 4 92 f_X7_fruitsBy := by
  intro p l e R s m args below meth c g n0 z0 r0 u0 C hr hn
  have C : am_Cx p l e R s m args below meth c g RX7 cX7_fruitsBy 5 n0 z0 (am_len u0) (am_wt u0) 4 92 := C
  have l32 : am_Snd (am_GM p l e R s m args below meth c g 5 n0 z0 r0 u0) (am_Rt r0 u0) 32 (f_X7_fruitsBy_l32) := by
    unfold f_X7_fruitsBy_l32
    exact (so_th (so_iload C dX7_fruitsBy_32) (so_th (so_aload_n C dX7_fruitsBy_34 rfl) (so_th (so_getr C fl_RX7_20 dX7_fruitsBy_35) (so_th (so_bipush C dX7_fruitsBy_38 (by decide)) (so_th (so_iald C dX7_fruitsBy_40) (so_br (so_icmp_ge C dX7_fruitsBy_41 (by decide)) (so_th (so_aload_n C dX7_fruitsBy_58 rfl) (so_th (so_getr C fl_RX7_38 dX7_fruitsBy_59) (so_th (so_aload_n C dX7_fruitsBy_62 rfl) (so_th (so_aload_n C dX7_fruitsBy_63 rfl) (so_th (so_getr C fl_RX7_20 dX7_fruitsBy_64) (so_th (so_bipush C dX7_fruitsBy_67 (by decide)) (so_th (so_iald C dX7_fruitsBy_69) (so_th (so_cv C m_X7_draw rfl k_776 k_778 k_777 k_779 k_475 ⟨by decide, by decide, by decide +kernel⟩ (by decide) dX7_fruitsBy_70) (so_th (so_cs C m_X7_rootOf k_616 k_618 k_617 k_475 ⟨by decide, by decide, by decide +kernel⟩ (by decide) dX7_fruitsBy_73) (so_th (so_istore C dX7_fruitsBy_76 (by decide)) (so_th (so_aload_n C dX7_fruitsBy_78 rfl) (so_th (so_getr C fl_RX7_35 dX7_fruitsBy_79) (so_th (so_iload C dX7_fruitsBy_82) (so_th (so_aload_n C dX7_fruitsBy_84 rfl) (so_th (so_bipush C dX7_fruitsBy_85 (by decide)) (so_th (so_cv C m_X7_draw rfl k_776 k_778 k_777 k_779 k_475 ⟨by decide, by decide, by decide +kernel⟩ (by decide) dX7_fruitsBy_87) (so_th (so_iast C dX7_fruitsBy_90) (so_th (so_aload_n C dX7_fruitsBy_91 rfl) (so_th (so_aload_n C dX7_fruitsBy_92 rfl) (so_th (so_getr C fl_RX7_38 dX7_fruitsBy_93) (so_th (so_aload_n C dX7_fruitsBy_96 rfl) (so_th (so_getr C fl_RX7_35 dX7_fruitsBy_97) (so_th (so_cv C m_X7_seasonBy rfl k_642 k_644 k_643 k_645 k_475 ⟨by decide, by decide, by decide +kernel⟩ (by decide) dX7_fruitsBy_100) (so_th (so_pop C dX7_fruitsBy_103) (so_th (so_iinc C dX7_fruitsBy_104 (by decide) (by decide)) (so_goto C dX7_fruitsBy_107 (by decide) (so_to))))))))))))))))))))))))))) (so_th (so_aload_n C dX7_fruitsBy_44 rfl) (so_th (so_getr C fl_RX7_35 dX7_fruitsBy_45) (so_th (so_iload C dX7_fruitsBy_48) (so_th (so_iconst C dX7_fruitsBy_50 (by decide)) (so_th (so_iast C dX7_fruitsBy_51) (so_th (so_iinc C dX7_fruitsBy_52 (by decide) (by decide)) (so_goto C dX7_fruitsBy_55 (by decide) (so_to))))))))))))))
  have l22 : am_Snd (am_GM p l e R s m args below meth c g 5 n0 z0 r0 u0) (am_Rt r0 u0) 22 (f_X7_fruitsBy_l22) := by
    unfold f_X7_fruitsBy_l22
    exact (so_th (so_iload_n C dX7_fruitsBy_22 rfl) (so_th (so_iconst C dX7_fruitsBy_23 (by decide)) (so_th (so_iload_n C dX7_fruitsBy_24 rfl) (so_th (so_imul C dX7_fruitsBy_25) (so_br (so_icmp_ge C dX7_fruitsBy_26 (by decide)) (so_to) (so_th (so_iconst C dX7_fruitsBy_29 (by decide)) (so_th (so_istore C dX7_fruitsBy_30 (by decide)) (so_lp l32 5000))))))))
  unfold f_X7_fruitsBy
  exact (so_th (so_aload_n C dX7_fruitsBy_0 rfl) (so_th (so_iload_n C dX7_fruitsBy_1 rfl) (so_th (so_puti C fl_RX7_435 fp_7 (Or.inl rfl) dX7_fruitsBy_2) (so_th (so_aload_n C dX7_fruitsBy_5 rfl) (so_th (so_getr C fl_RX7_26 dX7_fruitsBy_6) (so_th (so_iconst C dX7_fruitsBy_9 (by decide)) (so_th (so_aload_n C dX7_fruitsBy_10 rfl) (so_th (so_getr C fl_RX7_38 dX7_fruitsBy_11) (so_th (so_iconst C dX7_fruitsBy_14 (by decide)) (so_th (so_bipush C dX7_fruitsBy_15 (by decide)) (so_th (so_cs C m_X7_copy k_602 k_604 k_603 k_475 ⟨by decide, by decide, by decide +kernel⟩ (by decide) dX7_fruitsBy_17) (so_th (so_iconst C dX7_fruitsBy_20 (by decide)) (so_th (so_istore_n C dX7_fruitsBy_21 rfl (by decide)) (so_sq (so_lp l22 5000) (so_th (so_aload_n C dX7_fruitsBy_110 rfl) (so_th (so_aload_n C dX7_fruitsBy_111 rfl) (so_th (so_getr C fl_RX7_38 dX7_fruitsBy_112) (so_th (so_bipush C dX7_fruitsBy_115 (by decide)) (so_th (so_cv C m_X7_sumOf rfl k_682 k_684 k_683 k_685 k_475 ⟨by decide, by decide, by decide +kernel⟩ (by decide) dX7_fruitsBy_117) (so_th (so_aload_n C dX7_fruitsBy_120 rfl) (so_th (so_aload_n C dX7_fruitsBy_121 rfl) (so_th (so_getr C fl_RX7_26 dX7_fruitsBy_122) (so_th (so_bipush C dX7_fruitsBy_125 (by decide)) (so_th (so_cv C m_X7_sumOf rfl k_682 k_684 k_683 k_685 k_475 ⟨by decide, by decide, by decide +kernel⟩ (by decide) dX7_fruitsBy_127) (so_th (so_isub C dX7_fruitsBy_130) (so_ri C hr dX7_fruitsBy_131))))))))))))))))))))))))))
theorem m_X7_fruitsBy : am_M yX7_fruitsBy cX7_fruitsBy 5 (some .int) 4 92 d_X7_fruitsBy := am_M_of (by decide +kernel) b_X7_fruitsBy
theorem dX7_year_0 : decode cX7_year 0 = .ok (.aload_n 0, 1) := by decide +kernel
theorem dX7_year_1 : decode cX7_year 1 = .ok (.invokevirtual 189, 3) := by decide +kernel
theorem dX7_year_4 : decode cX7_year 4 = .ok (.aload_n 0, 1) := by decide +kernel
theorem dX7_year_5 : decode cX7_year 5 = .ok (.getfield 206, 3) := by decide +kernel
theorem dX7_year_8 : decode cX7_year 8 = .ok (.ifCond .ne 9, 3) := by decide +kernel
theorem dX7_year_11 : decode cX7_year 11 = .ok (.aload_n 0, 1) := by decide +kernel
theorem dX7_year_12 : decode cX7_year 12 = .ok (.iconst 1, 1) := by decide +kernel
theorem dX7_year_13 : decode cX7_year 13 = .ok (.invokevirtual 192, 3) := by decide +kernel
theorem dX7_year_16 : decode cX7_year 16 = .ok (.ireturn, 1) := by decide +kernel
theorem dX7_year_17 : decode cX7_year 17 = .ok (.iload_n 1, 1) := by decide +kernel
theorem dX7_year_18 : decode cX7_year 18 = .ok (.iconst 0, 1) := by decide +kernel
theorem dX7_year_19 : decode cX7_year 19 = .ok (.ldc_w 442, 3) := by decide +kernel
theorem dX7_year_22 : decode cX7_year 22 = .ok (.invokestatic 157, 3) := by decide +kernel
theorem dX7_year_25 : decode cX7_year 25 = .ok (.ifCond .eq 12, 3) := by decide +kernel
theorem dX7_year_28 : decode cX7_year 28 = .ok (.aload_n 0, 1) := by decide +kernel
theorem dX7_year_29 : decode cX7_year 29 = .ok (.iload_n 1, 1) := by decide +kernel
theorem dX7_year_30 : decode cX7_year 30 = .ok (.iconst 1, 1) := by decide +kernel
theorem dX7_year_31 : decode cX7_year 31 = .ok (.invokevirtual 443, 3) := by decide +kernel
theorem dX7_year_34 : decode cX7_year 34 = .ok (.goto 8, 3) := by decide +kernel
theorem dX7_year_37 : decode cX7_year 37 = .ok (.aload_n 0, 1) := by decide +kernel
theorem dX7_year_38 : decode cX7_year 38 = .ok (.iconst 2, 1) := by decide +kernel
theorem dX7_year_39 : decode cX7_year 39 = .ok (.invokevirtual 192, 3) := by decide +kernel
theorem dX7_year_42 : decode cX7_year 42 = .ok (.ireturn, 1) := by decide +kernel
def f_X7_year : am_F := am_th (i_al 0) (am_th (i_cv 7 0 d_X7_good) (am_th (i_al 0) (am_th (i_gi 7 14) (am_br (b_1 (fun x => decide (¬ x = 0))) (am_th (i_il 1) (am_th (i_ic (0)) (am_th (i_ic (65536)) (am_th (i_cs 3 d_X7_in) (am_br (b_1 (fun x => decide (x = 0))) (am_th (i_al 0) (am_th (i_ic (2)) (am_th (i_cv 7 1 d_X7_no) (r_i)))) (am_th (i_al 0) (am_th (i_il 1) (am_th (i_ic (1)) (am_th (i_cv 7 2 d_X7_fruitsBy) (r_i)))))))))) (am_th (i_al 0) (am_th (i_ic (1)) (am_th (i_cv 7 1 d_X7_no) (r_i))))))))
def d_X7_year : am_D := am_den 2 f_X7_year
set_option maxHeartbeats 4000000 in
set_option maxRecDepth 100000 in
theorem b_X7_year : am_Body yX7_year cX7_year 2 (some .int) 5 116 f_X7_year := by
  intro p l e R s m args below meth c g n0 z0 r0 u0 C hr hn
  have C : am_Cx p l e R s m args below meth c g RX7 cX7_year 2 n0 z0 (am_len u0) (am_wt u0) 5 116 := C
  unfold f_X7_year
  exact (so_th (so_aload_n C dX7_year_0 rfl) (so_th (so_cv C m_X7_good rfl k_594 k_596 k_595 k_597 k_475 ⟨by decide, by decide, by decide +kernel⟩ (by decide) dX7_year_1) (so_th (so_aload_n C dX7_year_4 rfl) (so_th (so_geti C fl_RX7_206 (by decide) dX7_year_5) (so_br (so_if_ne C dX7_year_8 (by decide)) (so_th (so_iload_n C dX7_year_17 rfl) (so_th (so_iconst C dX7_year_18 (by decide)) (so_th (so_ldcw C dX7_year_19 k_780) (so_th (so_cs C m_X7_in k_511 k_513 k_512 k_475 ⟨by decide, by decide, by decide +kernel⟩ (by decide) dX7_year_22) (so_br (so_if_eq C dX7_year_25 (by decide)) (so_th (so_aload_n C dX7_year_37 rfl) (so_th (so_iconst C dX7_year_38 (by decide)) (so_th (so_cv C m_X7_no rfl k_609 k_611 k_610 k_612 k_475 ⟨by decide, by decide, by decide +kernel⟩ (by decide) dX7_year_39) (so_ri C hr dX7_year_42)))) (so_th (so_aload_n C dX7_year_28 rfl) (so_th (so_iload_n C dX7_year_29 rfl) (so_th (so_iconst C dX7_year_30 (by decide)) (so_th (so_cv C m_X7_fruitsBy rfl k_781 k_783 k_782 k_784 k_475 ⟨by decide, by decide, by decide +kernel⟩ (by decide) dX7_year_31) (so_goto C dX7_year_34 (by decide) (so_ri C hr dX7_year_42))))))))))) (so_th (so_aload_n C dX7_year_11 rfl) (so_th (so_iconst C dX7_year_12 (by decide)) (so_th (so_cv C m_X7_no rfl k_609 k_611 k_610 k_612 k_475 ⟨by decide, by decide, by decide +kernel⟩ (by decide) dX7_year_13) (so_ri C hr dX7_year_16)))))))))
theorem m_X7_year : am_M yX7_year cX7_year 2 (some .int) 5 116 d_X7_year := am_M_of (by decide +kernel) b_X7_year
theorem dX7_years_0 : decode cX7_years 0 = .ok (.aload_n 0, 1) := by decide +kernel
theorem dX7_years_1 : decode cX7_years 1 = .ok (.invokevirtual 189, 3) := by decide +kernel
theorem dX7_years_4 : decode cX7_years 4 = .ok (.aload_n 0, 1) := by decide +kernel
theorem dX7_years_5 : decode cX7_years 5 = .ok (.getfield 206, 3) := by decide +kernel
theorem dX7_years_8 : decode cX7_years 8 = .ok (.ifCond .ne 9, 3) := by decide +kernel
theorem dX7_years_11 : decode cX7_years 11 = .ok (.aload_n 0, 1) := by decide +kernel
theorem dX7_years_12 : decode cX7_years 12 = .ok (.iconst 1, 1) := by decide +kernel
theorem dX7_years_13 : decode cX7_years 13 = .ok (.invokevirtual 192, 3) := by decide +kernel
theorem dX7_years_16 : decode cX7_years 16 = .ok (.ireturn, 1) := by decide +kernel
theorem dX7_years_17 : decode cX7_years 17 = .ok (.iload_n 1, 1) := by decide +kernel
theorem dX7_years_18 : decode cX7_years 18 = .ok (.iconst 0, 1) := by decide +kernel
theorem dX7_years_19 : decode cX7_years 19 = .ok (.ldc_w 442, 3) := by decide +kernel
theorem dX7_years_22 : decode cX7_years 22 = .ok (.invokestatic 157, 3) := by decide +kernel
theorem dX7_years_25 : decode cX7_years 25 = .ok (.ifCond .eq 22, 3) := by decide +kernel
theorem dX7_years_28 : decode cX7_years 28 = .ok (.iload_n 2, 1) := by decide +kernel
theorem dX7_years_29 : decode cX7_years 29 = .ok (.iconst 0, 1) := by decide +kernel
theorem dX7_years_30 : decode cX7_years 30 = .ok (.bipush 20, 2) := by decide +kernel
theorem dX7_years_32 : decode cX7_years 32 = .ok (.invokestatic 157, 3) := by decide +kernel
theorem dX7_years_35 : decode cX7_years 35 = .ok (.ifCond .eq 12, 3) := by decide +kernel
theorem dX7_years_38 : decode cX7_years 38 = .ok (.aload_n 0, 1) := by decide +kernel
theorem dX7_years_39 : decode cX7_years 39 = .ok (.iload_n 1, 1) := by decide +kernel
theorem dX7_years_40 : decode cX7_years 40 = .ok (.iload_n 2, 1) := by decide +kernel
theorem dX7_years_41 : decode cX7_years 41 = .ok (.invokevirtual 443, 3) := by decide +kernel
theorem dX7_years_44 : decode cX7_years 44 = .ok (.goto 8, 3) := by decide +kernel
theorem dX7_years_47 : decode cX7_years 47 = .ok (.aload_n 0, 1) := by decide +kernel
theorem dX7_years_48 : decode cX7_years 48 = .ok (.iconst 2, 1) := by decide +kernel
theorem dX7_years_49 : decode cX7_years 49 = .ok (.invokevirtual 192, 3) := by decide +kernel
theorem dX7_years_52 : decode cX7_years 52 = .ok (.ireturn, 1) := by decide +kernel
def f_X7_years : am_F := am_th (i_al 0) (am_th (i_cv 7 0 d_X7_good) (am_th (i_al 0) (am_th (i_gi 7 14) (am_br (b_1 (fun x => decide (¬ x = 0))) (am_th (i_il 1) (am_th (i_ic (0)) (am_th (i_ic (65536)) (am_th (i_cs 3 d_X7_in) (am_br (b_1 (fun x => decide (x = 0))) (am_th (i_al 0) (am_th (i_ic (2)) (am_th (i_cv 7 1 d_X7_no) (r_i)))) (am_th (i_il 2) (am_th (i_ic (0)) (am_th (i_ic (20)) (am_th (i_cs 3 d_X7_in) (am_br (b_1 (fun x => decide (x = 0))) (am_th (i_al 0) (am_th (i_ic (2)) (am_th (i_cv 7 1 d_X7_no) (r_i)))) (am_th (i_al 0) (am_th (i_il 1) (am_th (i_il 2) (am_th (i_cv 7 2 d_X7_fruitsBy) (r_i))))))))))))))) (am_th (i_al 0) (am_th (i_ic (1)) (am_th (i_cv 7 1 d_X7_no) (r_i))))))))
def d_X7_years : am_D := am_den 3 f_X7_years
set_option maxHeartbeats 4000000 in
set_option maxRecDepth 100000 in
theorem b_X7_years : am_Body yX7_years cX7_years 3 (some .int) 5 116 f_X7_years := by
  intro p l e R s m args below meth c g n0 z0 r0 u0 C hr hn
  have C : am_Cx p l e R s m args below meth c g RX7 cX7_years 3 n0 z0 (am_len u0) (am_wt u0) 5 116 := C
  unfold f_X7_years
  exact (so_th (so_aload_n C dX7_years_0 rfl) (so_th (so_cv C m_X7_good rfl k_594 k_596 k_595 k_597 k_475 ⟨by decide, by decide, by decide +kernel⟩ (by decide) dX7_years_1) (so_th (so_aload_n C dX7_years_4 rfl) (so_th (so_geti C fl_RX7_206 (by decide) dX7_years_5) (so_br (so_if_ne C dX7_years_8 (by decide)) (so_th (so_iload_n C dX7_years_17 rfl) (so_th (so_iconst C dX7_years_18 (by decide)) (so_th (so_ldcw C dX7_years_19 k_780) (so_th (so_cs C m_X7_in k_511 k_513 k_512 k_475 ⟨by decide, by decide, by decide +kernel⟩ (by decide) dX7_years_22) (so_br (so_if_eq C dX7_years_25 (by decide)) (so_th (so_aload_n C dX7_years_47 rfl) (so_th (so_iconst C dX7_years_48 (by decide)) (so_th (so_cv C m_X7_no rfl k_609 k_611 k_610 k_612 k_475 ⟨by decide, by decide, by decide +kernel⟩ (by decide) dX7_years_49) (so_ri C hr dX7_years_52)))) (so_th (so_iload_n C dX7_years_28 rfl) (so_th (so_iconst C dX7_years_29 (by decide)) (so_th (so_bipush C dX7_years_30 (by decide)) (so_th (so_cs C m_X7_in k_511 k_513 k_512 k_475 ⟨by decide, by decide, by decide +kernel⟩ (by decide) dX7_years_32) (so_br (so_if_eq C dX7_years_35 (by decide)) (so_th (so_aload_n C dX7_years_47 rfl) (so_th (so_iconst C dX7_years_48 (by decide)) (so_th (so_cv C m_X7_no rfl k_609 k_611 k_610 k_612 k_475 ⟨by decide, by decide, by decide +kernel⟩ (by decide) dX7_years_49) (so_ri C hr dX7_years_52)))) (so_th (so_aload_n C dX7_years_38 rfl) (so_th (so_iload_n C dX7_years_39 rfl) (so_th (so_iload_n C dX7_years_40 rfl) (so_th (so_cv C m_X7_fruitsBy rfl k_781 k_783 k_782 k_784 k_475 ⟨by decide, by decide, by decide +kernel⟩ (by decide) dX7_years_41) (so_goto C dX7_years_44 (by decide) (so_ri C hr dX7_years_52)))))))))))))))) (so_th (so_aload_n C dX7_years_11 rfl) (so_th (so_iconst C dX7_years_12 (by decide)) (so_th (so_cv C m_X7_no rfl k_609 k_611 k_610 k_612 k_475 ⟨by decide, by decide, by decide +kernel⟩ (by decide) dX7_years_13) (so_ri C hr dX7_years_16)))))))))
theorem m_X7_years : am_M yX7_years cX7_years 3 (some .int) 5 116 d_X7_years := am_M_of (by decide +kernel) b_X7_years
theorem dX7_note_0 : decode cX7_note 0 = .ok (.aload_n 0, 1) := by decide +kernel
theorem dX7_note_1 : decode cX7_note 1 = .ok (.getfield 209, 3) := by decide +kernel
theorem dX7_note_4 : decode cX7_note 4 = .ok (.bipush 16, 2) := by decide +kernel
theorem dX7_note_6 : decode cX7_note 6 = .ok (.if_icmp .ne 43, 3) := by decide +kernel
theorem dX7_note_9 : decode cX7_note 9 = .ok (.iconst 0, 1) := by decide +kernel
theorem dX7_note_10 : decode cX7_note 10 = .ok (.istore_n 1, 1) := by decide +kernel
theorem dX7_note_11 : decode cX7_note 11 = .ok (.iload_n 1, 1) := by decide +kernel
theorem dX7_note_12 : decode cX7_note 12 = .ok (.sipush 390, 3) := by decide +kernel
theorem dX7_note_15 : decode cX7_note 15 = .ok (.if_icmp .ge 24, 3) := by decide +kernel
theorem dX7_note_18 : decode cX7_note 18 = .ok (.aload_n 0, 1) := by decide +kernel
theorem dX7_note_19 : decode cX7_note 19 = .ok (.getfield 29, 3) := by decide +kernel
theorem dX7_note_22 : decode cX7_note 22 = .ok (.iload_n 1, 1) := by decide +kernel
theorem dX7_note_23 : decode cX7_note 23 = .ok (.aload_n 0, 1) := by decide +kernel
theorem dX7_note_24 : decode cX7_note 24 = .ok (.getfield 29, 3) := by decide +kernel
theorem dX7_note_27 : decode cX7_note 27 = .ok (.iload_n 1, 1) := by decide +kernel
theorem dX7_note_28 : decode cX7_note 28 = .ok (.bipush 26, 2) := by decide +kernel
theorem dX7_note_30 : decode cX7_note 30 = .ok (.iadd, 1) := by decide +kernel
theorem dX7_note_31 : decode cX7_note 31 = .ok (.iaload, 1) := by decide +kernel
theorem dX7_note_32 : decode cX7_note 32 = .ok (.iastore, 1) := by decide +kernel
theorem dX7_note_33 : decode cX7_note 33 = .ok (.iinc 1 1, 3) := by decide +kernel
theorem dX7_note_36 : decode cX7_note 36 = .ok (.goto (-25), 3) := by decide +kernel
theorem dX7_note_39 : decode cX7_note 39 = .ok (.aload_n 0, 1) := by decide +kernel
theorem dX7_note_40 : decode cX7_note 40 = .ok (.dup, 1) := by decide +kernel
theorem dX7_note_41 : decode cX7_note 41 = .ok (.getfield 209, 3) := by decide +kernel
theorem dX7_note_44 : decode cX7_note 44 = .ok (.iconst 1, 1) := by decide +kernel
theorem dX7_note_45 : decode cX7_note 45 = .ok (.isub, 1) := by decide +kernel
theorem dX7_note_46 : decode cX7_note 46 = .ok (.putfield 209, 3) := by decide +kernel
theorem dX7_note_49 : decode cX7_note 49 = .ok (.aload_n 0, 1) := by decide +kernel
theorem dX7_note_50 : decode cX7_note 50 = .ok (.getfield 26, 3) := by decide +kernel
theorem dX7_note_53 : decode cX7_note 53 = .ok (.iconst 0, 1) := by decide +kernel
theorem dX7_note_54 : decode cX7_note 54 = .ok (.aload_n 0, 1) := by decide +kernel
theorem dX7_note_55 : decode cX7_note 55 = .ok (.getfield 29, 3) := by decide +kernel
theorem dX7_note_58 : decode cX7_note 58 = .ok (.bipush 26, 2) := by decide +kernel
theorem dX7_note_60 : decode cX7_note 60 = .ok (.aload_n 0, 1) := by decide +kernel
theorem dX7_note_61 : decode cX7_note 61 = .ok (.getfield 209, 3) := by decide +kernel
theorem dX7_note_64 : decode cX7_note 64 = .ok (.imul, 1) := by decide +kernel
theorem dX7_note_65 : decode cX7_note 65 = .ok (.bipush 26, 2) := by decide +kernel
theorem dX7_note_67 : decode cX7_note 67 = .ok (.invokestatic 198, 3) := by decide +kernel
theorem dX7_note_70 : decode cX7_note 70 = .ok (.aload_n 0, 1) := by decide +kernel
theorem dX7_note_71 : decode cX7_note 71 = .ok (.dup, 1) := by decide +kernel
theorem dX7_note_72 : decode cX7_note 72 = .ok (.getfield 209, 3) := by decide +kernel
theorem dX7_note_75 : decode cX7_note 75 = .ok (.iconst 1, 1) := by decide +kernel
theorem dX7_note_76 : decode cX7_note 76 = .ok (.iadd, 1) := by decide +kernel
theorem dX7_note_77 : decode cX7_note 77 = .ok (.putfield 209, 3) := by decide +kernel
theorem dX7_note_80 : decode cX7_note 80 = .ok (.return_, 1) := by decide +kernel
def f_X7_note_l11 : am_F := am_th (i_il 1) (am_th (i_ic (390)) (am_br (b_2 (fun x y => decide (y ≤ x))) (am_to 39) (am_th (i_al 0) (am_th (i_gr 7 18) (am_th (i_il 1) (am_th (i_al 0) (am_th (i_gr 7 18) (am_th (i_il 1) (am_th (i_ic (26)) (am_th (i_2 (fun x y => x + y)) (am_th (i_ia 0) (am_th (i_iS) (am_th (i_inc 1 (1)) (am_to 11))))))))))))))
def f_X7_note : am_F := am_th (i_al 0) (am_th (i_gi 7 20) (am_th (i_ic (16)) (am_br (b_2 (fun x y => decide (¬ x = y))) (am_th (i_al 0) (am_th (i_gr 7 17) (am_th (i_ic (0)) (am_th (i_al 0) (am_th (i_gr 7 18) (am_th (i_ic (26)) (am_th (i_al 0) (am_th (i_gi 7 20) (am_th (i_2 (fun x y => x * y)) (am_th (i_ic (26)) (am_th (i_cs 5 d_X7_copy) (am_th (i_al 0) (am_th (i_dup) (am_th (i_gi 7 20) (am_th (i_ic (1)) (am_th (i_2 (fun x y => x + y)) (am_th (i_pi 7 20) (r_v)))))))))))))))))) (am_th (i_ic (0)) (am_th (i_is 1) (am_sq 39 (am_lp 5000 11 f_X7_note_l11) (am_th (i_al 0) (am_th (i_dup) (am_th (i_gi 7 20) (am_th (i_ic (1)) (am_th (i_2 (fun x y => x - y)) (am_th (i_pi 7 20) (am_th (i_al 0) (am_th (i_gr 7 17) (am_th (i_ic (0)) (am_th (i_al 0) (am_th (i_gr 7 18) (am_th (i_ic (26)) (am_th (i_al 0) (am_th (i_gi 7 20) (am_th (i_2 (fun x y => x * y)) (am_th (i_ic (26)) (am_th (i_cs 5 d_X7_copy) (am_th (i_al 0) (am_th (i_dup) (am_th (i_gi 7 20) (am_th (i_ic (1)) (am_th (i_2 (fun x y => x + y)) (am_th (i_pi 7 20) (r_v))))))))))))))))))))))))))))))
def d_X7_note : am_D := am_den 2 f_X7_note
set_option maxHeartbeats 4000000 in
set_option maxRecDepth 100000 in
theorem b_X7_note : am_Body yX7_note cX7_note 2 none 1 25 f_X7_note := by
  intro p l e R s m args below meth c g n0 z0 r0 u0 C hr hn
  have C : am_Cx p l e R s m args below meth c g RX7 cX7_note 2 n0 z0 (am_len u0) (am_wt u0) 1 25 := C
  have l11 : am_Snd (am_GM p l e R s m args below meth c g 2 n0 z0 r0 u0) (am_Rt r0 u0) 11 (f_X7_note_l11) := by
    unfold f_X7_note_l11
    exact (so_th (so_iload_n C dX7_note_11 rfl) (so_th (so_sipush C dX7_note_12 (by decide)) (so_br (so_icmp_ge C dX7_note_15 (by decide)) (so_to) (so_th (so_aload_n C dX7_note_18 rfl) (so_th (so_getr C fl_RX7_29 dX7_note_19) (so_th (so_iload_n C dX7_note_22 rfl) (so_th (so_aload_n C dX7_note_23 rfl) (so_th (so_getr C fl_RX7_29 dX7_note_24) (so_th (so_iload_n C dX7_note_27 rfl) (so_th (so_bipush C dX7_note_28 (by decide)) (so_th (so_iadd C dX7_note_30) (so_th (so_iald C dX7_note_31) (so_th (so_iast C dX7_note_32) (so_th (so_iinc C dX7_note_33 (by decide) (by decide)) (so_goto C dX7_note_36 (by decide) (so_to))))))))))))))))
  unfold f_X7_note
  exact (so_th (so_aload_n C dX7_note_0 rfl) (so_th (so_geti C fl_RX7_209 (by decide) dX7_note_1) (so_th (so_bipush C dX7_note_4 (by decide)) (so_br (so_icmp_ne C dX7_note_6 (by decide)) (so_th (so_aload_n C dX7_note_49 rfl) (so_th (so_getr C fl_RX7_26 dX7_note_50) (so_th (so_iconst C dX7_note_53 (by decide)) (so_th (so_aload_n C dX7_note_54 rfl) (so_th (so_getr C fl_RX7_29 dX7_note_55) (so_th (so_bipush C dX7_note_58 (by decide)) (so_th (so_aload_n C dX7_note_60 rfl) (so_th (so_geti C fl_RX7_209 (by decide) dX7_note_61) (so_th (so_imul C dX7_note_64) (so_th (so_bipush C dX7_note_65 (by decide)) (so_th (so_cs C m_X7_copy k_602 k_604 k_603 k_475 ⟨by decide, by decide, by decide +kernel⟩ (by decide) dX7_note_67) (so_th (so_aload_n C dX7_note_70 rfl) (so_th (so_dup C dX7_note_71) (so_th (so_geti C fl_RX7_209 (by decide) dX7_note_72) (so_th (so_iconst C dX7_note_75 (by decide)) (so_th (so_iadd C dX7_note_76) (so_th (so_puti C fl_RX7_209 fp_7 (Or.inl rfl) dX7_note_77) (so_rv C hr dX7_note_80)))))))))))))))))) (so_th (so_iconst C dX7_note_9 (by decide)) (so_th (so_istore_n C dX7_note_10 rfl (by decide)) (so_sq (so_lp l11 5000) (so_th (so_aload_n C dX7_note_39 rfl) (so_th (so_dup C dX7_note_40) (so_th (so_geti C fl_RX7_209 (by decide) dX7_note_41) (so_th (so_iconst C dX7_note_44 (by decide)) (so_th (so_isub C dX7_note_45) (so_th (so_puti C fl_RX7_209 fp_7 (Or.inl rfl) dX7_note_46) (so_th (so_aload_n C dX7_note_49 rfl) (so_th (so_getr C fl_RX7_26 dX7_note_50) (so_th (so_iconst C dX7_note_53 (by decide)) (so_th (so_aload_n C dX7_note_54 rfl) (so_th (so_getr C fl_RX7_29 dX7_note_55) (so_th (so_bipush C dX7_note_58 (by decide)) (so_th (so_aload_n C dX7_note_60 rfl) (so_th (so_geti C fl_RX7_209 (by decide) dX7_note_61) (so_th (so_imul C dX7_note_64) (so_th (so_bipush C dX7_note_65 (by decide)) (so_th (so_cs C m_X7_copy k_602 k_604 k_603 k_475 ⟨by decide, by decide, by decide +kernel⟩ (by decide) dX7_note_67) (so_th (so_aload_n C dX7_note_70 rfl) (so_th (so_dup C dX7_note_71) (so_th (so_geti C fl_RX7_209 (by decide) dX7_note_72) (so_th (so_iconst C dX7_note_75 (by decide)) (so_th (so_iadd C dX7_note_76) (so_th (so_puti C fl_RX7_209 fp_7 (Or.inl rfl) dX7_note_77) (so_rv C hr dX7_note_80)))))))))))))))))))))))))))))))
theorem m_X7_note : am_M yX7_note cX7_note 2 none 1 25 d_X7_note := am_M_of (by decide +kernel) b_X7_note
theorem dX7_graft_0 : decode cX7_graft 0 = .ok (.aload_n 0, 1) := by decide +kernel
theorem dX7_graft_1 : decode cX7_graft 1 = .ok (.invokevirtual 189, 3) := by decide +kernel
theorem dX7_graft_4 : decode cX7_graft 4 = .ok (.aload_n 0, 1) := by decide +kernel
theorem dX7_graft_5 : decode cX7_graft 5 = .ok (.iload_n 1, 1) := by decide +kernel
theorem dX7_graft_6 : decode cX7_graft 6 = .ok (.invokevirtual 322, 3) := by decide +kernel
theorem dX7_graft_9 : decode cX7_graft 9 = .ok (.ifCond .eq 11, 3) := by decide +kernel
theorem dX7_graft_12 : decode cX7_graft 12 = .ok (.aload_n 0, 1) := by decide +kernel
theorem dX7_graft_13 : decode cX7_graft 13 = .ok (.iload_n 2, 1) := by decide +kernel
theorem dX7_graft_14 : decode cX7_graft 14 = .ok (.invokevirtual 322, 3) := by decide +kernel
theorem dX7_graft_17 : decode cX7_graft 17 = .ok (.ifCond .ne 9, 3) := by decide +kernel
theorem dX7_graft_20 : decode cX7_graft 20 = .ok (.aload_n 0, 1) := by decide +kernel
theorem dX7_graft_21 : decode cX7_graft 21 = .ok (.iconst 1, 1) := by decide +kernel
theorem dX7_graft_22 : decode cX7_graft 22 = .ok (.invokevirtual 192, 3) := by decide +kernel
theorem dX7_graft_25 : decode cX7_graft 25 = .ok (.ireturn, 1) := by decide +kernel
theorem dX7_graft_26 : decode cX7_graft 26 = .ok (.aload_n 0, 1) := by decide +kernel
theorem dX7_graft_27 : decode cX7_graft 27 = .ok (.aload_n 0, 1) := by decide +kernel
theorem dX7_graft_28 : decode cX7_graft 28 = .ok (.getfield 26, 3) := by decide +kernel
theorem dX7_graft_31 : decode cX7_graft 31 = .ok (.iload_n 1, 1) := by decide +kernel
theorem dX7_graft_32 : decode cX7_graft 32 = .ok (.iload_n 2, 1) := by decide +kernel
theorem dX7_graft_33 : decode cX7_graft 33 = .ok (.invokevirtual 354, 3) := by decide +kernel
theorem dX7_graft_36 : decode cX7_graft 36 = .ok (.ifCond .ne 9, 3) := by decide +kernel
theorem dX7_graft_39 : decode cX7_graft 39 = .ok (.aload_n 0, 1) := by decide +kernel
theorem dX7_graft_40 : decode cX7_graft 40 = .ok (.iconst 5, 1) := by decide +kernel
theorem dX7_graft_41 : decode cX7_graft 41 = .ok (.invokevirtual 192, 3) := by decide +kernel
theorem dX7_graft_44 : decode cX7_graft 44 = .ok (.ireturn, 1) := by decide +kernel
theorem dX7_graft_45 : decode cX7_graft 45 = .ok (.aload_n 0, 1) := by decide +kernel
theorem dX7_graft_46 : decode cX7_graft 46 = .ok (.invokevirtual 446, 3) := by decide +kernel
theorem dX7_graft_49 : decode cX7_graft 49 = .ok (.aload_n 0, 1) := by decide +kernel
theorem dX7_graft_50 : decode cX7_graft 50 = .ok (.aload_n 0, 1) := by decide +kernel
theorem dX7_graft_51 : decode cX7_graft 51 = .ok (.getfield 26, 3) := by decide +kernel
theorem dX7_graft_54 : decode cX7_graft 54 = .ok (.iload_n 1, 1) := by decide +kernel
theorem dX7_graft_55 : decode cX7_graft 55 = .ok (.iload_n 2, 1) := by decide +kernel
theorem dX7_graft_56 : decode cX7_graft 56 = .ok (.invokevirtual 367, 3) := by decide +kernel
theorem dX7_graft_59 : decode cX7_graft 59 = .ok (.aload_n 0, 1) := by decide +kernel
theorem dX7_graft_60 : decode cX7_graft 60 = .ok (.getfield 26, 3) := by decide +kernel
theorem dX7_graft_63 : decode cX7_graft 63 = .ok (.iload_n 2, 1) := by decide +kernel
theorem dX7_graft_64 : decode cX7_graft 64 = .ok (.iaload, 1) := by decide +kernel
theorem dX7_graft_65 : decode cX7_graft 65 = .ok (.ireturn, 1) := by decide +kernel
def f_X7_graft : am_F := am_th (i_al 0) (am_th (i_cv 7 0 d_X7_good) (am_th (i_al 0) (am_th (i_il 1) (am_th (i_cv 7 1 d_X7_isQuarrel) (am_br (b_1 (fun x => decide (x = 0))) (am_th (i_al 0) (am_th (i_ic (1)) (am_th (i_cv 7 1 d_X7_no) (r_i)))) (am_th (i_al 0) (am_th (i_il 2) (am_th (i_cv 7 1 d_X7_isQuarrel) (am_br (b_1 (fun x => decide (¬ x = 0))) (am_th (i_al 0) (am_th (i_al 0) (am_th (i_gr 7 17) (am_th (i_il 1) (am_th (i_il 2) (am_th (i_cv 7 3 d_X7_oddsIn) (am_br (b_1 (fun x => decide (¬ x = 0))) (am_th (i_al 0) (am_th (i_cv 7 0 d_X7_note) (am_th (i_al 0) (am_th (i_al 0) (am_th (i_gr 7 17) (am_th (i_il 1) (am_th (i_il 2) (am_th (i_cv 7 3 d_X7_grafts) (am_th (i_al 0) (am_th (i_gr 7 17) (am_th (i_il 2) (am_th (i_ia 0) (r_i))))))))))))) (am_th (i_al 0) (am_th (i_ic (5)) (am_th (i_cv 7 1 d_X7_no) (r_i))))))))))) (am_th (i_al 0) (am_th (i_ic (1)) (am_th (i_cv 7 1 d_X7_no) (r_i)))))))))))))
def d_X7_graft : am_D := am_den 3 f_X7_graft
set_option maxHeartbeats 4000000 in
set_option maxRecDepth 100000 in
theorem b_X7_graft : am_Body yX7_graft cX7_graft 3 (some .int) 4 93 f_X7_graft := by
  intro p l e R s m args below meth c g n0 z0 r0 u0 C hr hn
  have C : am_Cx p l e R s m args below meth c g RX7 cX7_graft 3 n0 z0 (am_len u0) (am_wt u0) 4 93 := C
  unfold f_X7_graft
  exact (so_th (so_aload_n C dX7_graft_0 rfl) (so_th (so_cv C m_X7_good rfl k_594 k_596 k_595 k_597 k_475 ⟨by decide, by decide, by decide +kernel⟩ (by decide) dX7_graft_1) (so_th (so_aload_n C dX7_graft_4 rfl) (so_th (so_iload_n C dX7_graft_5 rfl) (so_th (so_cv C m_X7_isQuarrel rfl k_658 k_660 k_659 k_661 k_475 ⟨by decide, by decide, by decide +kernel⟩ (by decide) dX7_graft_6) (so_br (so_if_eq C dX7_graft_9 (by decide)) (so_th (so_aload_n C dX7_graft_20 rfl) (so_th (so_iconst C dX7_graft_21 (by decide)) (so_th (so_cv C m_X7_no rfl k_609 k_611 k_610 k_612 k_475 ⟨by decide, by decide, by decide +kernel⟩ (by decide) dX7_graft_22) (so_ri C hr dX7_graft_25)))) (so_th (so_aload_n C dX7_graft_12 rfl) (so_th (so_iload_n C dX7_graft_13 rfl) (so_th (so_cv C m_X7_isQuarrel rfl k_658 k_660 k_659 k_661 k_475 ⟨by decide, by decide, by decide +kernel⟩ (by decide) dX7_graft_14) (so_br (so_if_ne C dX7_graft_17 (by decide)) (so_th (so_aload_n C dX7_graft_26 rfl) (so_th (so_aload_n C dX7_graft_27 rfl) (so_th (so_getr C fl_RX7_26 dX7_graft_28) (so_th (so_iload_n C dX7_graft_31 rfl) (so_th (so_iload_n C dX7_graft_32 rfl) (so_th (so_cv C m_X7_oddsIn rfl k_698 k_700 k_699 k_701 k_475 ⟨by decide, by decide, by decide +kernel⟩ (by decide) dX7_graft_33) (so_br (so_if_ne C dX7_graft_36 (by decide)) (so_th (so_aload_n C dX7_graft_45 rfl) (so_th (so_cv C m_X7_note rfl k_785 k_787 k_786 k_788 k_475 ⟨by decide, by decide, by decide +kernel⟩ (by decide) dX7_graft_46) (so_th (so_aload_n C dX7_graft_49 rfl) (so_th (so_aload_n C dX7_graft_50 rfl) (so_th (so_getr C fl_RX7_26 dX7_graft_51) (so_th (so_iload_n C dX7_graft_54 rfl) (so_th (so_iload_n C dX7_graft_55 rfl) (so_th (so_cv C m_X7_grafts rfl k_702 k_704 k_703 k_705 k_475 ⟨by decide, by decide, by decide +kernel⟩ (by decide) dX7_graft_56) (so_th (so_aload_n C dX7_graft_59 rfl) (so_th (so_getr C fl_RX7_26 dX7_graft_60) (so_th (so_iload_n C dX7_graft_63 rfl) (so_th (so_iald C dX7_graft_64) (so_ri C hr dX7_graft_65))))))))))))) (so_th (so_aload_n C dX7_graft_39 rfl) (so_th (so_iconst C dX7_graft_40 (by decide)) (so_th (so_cv C m_X7_no rfl k_609 k_611 k_610 k_612 k_475 ⟨by decide, by decide, by decide +kernel⟩ (by decide) dX7_graft_41) (so_ri C hr dX7_graft_44))))))))))) (so_th (so_aload_n C dX7_graft_20 rfl) (so_th (so_iconst C dX7_graft_21 (by decide)) (so_th (so_cv C m_X7_no rfl k_609 k_611 k_610 k_612 k_475 ⟨by decide, by decide, by decide +kernel⟩ (by decide) dX7_graft_22) (so_ri C hr dX7_graft_25))))))))))))))
theorem m_X7_graft : am_M yX7_graft cX7_graft 3 (some .int) 4 93 d_X7_graft := am_M_of (by decide +kernel) b_X7_graft
theorem dX7_nourish_0 : decode cX7_nourish 0 = .ok (.aload_n 0, 1) := by decide +kernel
theorem dX7_nourish_1 : decode cX7_nourish 1 = .ok (.invokevirtual 189, 3) := by decide +kernel
theorem dX7_nourish_4 : decode cX7_nourish 4 = .ok (.aload_n 0, 1) := by decide +kernel
theorem dX7_nourish_5 : decode cX7_nourish 5 = .ok (.iload_n 1, 1) := by decide +kernel
theorem dX7_nourish_6 : decode cX7_nourish 6 = .ok (.invokevirtual 322, 3) := by decide +kernel
theorem dX7_nourish_9 : decode cX7_nourish 9 = .ok (.ifCond .ne 9, 3) := by decide +kernel
theorem dX7_nourish_12 : decode cX7_nourish 12 = .ok (.aload_n 0, 1) := by decide +kernel
theorem dX7_nourish_13 : decode cX7_nourish 13 = .ok (.iconst 1, 1) := by decide +kernel
theorem dX7_nourish_14 : decode cX7_nourish 14 = .ok (.invokevirtual 192, 3) := by decide +kernel
theorem dX7_nourish_17 : decode cX7_nourish 17 = .ok (.ireturn, 1) := by decide +kernel
theorem dX7_nourish_18 : decode cX7_nourish 18 = .ok (.iload_n 2, 1) := by decide +kernel
theorem dX7_nourish_19 : decode cX7_nourish 19 = .ok (.iconst 1, 1) := by decide +kernel
theorem dX7_nourish_20 : decode cX7_nourish 20 = .ok (.bipush 9, 2) := by decide +kernel
theorem dX7_nourish_22 : decode cX7_nourish 22 = .ok (.invokestatic 157, 3) := by decide +kernel
theorem dX7_nourish_25 : decode cX7_nourish 25 = .ok (.ifCond .ne 9, 3) := by decide +kernel
theorem dX7_nourish_28 : decode cX7_nourish 28 = .ok (.aload_n 0, 1) := by decide +kernel
theorem dX7_nourish_29 : decode cX7_nourish 29 = .ok (.iconst 2, 1) := by decide +kernel
theorem dX7_nourish_30 : decode cX7_nourish 30 = .ok (.invokevirtual 192, 3) := by decide +kernel
theorem dX7_nourish_33 : decode cX7_nourish 33 = .ok (.ireturn, 1) := by decide +kernel
theorem dX7_nourish_34 : decode cX7_nourish 34 = .ok (.aload_n 0, 1) := by decide +kernel
theorem dX7_nourish_35 : decode cX7_nourish 35 = .ok (.getfield 26, 3) := by decide +kernel
theorem dX7_nourish_38 : decode cX7_nourish 38 = .ok (.iload_n 1, 1) := by decide +kernel
theorem dX7_nourish_39 : decode cX7_nourish 39 = .ok (.invokestatic 278, 3) := by decide +kernel
theorem dX7_nourish_42 : decode cX7_nourish 42 = .ok (.ifCond .ne 9, 3) := by decide +kernel
theorem dX7_nourish_45 : decode cX7_nourish 45 = .ok (.aload_n 0, 1) := by decide +kernel
theorem dX7_nourish_46 : decode cX7_nourish 46 = .ok (.iconst 5, 1) := by decide +kernel
theorem dX7_nourish_47 : decode cX7_nourish 47 = .ok (.invokevirtual 192, 3) := by decide +kernel
theorem dX7_nourish_50 : decode cX7_nourish 50 = .ok (.ireturn, 1) := by decide +kernel
theorem dX7_nourish_51 : decode cX7_nourish 51 = .ok (.aload_n 0, 1) := by decide +kernel
theorem dX7_nourish_52 : decode cX7_nourish 52 = .ok (.invokevirtual 446, 3) := by decide +kernel
theorem dX7_nourish_55 : decode cX7_nourish 55 = .ok (.aload_n 0, 1) := by decide +kernel
theorem dX7_nourish_56 : decode cX7_nourish 56 = .ok (.getfield 26, 3) := by decide +kernel
theorem dX7_nourish_59 : decode cX7_nourish 59 = .ok (.iload_n 1, 1) := by decide +kernel
theorem dX7_nourish_60 : decode cX7_nourish 60 = .ok (.dup2, 1) := by decide +kernel
theorem dX7_nourish_61 : decode cX7_nourish 61 = .ok (.iaload, 1) := by decide +kernel
theorem dX7_nourish_62 : decode cX7_nourish 62 = .ok (.iload_n 2, 1) := by decide +kernel
theorem dX7_nourish_63 : decode cX7_nourish 63 = .ok (.iadd, 1) := by decide +kernel
theorem dX7_nourish_64 : decode cX7_nourish 64 = .ok (.iastore, 1) := by decide +kernel
theorem dX7_nourish_65 : decode cX7_nourish 65 = .ok (.aload_n 0, 1) := by decide +kernel
theorem dX7_nourish_66 : decode cX7_nourish 66 = .ok (.getfield 26, 3) := by decide +kernel
theorem dX7_nourish_69 : decode cX7_nourish 69 = .ok (.iload_n 1, 1) := by decide +kernel
theorem dX7_nourish_70 : decode cX7_nourish 70 = .ok (.iaload, 1) := by decide +kernel
theorem dX7_nourish_71 : decode cX7_nourish 71 = .ok (.ireturn, 1) := by decide +kernel
def f_X7_nourish : am_F := am_th (i_al 0) (am_th (i_cv 7 0 d_X7_good) (am_th (i_al 0) (am_th (i_il 1) (am_th (i_cv 7 1 d_X7_isQuarrel) (am_br (b_1 (fun x => decide (¬ x = 0))) (am_th (i_il 2) (am_th (i_ic (1)) (am_th (i_ic (9)) (am_th (i_cs 3 d_X7_in) (am_br (b_1 (fun x => decide (¬ x = 0))) (am_th (i_al 0) (am_th (i_gr 7 17) (am_th (i_il 1) (am_th (i_cs 2 d_X7_stands) (am_br (b_1 (fun x => decide (¬ x = 0))) (am_th (i_al 0) (am_th (i_cv 7 0 d_X7_note) (am_th (i_al 0) (am_th (i_gr 7 17) (am_th (i_il 1) (am_th (i_dup2) (am_th (i_ia 0) (am_th (i_il 2) (am_th (i_2 (fun x y => x + y)) (am_th (i_iS) (am_th (i_al 0) (am_th (i_gr 7 17) (am_th (i_il 1) (am_th (i_ia 0) (r_i))))))))))))))) (am_th (i_al 0) (am_th (i_ic (5)) (am_th (i_cv 7 1 d_X7_no) (r_i))))))))) (am_th (i_al 0) (am_th (i_ic (2)) (am_th (i_cv 7 1 d_X7_no) (r_i))))))))) (am_th (i_al 0) (am_th (i_ic (1)) (am_th (i_cv 7 1 d_X7_no) (r_i)))))))))
def d_X7_nourish : am_D := am_den 3 f_X7_nourish
set_option maxHeartbeats 4000000 in
set_option maxRecDepth 100000 in
theorem b_X7_nourish : am_Body yX7_nourish cX7_nourish 3 (some .int) 2 46 f_X7_nourish := by
  intro p l e R s m args below meth c g n0 z0 r0 u0 C hr hn
  have C : am_Cx p l e R s m args below meth c g RX7 cX7_nourish 3 n0 z0 (am_len u0) (am_wt u0) 2 46 := C
  unfold f_X7_nourish
  exact (so_th (so_aload_n C dX7_nourish_0 rfl) (so_th (so_cv C m_X7_good rfl k_594 k_596 k_595 k_597 k_475 ⟨by decide, by decide, by decide +kernel⟩ (by decide) dX7_nourish_1) (so_th (so_aload_n C dX7_nourish_4 rfl) (so_th (so_iload_n C dX7_nourish_5 rfl) (so_th (so_cv C m_X7_isQuarrel rfl k_658 k_660 k_659 k_661 k_475 ⟨by decide, by decide, by decide +kernel⟩ (by decide) dX7_nourish_6) (so_br (so_if_ne C dX7_nourish_9 (by decide)) (so_th (so_iload_n C dX7_nourish_18 rfl) (so_th (so_iconst C dX7_nourish_19 (by decide)) (so_th (so_bipush C dX7_nourish_20 (by decide)) (so_th (so_cs C m_X7_in k_511 k_513 k_512 k_475 ⟨by decide, by decide, by decide +kernel⟩ (by decide) dX7_nourish_22) (so_br (so_if_ne C dX7_nourish_25 (by decide)) (so_th (so_aload_n C dX7_nourish_34 rfl) (so_th (so_getr C fl_RX7_26 dX7_nourish_35) (so_th (so_iload_n C dX7_nourish_38 rfl) (so_th (so_cs C m_X7_stands k_613 k_615 k_614 k_475 ⟨by decide, by decide, by decide +kernel⟩ (by decide) dX7_nourish_39) (so_br (so_if_ne C dX7_nourish_42 (by decide)) (so_th (so_aload_n C dX7_nourish_51 rfl) (so_th (so_cv C m_X7_note rfl k_785 k_787 k_786 k_788 k_475 ⟨by decide, by decide, by decide +kernel⟩ (by decide) dX7_nourish_52) (so_th (so_aload_n C dX7_nourish_55 rfl) (so_th (so_getr C fl_RX7_26 dX7_nourish_56) (so_th (so_iload_n C dX7_nourish_59 rfl) (so_th (so_dup2 C dX7_nourish_60) (so_th (so_iald C dX7_nourish_61) (so_th (so_iload_n C dX7_nourish_62 rfl) (so_th (so_iadd C dX7_nourish_63) (so_th (so_iast C dX7_nourish_64) (so_th (so_aload_n C dX7_nourish_65 rfl) (so_th (so_getr C fl_RX7_26 dX7_nourish_66) (so_th (so_iload_n C dX7_nourish_69 rfl) (so_th (so_iald C dX7_nourish_70) (so_ri C hr dX7_nourish_71))))))))))))))) (so_th (so_aload_n C dX7_nourish_45 rfl) (so_th (so_iconst C dX7_nourish_46 (by decide)) (so_th (so_cv C m_X7_no rfl k_609 k_611 k_610 k_612 k_475 ⟨by decide, by decide, by decide +kernel⟩ (by decide) dX7_nourish_47) (so_ri C hr dX7_nourish_50))))))))) (so_th (so_aload_n C dX7_nourish_28 rfl) (so_th (so_iconst C dX7_nourish_29 (by decide)) (so_th (so_cv C m_X7_no rfl k_609 k_611 k_610 k_612 k_475 ⟨by decide, by decide, by decide +kernel⟩ (by decide) dX7_nourish_30) (so_ri C hr dX7_nourish_33))))))))) (so_th (so_aload_n C dX7_nourish_12 rfl) (so_th (so_iconst C dX7_nourish_13 (by decide)) (so_th (so_cv C m_X7_no rfl k_609 k_611 k_610 k_612 k_475 ⟨by decide, by decide, by decide +kernel⟩ (by decide) dX7_nourish_14) (so_ri C hr dX7_nourish_17))))))))))
theorem m_X7_nourish : am_M yX7_nourish cX7_nourish 3 (some .int) 2 46 d_X7_nourish := am_M_of (by decide +kernel) b_X7_nourish
theorem dX7_cut_0 : decode cX7_cut 0 = .ok (.aload_n 0, 1) := by decide +kernel
theorem dX7_cut_1 : decode cX7_cut 1 = .ok (.invokevirtual 189, 3) := by decide +kernel
theorem dX7_cut_4 : decode cX7_cut 4 = .ok (.aload_n 0, 1) := by decide +kernel
theorem dX7_cut_5 : decode cX7_cut 5 = .ok (.iload_n 1, 1) := by decide +kernel
theorem dX7_cut_6 : decode cX7_cut 6 = .ok (.invokevirtual 322, 3) := by decide +kernel
theorem dX7_cut_9 : decode cX7_cut 9 = .ok (.ifCond .ne 9, 3) := by decide +kernel
theorem dX7_cut_12 : decode cX7_cut 12 = .ok (.aload_n 0, 1) := by decide +kernel
theorem dX7_cut_13 : decode cX7_cut 13 = .ok (.iconst 1, 1) := by decide +kernel
theorem dX7_cut_14 : decode cX7_cut 14 = .ok (.invokevirtual 192, 3) := by decide +kernel
theorem dX7_cut_17 : decode cX7_cut 17 = .ok (.ireturn, 1) := by decide +kernel
theorem dX7_cut_18 : decode cX7_cut 18 = .ok (.aload_n 0, 1) := by decide +kernel
theorem dX7_cut_19 : decode cX7_cut 19 = .ok (.getfield 26, 3) := by decide +kernel
theorem dX7_cut_22 : decode cX7_cut 22 = .ok (.iload_n 1, 1) := by decide +kernel
theorem dX7_cut_23 : decode cX7_cut 23 = .ok (.invokestatic 278, 3) := by decide +kernel
theorem dX7_cut_26 : decode cX7_cut 26 = .ok (.ifCond .ne 9, 3) := by decide +kernel
theorem dX7_cut_29 : decode cX7_cut 29 = .ok (.aload_n 0, 1) := by decide +kernel
theorem dX7_cut_30 : decode cX7_cut 30 = .ok (.iconst 5, 1) := by decide +kernel
theorem dX7_cut_31 : decode cX7_cut 31 = .ok (.invokevirtual 192, 3) := by decide +kernel
theorem dX7_cut_34 : decode cX7_cut 34 = .ok (.ireturn, 1) := by decide +kernel
theorem dX7_cut_35 : decode cX7_cut 35 = .ok (.iload_n 2, 1) := by decide +kernel
theorem dX7_cut_36 : decode cX7_cut 36 = .ok (.iconst 1, 1) := by decide +kernel
theorem dX7_cut_37 : decode cX7_cut 37 = .ok (.bipush 30, 2) := by decide +kernel
theorem dX7_cut_39 : decode cX7_cut 39 = .ok (.aload_n 0, 1) := by decide +kernel
theorem dX7_cut_40 : decode cX7_cut 40 = .ok (.getfield 26, 3) := by decide +kernel
theorem dX7_cut_43 : decode cX7_cut 43 = .ok (.iload_n 1, 1) := by decide +kernel
theorem dX7_cut_44 : decode cX7_cut 44 = .ok (.iaload, 1) := by decide +kernel
theorem dX7_cut_45 : decode cX7_cut 45 = .ok (.invokestatic 403, 3) := by decide +kernel
theorem dX7_cut_48 : decode cX7_cut 48 = .ok (.invokestatic 157, 3) := by decide +kernel
theorem dX7_cut_51 : decode cX7_cut 51 = .ok (.ifCond .ne 9, 3) := by decide +kernel
theorem dX7_cut_54 : decode cX7_cut 54 = .ok (.aload_n 0, 1) := by decide +kernel
theorem dX7_cut_55 : decode cX7_cut 55 = .ok (.iconst 2, 1) := by decide +kernel
theorem dX7_cut_56 : decode cX7_cut 56 = .ok (.invokevirtual 192, 3) := by decide +kernel
theorem dX7_cut_59 : decode cX7_cut 59 = .ok (.ireturn, 1) := by decide +kernel
theorem dX7_cut_60 : decode cX7_cut 60 = .ok (.aload_n 0, 1) := by decide +kernel
theorem dX7_cut_61 : decode cX7_cut 61 = .ok (.invokevirtual 446, 3) := by decide +kernel
theorem dX7_cut_64 : decode cX7_cut 64 = .ok (.aload_n 0, 1) := by decide +kernel
theorem dX7_cut_65 : decode cX7_cut 65 = .ok (.getfield 26, 3) := by decide +kernel
theorem dX7_cut_68 : decode cX7_cut 68 = .ok (.iload_n 1, 1) := by decide +kernel
theorem dX7_cut_69 : decode cX7_cut 69 = .ok (.dup2, 1) := by decide +kernel
theorem dX7_cut_70 : decode cX7_cut 70 = .ok (.iaload, 1) := by decide +kernel
theorem dX7_cut_71 : decode cX7_cut 71 = .ok (.iload_n 2, 1) := by decide +kernel
theorem dX7_cut_72 : decode cX7_cut 72 = .ok (.isub, 1) := by decide +kernel
theorem dX7_cut_73 : decode cX7_cut 73 = .ok (.iastore, 1) := by decide +kernel
theorem dX7_cut_74 : decode cX7_cut 74 = .ok (.aload_n 0, 1) := by decide +kernel
theorem dX7_cut_75 : decode cX7_cut 75 = .ok (.getfield 26, 3) := by decide +kernel
theorem dX7_cut_78 : decode cX7_cut 78 = .ok (.bipush 25, 2) := by decide +kernel
theorem dX7_cut_80 : decode cX7_cut 80 = .ok (.dup2, 1) := by decide +kernel
theorem dX7_cut_81 : decode cX7_cut 81 = .ok (.iaload, 1) := by decide +kernel
theorem dX7_cut_82 : decode cX7_cut 82 = .ok (.iload_n 2, 1) := by decide +kernel
theorem dX7_cut_83 : decode cX7_cut 83 = .ok (.aload_n 0, 1) := by decide +kernel
theorem dX7_cut_84 : decode cX7_cut 84 = .ok (.aload_n 0, 1) := by decide +kernel
theorem dX7_cut_85 : decode cX7_cut 85 = .ok (.getfield 26, 3) := by decide +kernel
theorem dX7_cut_88 : decode cX7_cut 88 = .ok (.bipush 24, 2) := by decide +kernel
theorem dX7_cut_90 : decode cX7_cut 90 = .ok (.iaload, 1) := by decide +kernel
theorem dX7_cut_91 : decode cX7_cut 91 = .ok (.invokevirtual 393, 3) := by decide +kernel
theorem dX7_cut_94 : decode cX7_cut 94 = .ok (.imul, 1) := by decide +kernel
theorem dX7_cut_95 : decode cX7_cut 95 = .ok (.iadd, 1) := by decide +kernel
theorem dX7_cut_96 : decode cX7_cut 96 = .ok (.iastore, 1) := by decide +kernel
theorem dX7_cut_97 : decode cX7_cut 97 = .ok (.aload_n 0, 1) := by decide +kernel
theorem dX7_cut_98 : decode cX7_cut 98 = .ok (.getfield 26, 3) := by decide +kernel
theorem dX7_cut_101 : decode cX7_cut 101 = .ok (.bipush 25, 2) := by decide +kernel
theorem dX7_cut_103 : decode cX7_cut 103 = .ok (.iaload, 1) := by decide +kernel
theorem dX7_cut_104 : decode cX7_cut 104 = .ok (.ireturn, 1) := by decide +kernel
def f_X7_cut : am_F := am_th (i_al 0) (am_th (i_cv 7 0 d_X7_good) (am_th (i_al 0) (am_th (i_il 1) (am_th (i_cv 7 1 d_X7_isQuarrel) (am_br (b_1 (fun x => decide (¬ x = 0))) (am_th (i_al 0) (am_th (i_gr 7 17) (am_th (i_il 1) (am_th (i_cs 2 d_X7_stands) (am_br (b_1 (fun x => decide (¬ x = 0))) (am_th (i_il 2) (am_th (i_ic (1)) (am_th (i_ic (30)) (am_th (i_al 0) (am_th (i_gr 7 17) (am_th (i_il 1) (am_th (i_ia 0) (am_th (i_cs 2 d_X7_min) (am_th (i_cs 3 d_X7_in) (am_br (b_1 (fun x => decide (¬ x = 0))) (am_th (i_al 0) (am_th (i_cv 7 0 d_X7_note) (am_th (i_al 0) (am_th (i_gr 7 17) (am_th (i_il 1) (am_th (i_dup2) (am_th (i_ia 0) (am_th (i_il 2) (am_th (i_2 (fun x y => x - y)) (am_th (i_iS) (am_th (i_al 0) (am_th (i_gr 7 17) (am_th (i_ic (25)) (am_th (i_dup2) (am_th (i_ia 0) (am_th (i_il 2) (am_th (i_al 0) (am_th (i_al 0) (am_th (i_gr 7 17) (am_th (i_ic (24)) (am_th (i_ia 0) (am_th (i_cv 7 1 d_X7_coinOf) (am_th (i_2 (fun x y => x * y)) (am_th (i_2 (fun x y => x + y)) (am_th (i_iS) (am_th (i_al 0) (am_th (i_gr 7 17) (am_th (i_ic (25)) (am_th (i_ia 0) (r_i)))))))))))))))))))))))))))))) (am_th (i_al 0) (am_th (i_ic (2)) (am_th (i_cv 7 1 d_X7_no) (r_i)))))))))))))) (am_th (i_al 0) (am_th (i_ic (5)) (am_th (i_cv 7 1 d_X7_no) (r_i))))))))) (am_th (i_al 0) (am_th (i_ic (1)) (am_th (i_cv 7 1 d_X7_no) (r_i)))))))))
def d_X7_cut : am_D := am_den 3 f_X7_cut
set_option maxHeartbeats 4000000 in
set_option maxRecDepth 100000 in
theorem b_X7_cut : am_Body yX7_cut cX7_cut 3 (some .int) 2 46 f_X7_cut := by
  intro p l e R s m args below meth c g n0 z0 r0 u0 C hr hn
  have C : am_Cx p l e R s m args below meth c g RX7 cX7_cut 3 n0 z0 (am_len u0) (am_wt u0) 2 46 := C
  unfold f_X7_cut
  exact (so_th (so_aload_n C dX7_cut_0 rfl) (so_th (so_cv C m_X7_good rfl k_594 k_596 k_595 k_597 k_475 ⟨by decide, by decide, by decide +kernel⟩ (by decide) dX7_cut_1) (so_th (so_aload_n C dX7_cut_4 rfl) (so_th (so_iload_n C dX7_cut_5 rfl) (so_th (so_cv C m_X7_isQuarrel rfl k_658 k_660 k_659 k_661 k_475 ⟨by decide, by decide, by decide +kernel⟩ (by decide) dX7_cut_6) (so_br (so_if_ne C dX7_cut_9 (by decide)) (so_th (so_aload_n C dX7_cut_18 rfl) (so_th (so_getr C fl_RX7_26 dX7_cut_19) (so_th (so_iload_n C dX7_cut_22 rfl) (so_th (so_cs C m_X7_stands k_613 k_615 k_614 k_475 ⟨by decide, by decide, by decide +kernel⟩ (by decide) dX7_cut_23) (so_br (so_if_ne C dX7_cut_26 (by decide)) (so_th (so_iload_n C dX7_cut_35 rfl) (so_th (so_iconst C dX7_cut_36 (by decide)) (so_th (so_bipush C dX7_cut_37 (by decide)) (so_th (so_aload_n C dX7_cut_39 rfl) (so_th (so_getr C fl_RX7_26 dX7_cut_40) (so_th (so_iload_n C dX7_cut_43 rfl) (so_th (so_iald C dX7_cut_44) (so_th (so_cs C m_X7_min k_740 k_742 k_741 k_475 ⟨by decide, by decide, by decide +kernel⟩ (by decide) dX7_cut_45) (so_th (so_cs C m_X7_in k_511 k_513 k_512 k_475 ⟨by decide, by decide, by decide +kernel⟩ (by decide) dX7_cut_48) (so_br (so_if_ne C dX7_cut_51 (by decide)) (so_th (so_aload_n C dX7_cut_60 rfl) (so_th (so_cv C m_X7_note rfl k_785 k_787 k_786 k_788 k_475 ⟨by decide, by decide, by decide +kernel⟩ (by decide) dX7_cut_61) (so_th (so_aload_n C dX7_cut_64 rfl) (so_th (so_getr C fl_RX7_26 dX7_cut_65) (so_th (so_iload_n C dX7_cut_68 rfl) (so_th (so_dup2 C dX7_cut_69) (so_th (so_iald C dX7_cut_70) (so_th (so_iload_n C dX7_cut_71 rfl) (so_th (so_isub C dX7_cut_72) (so_th (so_iast C dX7_cut_73) (so_th (so_aload_n C dX7_cut_74 rfl) (so_th (so_getr C fl_RX7_26 dX7_cut_75) (so_th (so_bipush C dX7_cut_78 (by decide)) (so_th (so_dup2 C dX7_cut_80) (so_th (so_iald C dX7_cut_81) (so_th (so_iload_n C dX7_cut_82 rfl) (so_th (so_aload_n C dX7_cut_83 rfl) (so_th (so_aload_n C dX7_cut_84 rfl) (so_th (so_getr C fl_RX7_26 dX7_cut_85) (so_th (so_bipush C dX7_cut_88 (by decide)) (so_th (so_iald C dX7_cut_90) (so_th (so_cv C m_X7_coinOf rfl k_727 k_729 k_728 k_730 k_475 ⟨by decide, by decide, by decide +kernel⟩ (by decide) dX7_cut_91) (so_th (so_imul C dX7_cut_94) (so_th (so_iadd C dX7_cut_95) (so_th (so_iast C dX7_cut_96) (so_th (so_aload_n C dX7_cut_97 rfl) (so_th (so_getr C fl_RX7_26 dX7_cut_98) (so_th (so_bipush C dX7_cut_101 (by decide)) (so_th (so_iald C dX7_cut_103) (so_ri C hr dX7_cut_104)))))))))))))))))))))))))))))) (so_th (so_aload_n C dX7_cut_54 rfl) (so_th (so_iconst C dX7_cut_55 (by decide)) (so_th (so_cv C m_X7_no rfl k_609 k_611 k_610 k_612 k_475 ⟨by decide, by decide, by decide +kernel⟩ (by decide) dX7_cut_56) (so_ri C hr dX7_cut_59)))))))))))))) (so_th (so_aload_n C dX7_cut_29 rfl) (so_th (so_iconst C dX7_cut_30 (by decide)) (so_th (so_cv C m_X7_no rfl k_609 k_611 k_610 k_612 k_475 ⟨by decide, by decide, by decide +kernel⟩ (by decide) dX7_cut_31) (so_ri C hr dX7_cut_34))))))))) (so_th (so_aload_n C dX7_cut_12 rfl) (so_th (so_iconst C dX7_cut_13 (by decide)) (so_th (so_cv C m_X7_no rfl k_609 k_611 k_610 k_612 k_475 ⟨by decide, by decide, by decide +kernel⟩ (by decide) dX7_cut_14) (so_ri C hr dX7_cut_17))))))))))
theorem m_X7_cut : am_M yX7_cut cX7_cut 3 (some .int) 2 46 d_X7_cut := am_M_of (by decide +kernel) b_X7_cut
