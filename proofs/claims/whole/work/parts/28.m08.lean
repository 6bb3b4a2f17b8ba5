theorem dX7_seasonBy_0 : decode cX7_seasonBy 0 = .ok (.aload_n 1, 1) := by decide +kernel
theorem dX7_seasonBy_1 : decode cX7_seasonBy 1 = .ok (.bipush 24, 2) := by decide +kernel
theorem dX7_seasonBy_3 : decode cX7_seasonBy 3 = .ok (.iaload, 1) := by decide +kernel
theorem dX7_seasonBy_4 : decode cX7_seasonBy 4 = .ok (.istore_n 3, 1) := by decide +kernel
theorem dX7_seasonBy_5 : decode cX7_seasonBy 5 = .ok (.iconst 0, 1) := by decide +kernel
theorem dX7_seasonBy_6 : decode cX7_seasonBy 6 = .ok (.istore 4, 2) := by decide +kernel
theorem dX7_seasonBy_8 : decode cX7_seasonBy 8 = .ok (.iconst 0, 1) := by decide +kernel
theorem dX7_seasonBy_9 : decode cX7_seasonBy 9 = .ok (.istore 5, 2) := by decide +kernel
theorem dX7_seasonBy_11 : decode cX7_seasonBy 11 = .ok (.iload 5, 2) := by decide +kernel
theorem dX7_seasonBy_13 : decode cX7_seasonBy 13 = .ok (.aload_n 0, 1) := by decide +kernel
theorem dX7_seasonBy_14 : decode cX7_seasonBy 14 = .ok (.getfield 20, 3) := by decide +kernel
theorem dX7_seasonBy_17 : decode cX7_seasonBy 17 = .ok (.bipush 7, 2) := by decide +kernel
theorem dX7_seasonBy_19 : decode cX7_seasonBy 19 = .ok (.iaload, 1) := by decide +kernel
theorem dX7_seasonBy_20 : decode cX7_seasonBy 20 = .ok (.if_icmp .ge 126, 3) := by decide +kernel
theorem dX7_seasonBy_23 : decode cX7_seasonBy 23 = .ok (.aload_n 1, 1) := by decide +kernel
theorem dX7_seasonBy_24 : decode cX7_seasonBy 24 = .ok (.iload 5, 2) := by decide +kernel
theorem dX7_seasonBy_26 : decode cX7_seasonBy 26 = .ok (.invokestatic 278, 3) := by decide +kernel
theorem dX7_seasonBy_29 : decode cX7_seasonBy 29 = .ok (.ifCond .ne 6, 3) := by decide +kernel
theorem dX7_seasonBy_32 : decode cX7_seasonBy 32 = .ok (.goto 108, 3) := by decide +kernel
theorem dX7_seasonBy_35 : decode cX7_seasonBy 35 = .ok (.aload_n 0, 1) := by decide +kernel
theorem dX7_seasonBy_36 : decode cX7_seasonBy 36 = .ok (.iload 5, 2) := by decide +kernel
theorem dX7_seasonBy_38 : decode cX7_seasonBy 38 = .ok (.aload_n 1, 1) := by decide +kernel
theorem dX7_seasonBy_39 : decode cX7_seasonBy 39 = .ok (.iload 5, 2) := by decide +kernel
theorem dX7_seasonBy_41 : decode cX7_seasonBy 41 = .ok (.iaload, 1) := by decide +kernel
theorem dX7_seasonBy_42 : decode cX7_seasonBy 42 = .ok (.aload_n 2, 1) := by decide +kernel
theorem dX7_seasonBy_43 : decode cX7_seasonBy 43 = .ok (.iload 5, 2) := by decide +kernel
theorem dX7_seasonBy_45 : decode cX7_seasonBy 45 = .ok (.iaload, 1) := by decide +kernel
theorem dX7_seasonBy_46 : decode cX7_seasonBy 46 = .ok (.iadd, 1) := by decide +kernel
theorem dX7_seasonBy_47 : decode cX7_seasonBy 47 = .ok (.iload_n 3, 1) := by decide +kernel
theorem dX7_seasonBy_48 : decode cX7_seasonBy 48 = .ok (.invokevirtual 299, 3) := by decide +kernel
theorem dX7_seasonBy_51 : decode cX7_seasonBy 51 = .ok (.istore 6, 2) := by decide +kernel
theorem dX7_seasonBy_53 : decode cX7_seasonBy 53 = .ok (.iload 6, 2) := by decide +kernel
theorem dX7_seasonBy_55 : decode cX7_seasonBy 55 = .ok (.aload_n 0, 1) := by decide +kernel
theorem dX7_seasonBy_56 : decode cX7_seasonBy 56 = .ok (.getfield 20, 3) := by decide +kernel
theorem dX7_seasonBy_59 : decode cX7_seasonBy 59 = .ok (.iconst 1, 1) := by decide +kernel
theorem dX7_seasonBy_60 : decode cX7_seasonBy 60 = .ok (.iaload, 1) := by decide +kernel
theorem dX7_seasonBy_61 : decode cX7_seasonBy 61 = .ok (.if_icmp .lt 34, 3) := by decide +kernel
theorem dX7_seasonBy_64 : decode cX7_seasonBy 64 = .ok (.iload 6, 2) := by decide +kernel
theorem dX7_seasonBy_66 : decode cX7_seasonBy 66 = .ok (.aload_n 0, 1) := by decide +kernel
theorem dX7_seasonBy_67 : decode cX7_seasonBy 67 = .ok (.getfield 20, 3) := by decide +kernel
theorem dX7_seasonBy_70 : decode cX7_seasonBy 70 = .ok (.iconst 1, 1) := by decide +kernel
theorem dX7_seasonBy_71 : decode cX7_seasonBy 71 = .ok (.iaload, 1) := by decide +kernel
theorem dX7_seasonBy_72 : decode cX7_seasonBy 72 = .ok (.isub, 1) := by decide +kernel
theorem dX7_seasonBy_73 : decode cX7_seasonBy 73 = .ok (.istore 6, 2) := by decide +kernel
theorem dX7_seasonBy_75 : decode cX7_seasonBy 75 = .ok (.aload_n 1, 1) := by decide +kernel
theorem dX7_seasonBy_76 : decode cX7_seasonBy 76 = .ok (.bipush 12, 2) := by decide +kernel
theorem dX7_seasonBy_78 : decode cX7_seasonBy 78 = .ok (.iload 5, 2) := by decide +kernel
theorem dX7_seasonBy_80 : decode cX7_seasonBy 80 = .ok (.iadd, 1) := by decide +kernel
theorem dX7_seasonBy_81 : decode cX7_seasonBy 81 = .ok (.dup2, 1) := by decide +kernel
theorem dX7_seasonBy_82 : decode cX7_seasonBy 82 = .ok (.iaload, 1) := by decide +kernel
theorem dX7_seasonBy_83 : decode cX7_seasonBy 83 = .ok (.iconst 1, 1) := by decide +kernel
theorem dX7_seasonBy_84 : decode cX7_seasonBy 84 = .ok (.iadd, 1) := by decide +kernel
theorem dX7_seasonBy_85 : decode cX7_seasonBy 85 = .ok (.iastore, 1) := by decide +kernel
theorem dX7_seasonBy_86 : decode cX7_seasonBy 86 = .ok (.iload 4, 2) := by decide +kernel
theorem dX7_seasonBy_88 : decode cX7_seasonBy 88 = .ok (.iconst 1, 1) := by decide +kernel
theorem dX7_seasonBy_89 : decode cX7_seasonBy 89 = .ok (.iload 5, 2) := by decide +kernel
theorem dX7_seasonBy_91 : decode cX7_seasonBy 91 = .ok (.ishl, 1) := by decide +kernel
theorem dX7_seasonBy_92 : decode cX7_seasonBy 92 = .ok (.ior, 1) := by decide +kernel
theorem dX7_seasonBy_93 : decode cX7_seasonBy 93 = .ok (.istore 4, 2) := by decide +kernel
theorem dX7_seasonBy_95 : decode cX7_seasonBy 95 = .ok (.aload_n 1, 1) := by decide +kernel
theorem dX7_seasonBy_96 : decode cX7_seasonBy 96 = .ok (.iload 5, 2) := by decide +kernel
theorem dX7_seasonBy_98 : decode cX7_seasonBy 98 = .ok (.iload 6, 2) := by decide +kernel
theorem dX7_seasonBy_100 : decode cX7_seasonBy 100 = .ok (.iastore, 1) := by decide +kernel
theorem dX7_seasonBy_101 : decode cX7_seasonBy 101 = .ok (.aload_n 1, 1) := by decide +kernel
theorem dX7_seasonBy_102 : decode cX7_seasonBy 102 = .ok (.bipush 18, 2) := by decide +kernel
theorem dX7_seasonBy_104 : decode cX7_seasonBy 104 = .ok (.iload 5, 2) := by decide +kernel
theorem dX7_seasonBy_106 : decode cX7_seasonBy 106 = .ok (.iadd, 1) := by decide +kernel
theorem dX7_seasonBy_107 : decode cX7_seasonBy 107 = .ok (.dup2, 1) := by decide +kernel
theorem dX7_seasonBy_108 : decode cX7_seasonBy 108 = .ok (.iaload, 1) := by decide +kernel
theorem dX7_seasonBy_109 : decode cX7_seasonBy 109 = .ok (.iload_n 3, 1) := by decide +kernel
theorem dX7_seasonBy_110 : decode cX7_seasonBy 110 = .ok (.bipush 12, 2) := by decide +kernel
theorem dX7_seasonBy_112 : decode cX7_seasonBy 112 = .ok (.irem, 1) := by decide +kernel
theorem dX7_seasonBy_113 : decode cX7_seasonBy 113 = .ok (.bipush 11, 2) := by decide +kernel
theorem dX7_seasonBy_115 : decode cX7_seasonBy 115 = .ok (.if_icmp .ne 22, 3) := by decide +kernel
theorem dX7_seasonBy_118 : decode cX7_seasonBy 118 = .ok (.aload_n 0, 1) := by decide +kernel
theorem dX7_seasonBy_119 : decode cX7_seasonBy 119 = .ok (.iload 5, 2) := by decide +kernel
theorem dX7_seasonBy_121 : decode cX7_seasonBy 121 = .ok (.invokevirtual 286, 3) := by decide +kernel
theorem dX7_seasonBy_124 : decode cX7_seasonBy 124 = .ok (.ifCond .ne 13, 3) := by decide +kernel
theorem dX7_seasonBy_127 : decode cX7_seasonBy 127 = .ok (.iload 6, 2) := by decide +kernel
theorem dX7_seasonBy_129 : decode cX7_seasonBy 129 = .ok (.iconst 3, 1) := by decide +kernel
theorem dX7_seasonBy_130 : decode cX7_seasonBy 130 = .ok (.if_icmp .lt 7, 3) := by decide +kernel
theorem dX7_seasonBy_133 : decode cX7_seasonBy 133 = .ok (.iconst 1, 1) := by decide +kernel
theorem dX7_seasonBy_134 : decode cX7_seasonBy 134 = .ok (.goto 4, 3) := by decide +kernel
theorem dX7_seasonBy_137 : decode cX7_seasonBy 137 = .ok (.iconst 0, 1) := by decide +kernel
theorem dX7_seasonBy_138 : decode cX7_seasonBy 138 = .ok (.iadd, 1) := by decide +kernel
theorem dX7_seasonBy_139 : decode cX7_seasonBy 139 = .ok (.iastore, 1) := by decide +kernel
theorem dX7_seasonBy_140 : decode cX7_seasonBy 140 = .ok (.iinc 5 1, 3) := by decide +kernel
theorem dX7_seasonBy_143 : decode cX7_seasonBy 143 = .ok (.goto (-132), 3) := by decide +kernel
theorem dX7_seasonBy_146 : decode cX7_seasonBy 146 = .ok (.aload_n 1, 1) := by decide +kernel
theorem dX7_seasonBy_147 : decode cX7_seasonBy 147 = .ok (.bipush 24, 2) := by decide +kernel
theorem dX7_seasonBy_149 : decode cX7_seasonBy 149 = .ok (.dup2, 1) := by decide +kernel
theorem dX7_seasonBy_150 : decode cX7_seasonBy 150 = .ok (.iaload, 1) := by decide +kernel
theorem dX7_seasonBy_151 : decode cX7_seasonBy 151 = .ok (.iconst 1, 1) := by decide +kernel
theorem dX7_seasonBy_152 : decode cX7_seasonBy 152 = .ok (.iadd, 1) := by decide +kernel
theorem dX7_seasonBy_153 : decode cX7_seasonBy 153 = .ok (.iastore, 1) := by decide +kernel
theorem dX7_seasonBy_154 : decode cX7_seasonBy 154 = .ok (.iload 4, 2) := by decide +kernel
theorem dX7_seasonBy_156 : decode cX7_seasonBy 156 = .ok (.ireturn, 1) := by decide +kernel
def f_X7_seasonBy_l11 : am_F := am_th (i_il 5) (am_th (i_al 0) (am_th (i_gr 7 15) (am_th (i_ic (7)) (am_th (i_ia 0) (am_br (b_2 (fun x y => decide (y ≤ x))) (am_to 146) (am_th (i_al 1) (am_th (i_il 5) (am_th (i_cs 2 d_X7_stands) (am_sq 140 (am_br (b_1 (fun x => decide (¬ x = 0))) (am_th (i_al 0) (am_th (i_il 5) (am_th (i_al 1) (am_th (i_il 5) (am_th (i_ia 0) (am_th (i_al 2) (am_th (i_il 5) (am_th (i_ia 0) (am_th (i_2 (fun x y => x + y)) (am_th (i_il 3) (am_th (i_cv 7 3 d_X7_wintered) (am_th (i_is 6) (am_th (i_il 6) (am_th (i_al 0) (am_th (i_gr 7 15) (am_th (i_ic (1)) (am_th (i_ia 0) (am_sq 95 (am_br (b_2 (fun x y => decide (x < y))) (am_to 95) (am_th (i_il 6) (am_th (i_al 0) (am_th (i_gr 7 15) (am_th (i_ic (1)) (am_th (i_ia 0) (am_th (i_2 (fun x y => x - y)) (am_th (i_is 6) (am_th (i_al 1) (am_th (i_ic (12)) (am_th (i_il 5) (am_th (i_2 (fun x y => x + y)) (am_th (i_dup2) (am_th (i_ia 0) (am_th (i_ic (1)) (am_th (i_2 (fun x y => x + y)) (am_th (i_iS) (am_th (i_il 4) (am_th (i_ic (1)) (am_th (i_il 5) (am_th (i_2 (fun x y => x <<< (y &&& 31))) (am_th (i_2 (fun x y => x ||| y)) (am_th (i_is 4) (am_to 95)))))))))))))))))))))))) (am_th (i_al 1) (am_th (i_il 5) (am_th (i_il 6) (am_th (i_iS) (am_th (i_al 1) (am_th (i_ic (18)) (am_th (i_il 5) (am_th (i_2 (fun x y => x + y)) (am_th (i_dup2) (am_th (i_ia 0) (am_th (i_il 3) (am_th (i_ic (12)) (am_th (i_2n (fun x y => x - x / y * y)) (am_th (i_ic (11)) (am_sq 138 (am_br (b_2 (fun x y => decide (¬ x = y))) (am_th (i_ic (0)) (am_to 138)) (am_th (i_al 0) (am_th (i_il 5) (am_th (i_cv 7 1 d_X7_isPotted) (am_br (b_1 (fun x => decide (¬ x = 0))) (am_th (i_ic (0)) (am_to 138)) (am_th (i_il 6) (am_th (i_ic (3)) (am_br (b_2 (fun x y => decide (x < y))) (am_th (i_ic (0)) (am_to 138)) (am_th (i_ic (1)) (am_to 138)))))))))) (am_th (i_2 (fun x y => x + y)) (am_th (i_iS) (am_to 140)))))))))))))))))))))))))))))))))))) (am_to 140)) (am_th (i_inc 5 (1)) (am_to 11)))))))))))
def f_X7_seasonBy : am_F := am_th (i_al 1) (am_th (i_ic (24)) (am_th (i_ia 0) (am_th (i_is 3) (am_th (i_ic (0)) (am_th (i_is 4) (am_th (i_ic (0)) (am_th (i_is 5) (am_sq 146 (am_lp 5000 11 f_X7_seasonBy_l11) (am_th (i_al 1) (am_th (i_ic (24)) (am_th (i_dup2) (am_th (i_ia 0) (am_th (i_ic (1)) (am_th (i_2 (fun x y => x + y)) (am_th (i_iS) (am_th (i_il 4) (r_i)))))))))))))))))
def d_X7_seasonBy : am_D := am_den 7 f_X7_seasonBy
set_option maxHeartbeats 4000000 in
set_option maxRecDepth 100000 in
theorem b_X7_seasonBy : am_Body yX7_seasonBy cX7_seasonBy 7 (some .int) 3 66 f_X7_seasonBy := by
  intro p l e R s m args below meth c g n0 z0 r0 u0 C hr hn
  have C : am_Cx p l e R s m args below meth c g RX7 cX7_seasonBy 7 n0 z0 (am_len u0) (am_wt u0) 3 66 := C
  have l11 : am_Snd (am_GM p l e R s m args below meth c g 7 n0 z0 r0 u0) (am_Rt r0 u0) 11 (f_X7_seasonBy_l11) := by
    unfold f_X7_seasonBy_l11
    exact (so_th (so_iload C dX7_seasonBy_11) (so_th (so_aload_n C dX7_seasonBy_13 rfl) (so_th (so_getr C fl_RX7_20 dX7_seasonBy_14) (so_th (so_bipush C dX7_seasonBy_17 (by decide)) (so_th (so_iald C dX7_seasonBy_19) (so_br (so_icmp_ge C dX7_seasonBy_20 (by decide)) (so_to) (so_th (so_aload_n C dX7_seasonBy_23 rfl) (so_th (so_iload C dX7_seasonBy_24) (so_th (so_cs C m_X7_stands k_613 k_615 k_614 k_475 ⟨by decide, by decide, by decide +kernel⟩ (by decide) dX7_seasonBy_26) (so_sq (so_br (so_if_ne C dX7_seasonBy_29 (by decide)) (so_th (so_aload_n C dX7_seasonBy_35 rfl) (so_th (so_iload C dX7_seasonBy_36) (so_th (so_aload_n C dX7_seasonBy_38 rfl) (so_th (so_iload C dX7_seasonBy_39) (so_th (so_iald C dX7_seasonBy_41) (so_th (so_aload_n C dX7_seasonBy_42 rfl) (so_th (so_iload C dX7_seasonBy_43) (so_th (so_iald C dX7_seasonBy_45) (so_th (so_iadd C dX7_seasonBy_46) (so_th (so_iload_n C dX7_seasonBy_47 rfl) (so_th (so_cv C m_X7_wintered rfl k_634 k_636 k_635 k_637 k_475 ⟨by decide, by decide, by decide +kernel⟩ (by decide) dX7_seasonBy_48) (so_th (so_istore C dX7_seasonBy_51 (by decide)) (so_th (so_iload C dX7_seasonBy_53) (so_th (so_aload_n C dX7_seasonBy_55 rfl) (so_th (so_getr C fl_RX7_20 dX7_seasonBy_56) (so_th (so_iconst C dX7_seasonBy_59 (by decide)) (so_th (so_iald C dX7_seasonBy_60) (so_sq (so_br (so_icmp_lt C dX7_seasonBy_61 (by decide)) (so_to) (so_th (so_iload C dX7_seasonBy_64) (so_th (so_aload_n C dX7_seasonBy_66 rfl) (so_th (so_getr C fl_RX7_20 dX7_seasonBy_67) (so_th (so_iconst C dX7_seasonBy_70 (by decide)) (so_th (so_iald C dX7_seasonBy_71) (so_th (so_isub C dX7_seasonBy_72) (so_th (so_istore C dX7_seasonBy_73 (by decide)) (so_th (so_aload_n C dX7_seasonBy_75 rfl) (so_th (so_bipush C dX7_seasonBy_76 (by decide)) (so_th (so_iload C dX7_seasonBy_78) (so_th (so_iadd C dX7_seasonBy_80) (so_th (so_dup2 C dX7_seasonBy_81) (so_th (so_iald C dX7_seasonBy_82) (so_th (so_iconst C dX7_seasonBy_83 (by decide)) (so_th (so_iadd C dX7_seasonBy_84) (so_th (so_iast C dX7_seasonBy_85) (so_th (so_iload C dX7_seasonBy_86) (so_th (so_iconst C dX7_seasonBy_88 (by decide)) (so_th (so_iload C dX7_seasonBy_89) (so_th (so_ishl C dX7_seasonBy_91) (so_th (so_ior C dX7_seasonBy_92) (so_th (so_istore C dX7_seasonBy_93 (by decide)) (so_to)))))))))))))))))))))))) (so_th (so_aload_n C dX7_seasonBy_95 rfl) (so_th (so_iload C dX7_seasonBy_96) (so_th (so_iload C dX7_seasonBy_98) (so_th (so_iast C dX7_seasonBy_100) (so_th (so_aload_n C dX7_seasonBy_101 rfl) (so_th (so_bipush C dX7_seasonBy_102 (by decide)) (so_th (so_iload C dX7_seasonBy_104) (so_th (so_iadd C dX7_seasonBy_106) (so_th (so_dup2 C dX7_seasonBy_107) (so_th (so_iald C dX7_seasonBy_108) (so_th (so_iload_n C dX7_seasonBy_109 rfl) (so_th (so_bipush C dX7_seasonBy_110 (by decide)) (so_th (so_irem C dX7_seasonBy_112) (so_th (so_bipush C dX7_seasonBy_113 (by decide)) (so_sq (so_br (so_icmp_ne C dX7_seasonBy_115 (by decide)) (so_th (so_iconst C dX7_seasonBy_137 (by decide)) (so_to)) (so_th (so_aload_n C dX7_seasonBy_118 rfl) (so_th (so_iload C dX7_seasonBy_119) (so_th (so_cv C m_X7_isPotted rfl k_619 k_621 k_620 k_622 k_475 ⟨by decide, by decide, by decide +kernel⟩ (by decide) dX7_seasonBy_121) (so_br (so_if_ne C dX7_seasonBy_124 (by decide)) (so_th (so_iconst C dX7_seasonBy_137 (by decide)) (so_to)) (so_th (so_iload C dX7_seasonBy_127) (so_th (so_iconst C dX7_seasonBy_129 (by decide)) (so_br (so_icmp_lt C dX7_seasonBy_130 (by decide)) (so_th (so_iconst C dX7_seasonBy_137 (by decide)) (so_to)) (so_th (so_iconst C dX7_seasonBy_133 (by decide)) (so_goto C dX7_seasonBy_134 (by decide) (so_to))))))))))) (so_th (so_iadd C dX7_seasonBy_138) (so_th (so_iast C dX7_seasonBy_139) (so_to)))))))))))))))))))))))))))))))))))) (so_goto C dX7_seasonBy_32 (by decide) (so_to))) (so_th (so_iinc C dX7_seasonBy_140 (by decide) (by decide)) (so_goto C dX7_seasonBy_143 (by decide) (so_to)))))))))))))
  unfold f_X7_seasonBy
  exact (so_th (so_aload_n C dX7_seasonBy_0 rfl) (so_th (so_bipush C dX7_seasonBy_1 (by decide)) (so_th (so_iald C dX7_seasonBy_3) (so_th (so_istore_n C dX7_seasonBy_4 rfl (by decide)) (so_th (so_iconst C dX7_seasonBy_5 (by decide)) (so_th (so_istore C dX7_seasonBy_6 (by decide)) (so_th (so_iconst C dX7_seasonBy_8 (by decide)) (so_th (so_istore C dX7_seasonBy_9 (by decide)) (so_sq (so_lp l11 5000) (so_th (so_aload_n C dX7_seasonBy_146 rfl) (so_th (so_bipush C dX7_seasonBy_147 (by decide)) (so_th (so_dup2 C dX7_seasonBy_149) (so_th (so_iald C dX7_seasonBy_150) (so_th (so_iconst C dX7_seasonBy_151 (by decide)) (so_th (so_iadd C dX7_seasonBy_152) (so_th (so_iast C dX7_seasonBy_153) (so_th (so_iload C dX7_seasonBy_154) (so_ri C hr dX7_seasonBy_156))))))))))))))))))
theorem m_X7_seasonBy : am_M yX7_seasonBy cX7_seasonBy 7 (some .int) 3 66 d_X7_seasonBy := am_M_of (by decide +kernel) b_X7_seasonBy
theorem dX7_seasonAsTold_0 : decode cX7_seasonAsTold 0 = .ok (.iconst 0, 1) := by decide +kernel
theorem dX7_seasonAsTold_1 : decode cX7_seasonAsTold 1 = .ok (.istore_n 2, 1) := by decide +kernel
theorem dX7_seasonAsTold_2 : decode cX7_seasonAsTold 2 = .ok (.iload_n 2, 1) := by decide +kernel
theorem dX7_seasonAsTold_3 : decode cX7_seasonAsTold 3 = .ok (.aload_n 0, 1) := by decide +kernel
theorem dX7_seasonAsTold_4 : decode cX7_seasonAsTold 4 = .ok (.getfield 20, 3) := by decide +kernel
theorem dX7_seasonAsTold_7 : decode cX7_seasonAsTold 7 = .ok (.bipush 7, 2) := by decide +kernel
theorem dX7_seasonAsTold_9 : decode cX7_seasonAsTold 9 = .ok (.iaload, 1) := by decide +kernel
theorem dX7_seasonAsTold_10 : decode cX7_seasonAsTold 10 = .ok (.if_icmp .ge 25, 3) := by decide +kernel
theorem dX7_seasonAsTold_13 : decode cX7_seasonAsTold 13 = .ok (.aload_n 0, 1) := by decide +kernel
theorem dX7_seasonAsTold_14 : decode cX7_seasonAsTold 14 = .ok (.getfield 35, 3) := by decide +kernel
theorem dX7_seasonAsTold_17 : decode cX7_seasonAsTold 17 = .ok (.iload_n 2, 1) := by decide +kernel
theorem dX7_seasonAsTold_18 : decode cX7_seasonAsTold 18 = .ok (.aload_n 0, 1) := by decide +kernel
theorem dX7_seasonAsTold_19 : decode cX7_seasonAsTold 19 = .ok (.aload_n 1, 1) := by decide +kernel
theorem dX7_seasonAsTold_20 : decode cX7_seasonAsTold 20 = .ok (.iload_n 2, 1) := by decide +kernel
theorem dX7_seasonAsTold_21 : decode cX7_seasonAsTold 21 = .ok (.aload_n 1, 1) := by decide +kernel
theorem dX7_seasonAsTold_22 : decode cX7_seasonAsTold 22 = .ok (.bipush 24, 2) := by decide +kernel
theorem dX7_seasonAsTold_24 : decode cX7_seasonAsTold 24 = .ok (.iaload, 1) := by decide +kernel
theorem dX7_seasonAsTold_25 : decode cX7_seasonAsTold 25 = .ok (.invokevirtual 303, 3) := by decide +kernel
theorem dX7_seasonAsTold_28 : decode cX7_seasonAsTold 28 = .ok (.iastore, 1) := by decide +kernel
theorem dX7_seasonAsTold_29 : decode cX7_seasonAsTold 29 = .ok (.iinc 2 1, 3) := by decide +kernel
theorem dX7_seasonAsTold_32 : decode cX7_seasonAsTold 32 = .ok (.goto (-30), 3) := by decide +kernel
theorem dX7_seasonAsTold_35 : decode cX7_seasonAsTold 35 = .ok (.aload_n 0, 1) := by decide +kernel
theorem dX7_seasonAsTold_36 : decode cX7_seasonAsTold 36 = .ok (.aload_n 1, 1) := by decide +kernel
theorem dX7_seasonAsTold_37 : decode cX7_seasonAsTold 37 = .ok (.aload_n 0, 1) := by decide +kernel
theorem dX7_seasonAsTold_38 : decode cX7_seasonAsTold 38 = .ok (.getfield 35, 3) := by decide +kernel
theorem dX7_seasonAsTold_41 : decode cX7_seasonAsTold 41 = .ok (.invokevirtual 307, 3) := by decide +kernel
theorem dX7_seasonAsTold_44 : decode cX7_seasonAsTold 44 = .ok (.ireturn, 1) := by decide +kernel
def f_X7_seasonAsTold_l2 : am_F := am_th (i_il 2) (am_th (i_al 0) (am_th (i_gr 7 15) (am_th (i_ic (7)) (am_th (i_ia 0) (am_br (b_2 (fun x y => decide (y ≤ x))) (am_to 35) (am_th (i_al 0) (am_th (i_gr 7 22) (am_th (i_il 2) (am_th (i_al 0) (am_th (i_al 1) (am_th (i_il 2) (am_th (i_al 1) (am_th (i_ic (24)) (am_th (i_ia 0) (am_th (i_cv 7 3 d_X7_deedsFor) (am_th (i_iS) (am_th (i_inc 2 (1)) (am_to 2))))))))))))))))))
def f_X7_seasonAsTold : am_F := am_th (i_ic (0)) (am_th (i_is 2) (am_sq 35 (am_lp 5000 2 f_X7_seasonAsTold_l2) (am_th (i_al 0) (am_th (i_al 1) (am_th (i_al 0) (am_th (i_gr 7 22) (am_th (i_cv 7 2 d_X7_seasonBy) (r_i))))))))
def d_X7_seasonAsTold : am_D := am_den 3 f_X7_seasonAsTold
set_option maxHeartbeats 4000000 in
set_option maxRecDepth 100000 in
theorem b_X7_seasonAsTold : am_Body yX7_seasonAsTold cX7_seasonAsTold 3 (some .int) 4 92 f_X7_seasonAsTold := by
  intro p l e R s m args below meth c g n0 z0 r0 u0 C hr hn
  have C : am_Cx p l e R s m args below meth c g RX7 cX7_seasonAsTold 3 n0 z0 (am_len u0) (am_wt u0) 4 92 := C
  have l2 : am_Snd (am_GM p l e R s m args below meth c g 3 n0 z0 r0 u0) (am_Rt r0 u0) 2 (f_X7_seasonAsTold_l2) := by
    unfold f_X7_seasonAsTold_l2
    exact (so_th (so_iload_n C dX7_seasonAsTold_2 rfl) (so_th (so_aload_n C dX7_seasonAsTold_3 rfl) (so_th (so_getr C fl_RX7_20 dX7_seasonAsTold_4) (so_th (so_bipush C dX7_seasonAsTold_7 (by decide)) (so_th (so_iald C dX7_seasonAsTold_9) (so_br (so_icmp_ge C dX7_seasonAsTold_10 (by decide)) (so_to) (so_th (so_aload_n C dX7_seasonAsTold_13 rfl) (so_th (so_getr C fl_RX7_35 dX7_seasonAsTold_14) (so_th (so_iload_n C dX7_seasonAsTold_17 rfl) (so_th (so_aload_n C dX7_seasonAsTold_18 rfl) (so_th (so_aload_n C dX7_seasonAsTold_19 rfl) (so_th (so_iload_n C dX7_seasonAsTold_20 rfl) (so_th (so_aload_n C dX7_seasonAsTold_21 rfl) (so_th (so_bipush C dX7_seasonAsTold_22 (by decide)) (so_th (so_iald C dX7_seasonAsTold_24) (so_th (so_cv C m_X7_deedsFor rfl k_638 k_640 k_639 k_641 k_475 ⟨by decide, by decide, by decide +kernel⟩ (by decide) dX7_seasonAsTold_25) (so_th (so_iast C dX7_seasonAsTold_28) (so_th (so_iinc C dX7_seasonAsTold_29 (by decide) (by decide)) (so_goto C dX7_seasonAsTold_32 (by decide) (so_to))))))))))))))))))))
  unfold f_X7_seasonAsTold
  exact (so_th (so_iconst C dX7_seasonAsTold_0 (by decide)) (so_th (so_istore_n C dX7_seasonAsTold_1 rfl (by decide)) (so_sq (so_lp l2 5000) (so_th (so_aload_n C dX7_seasonAsTold_35 rfl) (so_th (so_aload_n C dX7_seasonAsTold_36 rfl) (so_th (so_aload_n C dX7_seasonAsTold_37 rfl) (so_th (so_getr C fl_RX7_35 dX7_seasonAsTold_38) (so_th (so_cv C m_X7_seasonBy rfl k_642 k_644 k_643 k_645 k_475 ⟨by decide, by decide, by decide +kernel⟩ (by decide) dX7_seasonAsTold_41) (so_ri C hr dX7_seasonAsTold_44)))))))))
theorem m_X7_seasonAsTold : am_M yX7_seasonAsTold cX7_seasonAsTold 3 (some .int) 4 92 d_X7_seasonAsTold := am_M_of (by decide +kernel) b_X7_seasonAsTold
theorem dX7_goes_0 : decode cX7_goes 0 = .ok (.iconst 0, 1) := by decide +kernel
theorem dX7_goes_1 : decode cX7_goes 1 = .ok (.istore_n 3, 1) := by decide +kernel
theorem dX7_goes_2 : decode cX7_goes 2 = .ok (.iload_n 3, 1) := by decide +kernel
theorem dX7_goes_3 : decode cX7_goes 3 = .ok (.iload_n 2, 1) := by decide +kernel
theorem dX7_goes_4 : decode cX7_goes 4 = .ok (.if_icmp .ge 15, 3) := by decide +kernel
theorem dX7_goes_7 : decode cX7_goes 7 = .ok (.aload_n 0, 1) := by decide +kernel
theorem dX7_goes_8 : decode cX7_goes 8 = .ok (.aload_n 1, 1) := by decide +kernel
theorem dX7_goes_9 : decode cX7_goes 9 = .ok (.invokevirtual 311, 3) := by decide +kernel
theorem dX7_goes_12 : decode cX7_goes 12 = .ok (.pop, 1) := by decide +kernel
theorem dX7_goes_13 : decode cX7_goes 13 = .ok (.iinc 3 1, 3) := by decide +kernel
theorem dX7_goes_16 : decode cX7_goes 16 = .ok (.goto (-14), 3) := by decide +kernel
theorem dX7_goes_19 : decode cX7_goes 19 = .ok (.return_, 1) := by decide +kernel
def f_X7_goes_l2 : am_F := am_th (i_il 3) (am_th (i_il 2) (am_br (b_2 (fun x y => decide (y ≤ x))) (am_to 19) (am_th (i_al 0) (am_th (i_al 1) (am_th (i_cv 7 1 d_X7_seasonAsTold) (am_th (i_pop) (am_th (i_inc 3 (1)) (am_to 2))))))))
def f_X7_goes : am_F := am_th (i_ic (0)) (am_th (i_is 3) (am_sq 19 (am_lp 5000 2 f_X7_goes_l2) (r_v)))
def d_X7_goes : am_D := am_den 4 f_X7_goes
set_option maxHeartbeats 4000000 in
set_option maxRecDepth 100000 in
theorem b_X7_goes : am_Body yX7_goes cX7_goes 4 none 5 114 f_X7_goes := by
  intro p l e R s m args below meth c g n0 z0 r0 u0 C hr hn
  have C : am_Cx p l e R s m args below meth c g RX7 cX7_goes 4 n0 z0 (am_len u0) (am_wt u0) 5 114 := C
  have l2 : am_Snd (am_GM p l e R s m args below meth c g 4 n0 z0 r0 u0) (am_Rt r0 u0) 2 (f_X7_goes_l2) := by
    unfold f_X7_goes_l2
    exact (so_th (so_iload_n C dX7_goes_2 rfl) (so_th (so_iload_n C dX7_goes_3 rfl) (so_br (so_icmp_ge C dX7_goes_4 (by decide)) (so_to) (so_th (so_aload_n C dX7_goes_7 rfl) (so_th (so_aload_n C dX7_goes_8 rfl) (so_th (so_cv C m_X7_seasonAsTold rfl k_646 k_648 k_647 k_649 k_475 ⟨by decide, by decide, by decide +kernel⟩ (by decide) dX7_goes_9) (so_th (so_pop C dX7_goes_12) (so_th (so_iinc C dX7_goes_13 (by decide) (by decide)) (so_goto C dX7_goes_16 (by decide) (so_to))))))))))
  unfold f_X7_goes
  exact (so_th (so_iconst C dX7_goes_0 (by decide)) (so_th (so_istore_n C dX7_goes_1 rfl (by decide)) (so_sq (so_lp l2 5000) (so_rv C hr dX7_goes_19))))
theorem m_X7_goes : am_M yX7_goes cX7_goes 4 none 5 114 d_X7_goes := am_M_of (by decide +kernel) b_X7_goes
theorem dX7_layBehind_0 : decode cX7_layBehind 0 = .ok (.aload_n 0, 1) := by decide +kernel
theorem dX7_layBehind_1 : decode cX7_layBehind 1 = .ok (.getfield 26, 3) := by decide +kernel
theorem dX7_layBehind_4 : decode cX7_layBehind 4 = .ok (.iconst 0, 1) := by decide +kernel
theorem dX7_layBehind_5 : decode cX7_layBehind 5 = .ok (.aload_n 0, 1) := by decide +kernel
theorem dX7_layBehind_6 : decode cX7_layBehind 6 = .ok (.getfield 38, 3) := by decide +kernel
theorem dX7_layBehind_9 : decode cX7_layBehind 9 = .ok (.iconst 0, 1) := by decide +kernel
theorem dX7_layBehind_10 : decode cX7_layBehind 10 = .ok (.bipush 26, 2) := by decide +kernel
theorem dX7_layBehind_12 : decode cX7_layBehind 12 = .ok (.invokestatic 198, 3) := by decide +kernel
theorem dX7_layBehind_15 : decode cX7_layBehind 15 = .ok (.aload_n 0, 1) := by decide +kernel
theorem dX7_layBehind_16 : decode cX7_layBehind 16 = .ok (.aload_n 0, 1) := by decide +kernel
theorem dX7_layBehind_17 : decode cX7_layBehind 17 = .ok (.getfield 38, 3) := by decide +kernel
theorem dX7_layBehind_20 : decode cX7_layBehind 20 = .ok (.iload_n 1, 1) := by decide +kernel
theorem dX7_layBehind_21 : decode cX7_layBehind 21 = .ok (.invokevirtual 315, 3) := by decide +kernel
theorem dX7_layBehind_24 : decode cX7_layBehind 24 = .ok (.return_, 1) := by decide +kernel
def f_X7_layBehind : am_F := am_th (i_al 0) (am_th (i_gr 7 17) (am_th (i_ic (0)) (am_th (i_al 0) (am_th (i_gr 7 23) (am_th (i_ic (0)) (am_th (i_ic (26)) (am_th (i_cs 5 d_X7_copy) (am_th (i_al 0) (am_th (i_al 0) (am_th (i_gr 7 23) (am_th (i_il 1) (am_th (i_cv 7 2 d_X7_goes) (r_v)))))))))))))
def d_X7_layBehind : am_D := am_den 2 f_X7_layBehind
set_option maxHeartbeats 4000000 in
set_option maxRecDepth 100000 in
theorem b_X7_layBehind : am_Body yX7_layBehind cX7_layBehind 2 none 6 137 f_X7_layBehind := by
  intro p l e R s m args below meth c g n0 z0 r0 u0 C hr hn
  have C : am_Cx p l e R s m args below meth c g RX7 cX7_layBehind 2 n0 z0 (am_len u0) (am_wt u0) 6 137 := C
  unfold f_X7_layBehind
  exact (so_th (so_aload_n C dX7_layBehind_0 rfl) (so_th (so_getr C fl_RX7_26 dX7_layBehind_1) (so_th (so_iconst C dX7_layBehind_4 (by decide)) (so_th (so_aload_n C dX7_layBehind_5 rfl) (so_th (so_getr C fl_RX7_38 dX7_layBehind_6) (so_th (so_iconst C dX7_layBehind_9 (by decide)) (so_th (so_bipush C dX7_layBehind_10 (by decide)) (so_th (so_cs C m_X7_copy k_602 k_604 k_603 k_475 ⟨by decide, by decide, by decide +kernel⟩ (by decide) dX7_layBehind_12) (so_th (so_aload_n C dX7_layBehind_15 rfl) (so_th (so_aload_n C dX7_layBehind_16 rfl) (so_th (so_getr C fl_RX7_38 dX7_layBehind_17) (so_th (so_iload_n C dX7_layBehind_20 rfl) (so_th (so_cv C m_X7_goes rfl k_650 k_652 k_651 k_653 k_475 ⟨by decide, by decide, by decide +kernel⟩ (by decide) dX7_layBehind_21) (so_rv C hr dX7_layBehind_24))))))))))))))
theorem m_X7_layBehind : am_M yX7_layBehind cX7_layBehind 2 none 6 137 d_X7_layBehind := am_M_of (by decide +kernel) b_X7_layBehind
theorem dX7_sumOf_0 : decode cX7_sumOf 0 = .ok (.iconst 0, 1) := by decide +kernel
theorem dX7_sumOf_1 : decode cX7_sumOf 1 = .ok (.istore_n 3, 1) := by decide +kernel
theorem dX7_sumOf_2 : decode cX7_sumOf 2 = .ok (.iconst 0, 1) := by decide +kernel
theorem dX7_sumOf_3 : decode cX7_sumOf 3 = .ok (.istore 4, 2) := by decide +kernel
theorem dX7_sumOf_5 : decode cX7_sumOf 5 = .ok (.iload 4, 2) := by decide +kernel
theorem dX7_sumOf_7 : decode cX7_sumOf 7 = .ok (.aload_n 0, 1) := by decide +kernel
theorem dX7_sumOf_8 : decode cX7_sumOf 8 = .ok (.getfield 20, 3) := by decide +kernel
theorem dX7_sumOf_11 : decode cX7_sumOf 11 = .ok (.bipush 7, 2) := by decide +kernel
theorem dX7_sumOf_13 : decode cX7_sumOf 13 = .ok (.iaload, 1) := by decide +kernel
theorem dX7_sumOf_14 : decode cX7_sumOf 14 = .ok (.if_icmp .ge 18, 3) := by decide +kernel
theorem dX7_sumOf_17 : decode cX7_sumOf 17 = .ok (.iload_n 3, 1) := by decide +kernel
theorem dX7_sumOf_18 : decode cX7_sumOf 18 = .ok (.aload_n 1, 1) := by decide +kernel
theorem dX7_sumOf_19 : decode cX7_sumOf 19 = .ok (.iload_n 2, 1) := by decide +kernel
theorem dX7_sumOf_20 : decode cX7_sumOf 20 = .ok (.iload 4, 2) := by decide +kernel
theorem dX7_sumOf_22 : decode cX7_sumOf 22 = .ok (.iadd, 1) := by decide +kernel
theorem dX7_sumOf_23 : decode cX7_sumOf 23 = .ok (.iaload, 1) := by decide +kernel
theorem dX7_sumOf_24 : decode cX7_sumOf 24 = .ok (.iadd, 1) := by decide +kernel
theorem dX7_sumOf_25 : decode cX7_sumOf 25 = .ok (.istore_n 3, 1) := by decide +kernel
theorem dX7_sumOf_26 : decode cX7_sumOf 26 = .ok (.iinc 4 1, 3) := by decide +kernel
theorem dX7_sumOf_29 : decode cX7_sumOf 29 = .ok (.goto (-24), 3) := by decide +kernel
theorem dX7_sumOf_32 : decode cX7_sumOf 32 = .ok (.iload_n 3, 1) := by decide +kernel
theorem dX7_sumOf_33 : decode cX7_sumOf 33 = .ok (.ireturn, 1) := by decide +kernel
def f_X7_sumOf_l5 : am_F := am_th (i_il 4) (am_th (i_al 0) (am_th (i_gr 7 15) (am_th (i_ic (7)) (am_th (i_ia 0) (am_br (b_2 (fun x y => decide (y ≤ x))) (am_to 32) (am_th (i_il 3) (am_th (i_al 1) (am_th (i_il 2) (am_th (i_il 4) (am_th (i_2 (fun x y => x + y)) (am_th (i_ia 0) (am_th (i_2 (fun x y => x + y)) (am_th (i_is 3) (am_th (i_inc 4 (1)) (am_to 5)))))))))))))))
def f_X7_sumOf : am_F := am_th (i_ic (0)) (am_th (i_is 3) (am_th (i_ic (0)) (am_th (i_is 4) (am_sq 32 (am_lp 5000 5 f_X7_sumOf_l5) (am_th (i_il 3) (r_i))))))
def d_X7_sumOf : am_D := am_den 5 f_X7_sumOf
set_option maxHeartbeats 4000000 in
set_option maxRecDepth 100000 in
theorem b_X7_sumOf : am_Body yX7_sumOf cX7_sumOf 5 (some .int) 0 0 f_X7_sumOf := by
  intro p l e R s m args below meth c g n0 z0 r0 u0 C hr hn
  have C : am_Cx p l e R s m args below meth c g RX7 cX7_sumOf 5 n0 z0 (am_len u0) (am_wt u0) 0 0 := C
  have l5 : am_Snd (am_GM p l e R s m args below meth c g 5 n0 z0 r0 u0) (am_Rt r0 u0) 5 (f_X7_sumOf_l5) := by
    unfold f_X7_sumOf_l5
    exact (so_th (so_iload C dX7_sumOf_5) (so_th (so_aload_n C dX7_sumOf_7 rfl) (so_th (so_getr C fl_RX7_20 dX7_sumOf_8) (so_th (so_bipush C dX7_sumOf_11 (by decide)) (so_th (so_iald C dX7_sumOf_13) (so_br (so_icmp_ge C dX7_sumOf_14 (by decide)) (so_to) (so_th (so_iload_n C dX7_sumOf_17 rfl) (so_th (so_aload_n C dX7_sumOf_18 rfl) (so_th (so_iload_n C dX7_sumOf_19 rfl) (so_th (so_iload C dX7_sumOf_20) (so_th (so_iadd C dX7_sumOf_22) (so_th (so_iald C dX7_sumOf_23) (so_th (so_iadd C dX7_sumOf_24) (so_th (so_istore_n C dX7_sumOf_25 rfl (by decide)) (so_th (so_iinc C dX7_sumOf_26 (by decide) (by decide)) (so_goto C dX7_sumOf_29 (by decide) (so_to)))))))))))))))))
  unfold f_X7_sumOf
  exact (so_th (so_iconst C dX7_sumOf_0 (by decide)) (so_th (so_istore_n C dX7_sumOf_1 rfl (by decide)) (so_th (so_iconst C dX7_sumOf_2 (by decide)) (so_th (so_istore C dX7_sumOf_3 (by decide)) (so_sq (so_lp l5 5000) (so_th (so_iload_n C dX7_sumOf_32 rfl) (so_ri C hr dX7_sumOf_33)))))))
theorem m_X7_sumOf : am_M yX7_sumOf cX7_sumOf 5 (some .int) 0 0 d_X7_sumOf := am_M_of (by decide +kernel) b_X7_sumOf
theorem dX7_peaceIn_0 : decode cX7_peaceIn 0 = .ok (.iconst 1, 1) := by decide +kernel
theorem dX7_peaceIn_1 : decode cX7_peaceIn 1 = .ok (.aload_n 0, 1) := by decide +kernel
theorem dX7_peaceIn_2 : decode cX7_peaceIn 2 = .ok (.getfield 20, 3) := by decide +kernel
theorem dX7_peaceIn_5 : decode cX7_peaceIn 5 = .ok (.bipush 6, 2) := by decide +kernel
theorem dX7_peaceIn_7 : decode cX7_peaceIn 7 = .ok (.iaload, 1) := by decide +kernel
theorem dX7_peaceIn_8 : decode cX7_peaceIn 8 = .ok (.ishl, 1) := by decide +kernel
theorem dX7_peaceIn_9 : decode cX7_peaceIn 9 = .ok (.iconst 1, 1) := by decide +kernel
theorem dX7_peaceIn_10 : decode cX7_peaceIn 10 = .ok (.isub, 1) := by decide +kernel
theorem dX7_peaceIn_11 : decode cX7_peaceIn 11 = .ok (.istore_n 2, 1) := by decide +kernel
theorem dX7_peaceIn_12 : decode cX7_peaceIn 12 = .ok (.iconst 0, 1) := by decide +kernel
theorem dX7_peaceIn_13 : decode cX7_peaceIn 13 = .ok (.istore_n 3, 1) := by decide +kernel
theorem dX7_peaceIn_14 : decode cX7_peaceIn 14 = .ok (.iload_n 3, 1) := by decide +kernel
theorem dX7_peaceIn_15 : decode cX7_peaceIn 15 = .ok (.aload_n 0, 1) := by decide +kernel
theorem dX7_peaceIn_16 : decode cX7_peaceIn 16 = .ok (.getfield 20, 3) := by decide +kernel
theorem dX7_peaceIn_19 : decode cX7_peaceIn 19 = .ok (.bipush 7, 2) := by decide +kernel
theorem dX7_peaceIn_21 : decode cX7_peaceIn 21 = .ok (.iaload, 1) := by decide +kernel
theorem dX7_peaceIn_22 : decode cX7_peaceIn 22 = .ok (.if_icmp .ge 34, 3) := by decide +kernel
theorem dX7_peaceIn_25 : decode cX7_peaceIn 25 = .ok (.aload_n 1, 1) := by decide +kernel
theorem dX7_peaceIn_26 : decode cX7_peaceIn 26 = .ok (.iload_n 3, 1) := by decide +kernel
theorem dX7_peaceIn_27 : decode cX7_peaceIn 27 = .ok (.invokestatic 278, 3) := by decide +kernel
theorem dX7_peaceIn_30 : decode cX7_peaceIn 30 = .ok (.ifCond .eq 20, 3) := by decide +kernel
theorem dX7_peaceIn_33 : decode cX7_peaceIn 33 = .ok (.aload_n 1, 1) := by decide +kernel
theorem dX7_peaceIn_34 : decode cX7_peaceIn 34 = .ok (.iload_n 3, 1) := by decide +kernel
theorem dX7_peaceIn_35 : decode cX7_peaceIn 35 = .ok (.iaload, 1) := by decide +kernel
theorem dX7_peaceIn_36 : decode cX7_peaceIn 36 = .ok (.ifCond .le 14, 3) := by decide +kernel
theorem dX7_peaceIn_39 : decode cX7_peaceIn 39 = .ok (.iload_n 2, 1) := by decide +kernel
theorem dX7_peaceIn_40 : decode cX7_peaceIn 40 = .ok (.aload_n 0, 1) := by decide +kernel
theorem dX7_peaceIn_41 : decode cX7_peaceIn 41 = .ok (.aload_n 1, 1) := by decide +kernel
theorem dX7_peaceIn_42 : decode cX7_peaceIn 42 = .ok (.iload_n 3, 1) := by decide +kernel
theorem dX7_peaceIn_43 : decode cX7_peaceIn 43 = .ok (.invokevirtual 289, 3) := by decide +kernel
theorem dX7_peaceIn_46 : decode cX7_peaceIn 46 = .ok (.iconst (-1), 1) := by decide +kernel
theorem dX7_peaceIn_47 : decode cX7_peaceIn 47 = .ok (.ixor, 1) := by decide +kernel
theorem dX7_peaceIn_48 : decode cX7_peaceIn 48 = .ok (.iand, 1) := by decide +kernel
theorem dX7_peaceIn_49 : decode cX7_peaceIn 49 = .ok (.istore_n 2, 1) := by decide +kernel
theorem dX7_peaceIn_50 : decode cX7_peaceIn 50 = .ok (.iinc 3 1, 3) := by decide +kernel
theorem dX7_peaceIn_53 : decode cX7_peaceIn 53 = .ok (.goto (-39), 3) := by decide +kernel
theorem dX7_peaceIn_56 : decode cX7_peaceIn 56 = .ok (.iload_n 2, 1) := by decide +kernel
theorem dX7_peaceIn_57 : decode cX7_peaceIn 57 = .ok (.ireturn, 1) := by decide +kernel
def f_X7_peaceIn_l14 : am_F := am_th (i_il 3) (am_th (i_al 0) (am_th (i_gr 7 15) (am_th (i_ic (7)) (am_th (i_ia 0) (am_br (b_2 (fun x y => decide (y ≤ x))) (am_to 56) (am_th (i_al 1) (am_th (i_il 3) (am_th (i_cs 2 d_X7_stands) (am_sq 50 (am_br (b_1 (fun x => decide (x = 0))) (am_to 50) (am_th (i_al 1) (am_th (i_il 3) (am_th (i_ia 0) (am_br (b_1 (fun x => decide (x ≤ 0))) (am_to 50) (am_th (i_il 2) (am_th (i_al 0) (am_th (i_al 1) (am_th (i_il 3) (am_th (i_cv 7 2 d_X7_partiesIn) (am_th (i_ic (-1)) (am_th (i_2 (fun x y => x ^^^ y)) (am_th (i_2 (fun x y => x &&& y)) (am_th (i_is 2) (am_to 50))))))))))))))) (am_th (i_inc 3 (1)) (am_to 14)))))))))))
def f_X7_peaceIn : am_F := am_th (i_ic (1)) (am_th (i_al 0) (am_th (i_gr 7 15) (am_th (i_ic (6)) (am_th (i_ia 0) (am_th (i_2 (fun x y => x <<< (y &&& 31))) (am_th (i_ic (1)) (am_th (i_2 (fun x y => x - y)) (am_th (i_is 2) (am_th (i_ic (0)) (am_th (i_is 3) (am_sq 56 (am_lp 5000 14 f_X7_peaceIn_l14) (am_th (i_il 2) (r_i)))))))))))))
def d_X7_peaceIn : am_D := am_den 4 f_X7_peaceIn
set_option maxHeartbeats 4000000 in
set_option maxRecDepth 100000 in
theorem b_X7_peaceIn : am_Body yX7_peaceIn cX7_peaceIn 4 (some .int) 3 66 f_X7_peaceIn := by
  intro p l e R s m args below meth c g n0 z0 r0 u0 C hr hn
  have C : am_Cx p l e R s m args below meth c g RX7 cX7_peaceIn 4 n0 z0 (am_len u0) (am_wt u0) 3 66 := C
  have l14 : am_Snd (am_GM p l e R s m args below meth c g 4 n0 z0 r0 u0) (am_Rt r0 u0) 14 (f_X7_peaceIn_l14) := by
    unfold f_X7_peaceIn_l14
    exact (so_th (so_iload_n C dX7_peaceIn_14 rfl) (so_th (so_aload_n C dX7_peaceIn_15 rfl) (so_th (so_getr C fl_RX7_20 dX7_peaceIn_16) (so_th (so_bipush C dX7_peaceIn_19 (by decide)) (so_th (so_iald C dX7_peaceIn_21) (so_br (so_icmp_ge C dX7_peaceIn_22 (by decide)) (so_to) (so_th (so_aload_n C dX7_peaceIn_25 rfl) (so_th (so_iload_n C dX7_peaceIn_26 rfl) (so_th (so_cs C m_X7_stands k_613 k_615 k_614 k_475 ⟨by decide, by decide, by decide +kernel⟩ (by decide) dX7_peaceIn_27) (so_sq (so_br (so_if_eq C dX7_peaceIn_30 (by decide)) (so_to) (so_th (so_aload_n C dX7_peaceIn_33 rfl) (so_th (so_iload_n C dX7_peaceIn_34 rfl) (so_th (so_iald C dX7_peaceIn_35) (so_br (so_if_le C dX7_peaceIn_36 (by decide)) (so_to) (so_th (so_iload_n C dX7_peaceIn_39 rfl) (so_th (so_aload_n C dX7_peaceIn_40 rfl) (so_th (so_aload_n C dX7_peaceIn_41 rfl) (so_th (so_iload_n C dX7_peaceIn_42 rfl) (so_th (so_cv C m_X7_partiesIn rfl k_623 k_625 k_624 k_626 k_475 ⟨by decide, by decide, by decide +kernel⟩ (by decide) dX7_peaceIn_43) (so_th (so_iconst C dX7_peaceIn_46 (by decide)) (so_th (so_ixor C dX7_peaceIn_47) (so_th (so_iand C dX7_peaceIn_48) (so_th (so_istore_n C dX7_peaceIn_49 rfl (by decide)) (so_to))))))))))))))) (so_th (so_iinc C dX7_peaceIn_50 (by decide) (by decide)) (so_goto C dX7_peaceIn_53 (by decide) (so_to)))))))))))))
  unfold f_X7_peaceIn
  exact (so_th (so_iconst C dX7_peaceIn_0 (by decide)) (so_th (so_aload_n C dX7_peaceIn_1 rfl) (so_th (so_getr C fl_RX7_20 dX7_peaceIn_2) (so_th (so_bipush C dX7_peaceIn_5 (by decide)) (so_th (so_iald C dX7_peaceIn_7) (so_th (so_ishl C dX7_peaceIn_8) (so_th (so_iconst C dX7_peaceIn_9 (by decide)) (so_th (so_isub C dX7_peaceIn_10) (so_th (so_istore_n C dX7_peaceIn_11 rfl (by decide)) (so_th (so_iconst C dX7_peaceIn_12 (by decide)) (so_th (so_istore_n C dX7_peaceIn_13 rfl (by decide)) (so_sq (so_lp l14 5000) (so_th (so_iload_n C dX7_peaceIn_56 rfl) (so_ri C hr dX7_peaceIn_57))))))))))))))
theorem m_X7_peaceIn : am_M yX7_peaceIn cX7_peaceIn 4 (some .int) 3 66 d_X7_peaceIn := am_M_of (by decide +kernel) b_X7_peaceIn
theorem dX7_isPeace_0 : decode cX7_isPeace 0 = .ok (.aload_n 0, 1) := by decide +kernel
theorem dX7_isPeace_1 : decode cX7_isPeace 1 = .ok (.aload_n 1, 1) := by decide +kernel
theorem dX7_isPeace_2 : decode cX7_isPeace 2 = .ok (.invokevirtual 319, 3) := by decide +kernel
theorem dX7_isPeace_5 : decode cX7_isPeace 5 = .ok (.iconst 1, 1) := by decide +kernel
theorem dX7_isPeace_6 : decode cX7_isPeace 6 = .ok (.aload_n 0, 1) := by decide +kernel
theorem dX7_isPeace_7 : decode cX7_isPeace 7 = .ok (.getfield 20, 3) := by decide +kernel
theorem dX7_isPeace_10 : decode cX7_isPeace 10 = .ok (.bipush 6, 2) := by decide +kernel
theorem dX7_isPeace_12 : decode cX7_isPeace 12 = .ok (.iaload, 1) := by decide +kernel
theorem dX7_isPeace_13 : decode cX7_isPeace 13 = .ok (.ishl, 1) := by decide +kernel
theorem dX7_isPeace_14 : decode cX7_isPeace 14 = .ok (.iconst 1, 1) := by decide +kernel
theorem dX7_isPeace_15 : decode cX7_isPeace 15 = .ok (.isub, 1) := by decide +kernel
theorem dX7_isPeace_16 : decode cX7_isPeace 16 = .ok (.if_icmp .ne 7, 3) := by decide +kernel
theorem dX7_isPeace_19 : decode cX7_isPeace 19 = .ok (.iconst 1, 1) := by decide +kernel
theorem dX7_isPeace_20 : decode cX7_isPeace 20 = .ok (.goto 4, 3) := by decide +kernel
theorem dX7_isPeace_23 : decode cX7_isPeace 23 = .ok (.iconst 0, 1) := by decide +kernel
theorem dX7_isPeace_24 : decode cX7_isPeace 24 = .ok (.ireturn, 1) := by decide +kernel
def f_X7_isPeace : am_F := am_th (i_al 0) (am_th (i_al 1) (am_th (i_cv 7 1 d_X7_peaceIn) (am_th (i_ic (1)) (am_th (i_al 0) (am_th (i_gr 7 15) (am_th (i_ic (6)) (am_th (i_ia 0) (am_th (i_2 (fun x y => x <<< (y &&& 31))) (am_th (i_ic (1)) (am_th (i_2 (fun x y => x - y)) (am_br (b_2 (fun x y => decide (¬ x = y))) (am_th (i_ic (0)) (r_z)) (am_th (i_ic (1)) (r_z)))))))))))))
def d_X7_isPeace : am_D := am_den 2 f_X7_isPeace
set_option maxHeartbeats 4000000 in
set_option maxRecDepth 100000 in
theorem b_X7_isPeace : am_Body yX7_isPeace cX7_isPeace 2 (some .boolean) 4 89 f_X7_isPeace := by
  intro p l e R s m args below meth c g n0 z0 r0 u0 C hr hn
  have C : am_Cx p l e R s m args below meth c g RX7 cX7_isPeace 2 n0 z0 (am_len u0) (am_wt u0) 4 89 := C
  unfold f_X7_isPeace
  exact (so_th (so_aload_n C dX7_isPeace_0 rfl) (so_th (so_aload_n C dX7_isPeace_1 rfl) (so_th (so_cv C m_X7_peaceIn rfl k_654 k_656 k_655 k_657 k_475 ⟨by decide, by decide, by decide +kernel⟩ (by decide) dX7_isPeace_2) (so_th (so_iconst C dX7_isPeace_5 (by decide)) (so_th (so_aload_n C dX7_isPeace_6 rfl) (so_th (so_getr C fl_RX7_20 dX7_isPeace_7) (so_th (so_bipush C dX7_isPeace_10 (by decide)) (so_th (so_iald C dX7_isPeace_12) (so_th (so_ishl C dX7_isPeace_13) (so_th (so_iconst C dX7_isPeace_14 (by decide)) (so_th (so_isub C dX7_isPeace_15) (so_br (so_icmp_ne C dX7_isPeace_16 (by decide)) (so_th (so_iconst C dX7_isPeace_23 (by decide)) (so_rz C hr dX7_isPeace_24)) (so_th (so_iconst C dX7_isPeace_19 (by decide)) (so_goto C dX7_isPeace_20 (by decide) (so_rz C hr dX7_isPeace_24)))))))))))))))
theorem m_X7_isPeace : am_M yX7_isPeace cX7_isPeace 2 (some .boolean) 4 89 d_X7_isPeace := am_M_of (by decide +kernel) b_X7_isPeace
theorem dX7_quarrel_0 : decode cX7_quarrel 0 = .ok (.aload_n 0, 1) := by decide +kernel
theorem dX7_quarrel_1 : decode cX7_quarrel 1 = .ok (.invokevirtual 189, 3) := by decide +kernel
theorem dX7_quarrel_4 : decode cX7_quarrel 4 = .ok (.aload_n 0, 1) := by decide +kernel
theorem dX7_quarrel_5 : decode cX7_quarrel 5 = .ok (.iload_n 1, 1) := by decide +kernel
theorem dX7_quarrel_6 : decode cX7_quarrel 6 = .ok (.invokevirtual 322, 3) := by decide +kernel
theorem dX7_quarrel_9 : decode cX7_quarrel 9 = .ok (.ifCond .eq 13, 3) := by decide +kernel
theorem dX7_quarrel_12 : decode cX7_quarrel 12 = .ok (.iload_n 2, 1) := by decide +kernel
theorem dX7_quarrel_13 : decode cX7_quarrel 13 = .ok (.iconst 0, 1) := by decide +kernel
theorem dX7_quarrel_14 : decode cX7_quarrel 14 = .ok (.bipush 6, 2) := by decide +kernel
theorem dX7_quarrel_16 : decode cX7_quarrel 16 = .ok (.invokestatic 157, 3) := by decide +kernel
theorem dX7_quarrel_19 : decode cX7_quarrel 19 = .ok (.ifCond .ne 9, 3) := by decide +kernel
theorem dX7_quarrel_22 : decode cX7_quarrel 22 = .ok (.aload_n 0, 1) := by decide +kernel
theorem dX7_quarrel_23 : decode cX7_quarrel 23 = .ok (.iconst 1, 1) := by decide +kernel
theorem dX7_quarrel_24 : decode cX7_quarrel 24 = .ok (.invokevirtual 192, 3) := by decide +kernel
theorem dX7_quarrel_27 : decode cX7_quarrel 27 = .ok (.ireturn, 1) := by decide +kernel
theorem dX7_quarrel_28 : decode cX7_quarrel 28 = .ok (.iload_n 2, 1) := by decide +kernel
theorem dX7_quarrel_29 : decode cX7_quarrel 29 = .ok (.tableswitch 105 0 5 #[39, 46, 53, 78, 88, 95], 39) := by decide +kernel
theorem dX7_quarrel_68 : decode cX7_quarrel 68 = .ok (.aload_n 0, 1) := by decide +kernel
theorem dX7_quarrel_69 : decode cX7_quarrel 69 = .ok (.iload_n 1, 1) := by decide +kernel
theorem dX7_quarrel_70 : decode cX7_quarrel 70 = .ok (.iconst 0, 1) := by decide +kernel
theorem dX7_quarrel_71 : decode cX7_quarrel 71 = .ok (.invokevirtual 215, 3) := by decide +kernel
theorem dX7_quarrel_74 : decode cX7_quarrel 74 = .ok (.ireturn, 1) := by decide +kernel
theorem dX7_quarrel_75 : decode cX7_quarrel 75 = .ok (.aload_n 0, 1) := by decide +kernel
theorem dX7_quarrel_76 : decode cX7_quarrel 76 = .ok (.getfield 26, 3) := by decide +kernel
theorem dX7_quarrel_79 : decode cX7_quarrel 79 = .ok (.iload_n 1, 1) := by decide +kernel
theorem dX7_quarrel_80 : decode cX7_quarrel 80 = .ok (.iaload, 1) := by decide +kernel
theorem dX7_quarrel_81 : decode cX7_quarrel 81 = .ok (.ireturn, 1) := by decide +kernel
theorem dX7_quarrel_82 : decode cX7_quarrel 82 = .ok (.aload_n 0, 1) := by decide +kernel
theorem dX7_quarrel_83 : decode cX7_quarrel 83 = .ok (.getfield 26, 3) := by decide +kernel
theorem dX7_quarrel_86 : decode cX7_quarrel 86 = .ok (.iload_n 1, 1) := by decide +kernel
theorem dX7_quarrel_87 : decode cX7_quarrel 87 = .ok (.invokestatic 278, 3) := by decide +kernel
theorem dX7_quarrel_90 : decode cX7_quarrel 90 = .ok (.ifCond .eq 8, 3) := by decide +kernel
theorem dX7_quarrel_93 : decode cX7_quarrel 93 = .ok (.bipush (-2), 2) := by decide +kernel
theorem dX7_quarrel_95 : decode cX7_quarrel 95 = .ok (.goto 11, 3) := by decide +kernel
theorem dX7_quarrel_98 : decode cX7_quarrel 98 = .ok (.aload_n 0, 1) := by decide +kernel
theorem dX7_quarrel_99 : decode cX7_quarrel 99 = .ok (.getfield 26, 3) := by decide +kernel
theorem dX7_quarrel_102 : decode cX7_quarrel 102 = .ok (.iload_n 1, 1) := by decide +kernel
theorem dX7_quarrel_103 : decode cX7_quarrel 103 = .ok (.invokestatic 282, 3) := by decide +kernel
theorem dX7_quarrel_106 : decode cX7_quarrel 106 = .ok (.ireturn, 1) := by decide +kernel
theorem dX7_quarrel_107 : decode cX7_quarrel 107 = .ok (.aload_n 0, 1) := by decide +kernel
theorem dX7_quarrel_108 : decode cX7_quarrel 108 = .ok (.aload_n 0, 1) := by decide +kernel
theorem dX7_quarrel_109 : decode cX7_quarrel 109 = .ok (.getfield 26, 3) := by decide +kernel
theorem dX7_quarrel_112 : decode cX7_quarrel 112 = .ok (.iload_n 1, 1) := by decide +kernel
theorem dX7_quarrel_113 : decode cX7_quarrel 113 = .ok (.invokevirtual 292, 3) := by decide +kernel
theorem dX7_quarrel_116 : decode cX7_quarrel 116 = .ok (.ireturn, 1) := by decide +kernel
theorem dX7_quarrel_117 : decode cX7_quarrel 117 = .ok (.aload_n 0, 1) := by decide +kernel
theorem dX7_quarrel_118 : decode cX7_quarrel 118 = .ok (.iload_n 1, 1) := by decide +kernel
theorem dX7_quarrel_119 : decode cX7_quarrel 119 = .ok (.iconst 4, 1) := by decide +kernel
theorem dX7_quarrel_120 : decode cX7_quarrel 120 = .ok (.invokevirtual 215, 3) := by decide +kernel
theorem dX7_quarrel_123 : decode cX7_quarrel 123 = .ok (.ireturn, 1) := by decide +kernel
theorem dX7_quarrel_124 : decode cX7_quarrel 124 = .ok (.aload_n 0, 1) := by decide +kernel
theorem dX7_quarrel_125 : decode cX7_quarrel 125 = .ok (.getfield 26, 3) := by decide +kernel
theorem dX7_quarrel_128 : decode cX7_quarrel 128 = .ok (.bipush 12, 2) := by decide +kernel
theorem dX7_quarrel_130 : decode cX7_quarrel 130 = .ok (.iload_n 1, 1) := by decide +kernel
theorem dX7_quarrel_131 : decode cX7_quarrel 131 = .ok (.iadd, 1) := by decide +kernel
theorem dX7_quarrel_132 : decode cX7_quarrel 132 = .ok (.iaload, 1) := by decide +kernel
theorem dX7_quarrel_133 : decode cX7_quarrel 133 = .ok (.ireturn, 1) := by decide +kernel
theorem dX7_quarrel_134 : decode cX7_quarrel 134 = .ok (.aload_n 0, 1) := by decide +kernel
theorem dX7_quarrel_135 : decode cX7_quarrel 135 = .ok (.getfield 26, 3) := by decide +kernel
theorem dX7_quarrel_138 : decode cX7_quarrel 138 = .ok (.bipush 18, 2) := by decide +kernel
theorem dX7_quarrel_140 : decode cX7_quarrel 140 = .ok (.iload_n 1, 1) := by decide +kernel
theorem dX7_quarrel_141 : decode cX7_quarrel 141 = .ok (.iadd, 1) := by decide +kernel
theorem dX7_quarrel_142 : decode cX7_quarrel 142 = .ok (.iaload, 1) := by decide +kernel
theorem dX7_quarrel_143 : decode cX7_quarrel 143 = .ok (.ireturn, 1) := by decide +kernel
def f_X7_quarrel : am_F := am_th (i_al 0) (am_th (i_cv 7 0 d_X7_good) (am_th (i_al 0) (am_th (i_il 1) (am_th (i_cv 7 1 d_X7_isQuarrel) (am_br (b_1 (fun x => decide (x = 0))) (am_th (i_al 0) (am_th (i_ic (1)) (am_th (i_cv 7 1 d_X7_no) (r_i)))) (am_th (i_il 2) (am_th (i_ic (0)) (am_th (i_ic (6)) (am_th (i_cs 3 d_X7_in) (am_br (b_1 (fun x => decide (¬ x = 0))) (am_th (i_il 2) (am_sw (0) [am_th (i_al 0) (am_th (i_il 1) (am_th (i_ic (0)) (am_th (i_cv 7 2 d_X7_ofQuarrel) (r_i)))), am_th (i_al 0) (am_th (i_gr 7 17) (am_th (i_il 1) (am_th (i_ia 0) (r_i)))), am_th (i_al 0) (am_th (i_gr 7 17) (am_th (i_il 1) (am_th (i_cs 2 d_X7_stands) (am_br (b_1 (fun x => decide (x = 0))) (am_th (i_al 0) (am_th (i_gr 7 17) (am_th (i_il 1) (am_th (i_cs 2 d_X7_rootOf) (r_i))))) (am_th (i_ic (-2)) (r_i)))))), am_th (i_al 0) (am_th (i_al 0) (am_th (i_gr 7 17) (am_th (i_il 1) (am_th (i_cv 7 2 d_X7_kindsIn) (r_i))))), am_th (i_al 0) (am_th (i_il 1) (am_th (i_ic (4)) (am_th (i_cv 7 2 d_X7_ofQuarrel) (r_i)))), am_th (i_al 0) (am_th (i_gr 7 17) (am_th (i_ic (12)) (am_th (i_il 1) (am_th (i_2 (fun x y => x + y)) (am_th (i_ia 0) (r_i))))))] (am_th (i_al 0) (am_th (i_gr 7 17) (am_th (i_ic (18)) (am_th (i_il 1) (am_th (i_2 (fun x y => x + y)) (am_th (i_ia 0) (r_i))))))))) (am_th (i_al 0) (am_th (i_ic (1)) (am_th (i_cv 7 1 d_X7_no) (r_i))))))))))))))
def d_X7_quarrel : am_D := am_den 3 f_X7_quarrel
set_option maxHeartbeats 4000000 in
set_option maxRecDepth 100000 in
theorem b_X7_quarrel : am_Body yX7_quarrel cX7_quarrel 3 (some .int) 3 66 f_X7_quarrel := by
  intro p l e R s m args below meth c g n0 z0 r0 u0 C hr hn
  have C : am_Cx p l e R s m args below meth c g RX7 cX7_quarrel 3 n0 z0 (am_len u0) (am_wt u0) 3 66 := C
  unfold f_X7_quarrel
  exact (so_th (so_aload_n C dX7_quarrel_0 rfl) (so_th (so_cv C m_X7_good rfl k_594 k_596 k_595 k_597 k_475 ⟨by decide, by decide, by decide +kernel⟩ (by decide) dX7_quarrel_1) (so_th (so_aload_n C dX7_quarrel_4 rfl) (so_th (so_iload_n C dX7_quarrel_5 rfl) (so_th (so_cv C m_X7_isQuarrel rfl k_658 k_660 k_659 k_661 k_475 ⟨by decide, by decide, by decide +kernel⟩ (by decide) dX7_quarrel_6) (so_br (so_if_eq C dX7_quarrel_9 (by decide)) (so_th (so_aload_n C dX7_quarrel_22 rfl) (so_th (so_iconst C dX7_quarrel_23 (by decide)) (so_th (so_cv C m_X7_no rfl k_609 k_611 k_610 k_612 k_475 ⟨by decide, by decide, by decide +kernel⟩ (by decide) dX7_quarrel_24) (so_ri C hr dX7_quarrel_27)))) (so_th (so_iload_n C dX7_quarrel_12 rfl) (so_th (so_iconst C dX7_quarrel_13 (by decide)) (so_th (so_bipush C dX7_quarrel_14 (by decide)) (so_th (so_cs C m_X7_in k_511 k_513 k_512 k_475 ⟨by decide, by decide, by decide +kernel⟩ (by decide) dX7_quarrel_16) (so_br (so_if_ne C dX7_quarrel_19 (by decide)) (so_th (so_iload_n C dX7_quarrel_28 rfl) (so_sw C dX7_quarrel_29 rfl (by decide) (td := 134) (by decide) (so_th (so_aload_n C dX7_quarrel_134 rfl) (so_th (so_getr C fl_RX7_26 dX7_quarrel_135) (so_th (so_bipush C dX7_quarrel_138 (by decide)) (so_th (so_iload_n C dX7_quarrel_140 rfl) (so_th (so_iadd C dX7_quarrel_141) (so_th (so_iald C dX7_quarrel_142) (so_ri C hr dX7_quarrel_143))))))) (fun k f hk => match k, hk with
      | 0, hk => ⟨(39), 68, rfl, by decide, (Option.some.inj hk) ▸ (so_th (so_aload_n C dX7_quarrel_68 rfl) (so_th (so_iload_n C dX7_quarrel_69 rfl) (so_th (so_iconst C dX7_quarrel_70 (by decide)) (so_th (so_cv C m_X7_ofQuarrel rfl k_590 k_592 k_591 k_593 k_475 ⟨by decide, by decide, by decide +kernel⟩ (by decide) dX7_quarrel_71) (so_ri C hr dX7_quarrel_74)))))⟩
      | 1, hk => ⟨(46), 75, rfl, by decide, (Option.some.inj hk) ▸ (so_th (so_aload_n C dX7_quarrel_75 rfl) (so_th (so_getr C fl_RX7_26 dX7_quarrel_76) (so_th (so_iload_n C dX7_quarrel_79 rfl) (so_th (so_iald C dX7_quarrel_80) (so_ri C hr dX7_quarrel_81)))))⟩
      | 2, hk => ⟨(53), 82, rfl, by decide, (Option.some.inj hk) ▸ (so_th (so_aload_n C dX7_quarrel_82 rfl) (so_th (so_getr C fl_RX7_26 dX7_quarrel_83) (so_th (so_iload_n C dX7_quarrel_86 rfl) (so_th (so_cs C m_X7_stands k_613 k_615 k_614 k_475 ⟨by decide, by decide, by decide +kernel⟩ (by decide) dX7_quarrel_87) (so_br (so_if_eq C dX7_quarrel_90 (by decide)) (so_th (so_aload_n C dX7_quarrel_98 rfl) (so_th (so_getr C fl_RX7_26 dX7_quarrel_99) (so_th (so_iload_n C dX7_quarrel_102 rfl) (so_th (so_cs C m_X7_rootOf k_616 k_618 k_617 k_475 ⟨by decide, by decide, by decide +kernel⟩ (by decide) dX7_quarrel_103) (so_ri C hr dX7_quarrel_106))))) (so_th (so_bipush C dX7_quarrel_93 (by decide)) (so_goto C dX7_quarrel_95 (by decide) (so_ri C hr dX7_quarrel_106))))))))⟩
      | 3, hk => ⟨(78), 107, rfl, by decide, (Option.some.inj hk) ▸ (so_th (so_aload_n C dX7_quarrel_107 rfl) (so_th (so_aload_n C dX7_quarrel_108 rfl) (so_th (so_getr C fl_RX7_26 dX7_quarrel_109) (so_th (so_iload_n C dX7_quarrel_112 rfl) (so_th (so_cv C m_X7_kindsIn rfl k_627 k_629 k_628 k_630 k_475 ⟨by decide, by decide, by decide +kernel⟩ (by decide) dX7_quarrel_113) (so_ri C hr dX7_quarrel_116))))))⟩
      | 4, hk => ⟨(88), 117, rfl, by decide, (Option.some.inj hk) ▸ (so_th (so_aload_n C dX7_quarrel_117 rfl) (so_th (so_iload_n C dX7_quarrel_118 rfl) (so_th (so_iconst C dX7_quarrel_119 (by decide)) (so_th (so_cv C m_X7_ofQuarrel rfl k_590 k_592 k_591 k_593 k_475 ⟨by decide, by decide, by decide +kernel⟩ (by decide) dX7_quarrel_120) (so_ri C hr dX7_quarrel_123)))))⟩
      | 5, hk => ⟨(95), 124, rfl, by decide, (Option.some.inj hk) ▸ (so_th (so_aload_n C dX7_quarrel_124 rfl) (so_th (so_getr C fl_RX7_26 dX7_quarrel_125) (so_th (so_bipush C dX7_quarrel_128 (by decide)) (so_th (so_iload_n C dX7_quarrel_130 rfl) (so_th (so_iadd C dX7_quarrel_131) (so_th (so_iald C dX7_quarrel_132) (so_ri C hr dX7_quarrel_133)))))))⟩
      | k + 6, hk => by simp at hk))) (so_th (so_aload_n C dX7_quarrel_22 rfl) (so_th (so_iconst C dX7_quarrel_23 (by decide)) (so_th (so_cv C m_X7_no rfl k_609 k_611 k_610 k_612 k_475 ⟨by decide, by decide, by decide +kernel⟩ (by decide) dX7_quarrel_24) (so_ri C hr dX7_quarrel_27)))))))))))))))
theorem m_X7_quarrel : am_M yX7_quarrel cX7_quarrel 3 (some .int) 3 66 d_X7_quarrel := am_M_of (by decide +kernel) b_X7_quarrel
theorem dX7_parties_0 : decode cX7_parties 0 = .ok (.aload_n 0, 1) := by decide +kernel
theorem dX7_parties_1 : decode cX7_parties 1 = .ok (.invokevirtual 189, 3) := by decide +kernel
theorem dX7_parties_4 : decode cX7_parties 4 = .ok (.aload_n 0, 1) := by decide +kernel
theorem dX7_parties_5 : decode cX7_parties 5 = .ok (.iload_n 1, 1) := by decide +kernel
theorem dX7_parties_6 : decode cX7_parties 6 = .ok (.invokevirtual 322, 3) := by decide +kernel
theorem dX7_parties_9 : decode cX7_parties 9 = .ok (.ifCond .eq 15, 3) := by decide +kernel
theorem dX7_parties_12 : decode cX7_parties 12 = .ok (.aload_n 0, 1) := by decide +kernel
theorem dX7_parties_13 : decode cX7_parties 13 = .ok (.aload_n 0, 1) := by decide +kernel
theorem dX7_parties_14 : decode cX7_parties 14 = .ok (.getfield 26, 3) := by decide +kernel
theorem dX7_parties_17 : decode cX7_parties 17 = .ok (.iload_n 1, 1) := by decide +kernel
theorem dX7_parties_18 : decode cX7_parties 18 = .ok (.invokevirtual 289, 3) := by decide +kernel
theorem dX7_parties_21 : decode cX7_parties 21 = .ok (.goto 8, 3) := by decide +kernel
theorem dX7_parties_24 : decode cX7_parties 24 = .ok (.aload_n 0, 1) := by decide +kernel
theorem dX7_parties_25 : decode cX7_parties 25 = .ok (.iconst 1, 1) := by decide +kernel
theorem dX7_parties_26 : decode cX7_parties 26 = .ok (.invokevirtual 192, 3) := by decide +kernel
theorem dX7_parties_29 : decode cX7_parties 29 = .ok (.ireturn, 1) := by decide +kernel
def f_X7_parties : am_F := am_th (i_al 0) (am_th (i_cv 7 0 d_X7_good) (am_th (i_al 0) (am_th (i_il 1) (am_th (i_cv 7 1 d_X7_isQuarrel) (am_br (b_1 (fun x => decide (x = 0))) (am_th (i_al 0) (am_th (i_ic (1)) (am_th (i_cv 7 1 d_X7_no) (r_i)))) (am_th (i_al 0) (am_th (i_al 0) (am_th (i_gr 7 17) (am_th (i_il 1) (am_th (i_cv 7 2 d_X7_partiesIn) (r_i)))))))))))
def d_X7_parties : am_D := am_den 2 f_X7_parties
set_option maxHeartbeats 4000000 in
set_option maxRecDepth 100000 in
theorem b_X7_parties : am_Body yX7_parties cX7_parties 2 (some .int) 3 66 f_X7_parties := by
  intro p l e R s m args below meth c g n0 z0 r0 u0 C hr hn
  have C : am_Cx p l e R s m args below meth c g RX7 cX7_parties 2 n0 z0 (am_len u0) (am_wt u0) 3 66 := C
  unfold f_X7_parties
  exact (so_th (so_aload_n C dX7_parties_0 rfl) (so_th (so_cv C m_X7_good rfl k_594 k_596 k_595 k_597 k_475 ⟨by decide, by decide, by decide +kernel⟩ (by decide) dX7_parties_1) (so_th (so_aload_n C dX7_parties_4 rfl) (so_th (so_iload_n C dX7_parties_5 rfl) (so_th (so_cv C m_X7_isQuarrel rfl k_658 k_660 k_659 k_661 k_475 ⟨by decide, by decide, by decide +kernel⟩ (by decide) dX7_parties_6) (so_br (so_if_eq C dX7_parties_9 (by decide)) (so_th (so_aload_n C dX7_parties_24 rfl) (so_th (so_iconst C dX7_parties_25 (by decide)) (so_th (so_cv C m_X7_no rfl k_609 k_611 k_610 k_612 k_475 ⟨by decide, by decide, by decide +kernel⟩ (by decide) dX7_parties_26) (so_ri C hr dX7_parties_29)))) (so_th (so_aload_n C dX7_parties_12 rfl) (so_th (so_aload_n C dX7_parties_13 rfl) (so_th (so_getr C fl_RX7_26 dX7_parties_14) (so_th (so_iload_n C dX7_parties_17 rfl) (so_th (so_cv C m_X7_partiesIn rfl k_623 k_625 k_624 k_626 k_475 ⟨by decide, by decide, by decide +kernel⟩ (by decide) dX7_parties_18) (so_goto C dX7_parties_21 (by decide) (so_ri C hr dX7_parties_29)))))))))))))
theorem m_X7_parties : am_M yX7_parties cX7_parties 2 (some .int) 3 66 d_X7_parties := am_M_of (by decide +kernel) b_X7_parties
theorem dX7_boundOf_0 : decode cX7_boundOf 0 = .ok (.iconst 0, 1) := by decide +kernel
theorem dX7_boundOf_1 : decode cX7_boundOf 1 = .ok (.istore_n 2, 1) := by decide +kernel
theorem dX7_boundOf_2 : decode cX7_boundOf 2 = .ok (.iconst 0, 1) := by decide +kernel
theorem dX7_boundOf_3 : decode cX7_boundOf 3 = .ok (.istore_n 3, 1) := by decide +kernel
theorem dX7_boundOf_4 : decode cX7_boundOf 4 = .ok (.iload_n 3, 1) := by decide +kernel
theorem dX7_boundOf_5 : decode cX7_boundOf 5 = .ok (.aload_n 0, 1) := by decide +kernel
theorem dX7_boundOf_6 : decode cX7_boundOf 6 = .ok (.getfield 20, 3) := by decide +kernel
theorem dX7_boundOf_9 : decode cX7_boundOf 9 = .ok (.bipush 7, 2) := by decide +kernel
theorem dX7_boundOf_11 : decode cX7_boundOf 11 = .ok (.iaload, 1) := by decide +kernel
theorem dX7_boundOf_12 : decode cX7_boundOf 12 = .ok (.if_icmp .ge 35, 3) := by decide +kernel
theorem dX7_boundOf_15 : decode cX7_boundOf 15 = .ok (.iload_n 2, 1) := by decide +kernel
theorem dX7_boundOf_16 : decode cX7_boundOf 16 = .ok (.aload_n 0, 1) := by decide +kernel
theorem dX7_boundOf_17 : decode cX7_boundOf 17 = .ok (.aload_n 0, 1) := by decide +kernel
theorem dX7_boundOf_18 : decode cX7_boundOf 18 = .ok (.getfield 26, 3) := by decide +kernel
theorem dX7_boundOf_21 : decode cX7_boundOf 21 = .ok (.iload_n 3, 1) := by decide +kernel
theorem dX7_boundOf_22 : decode cX7_boundOf 22 = .ok (.invokevirtual 289, 3) := by decide +kernel
theorem dX7_boundOf_25 : decode cX7_boundOf 25 = .ok (.iload_n 1, 1) := by decide +kernel
theorem dX7_boundOf_26 : decode cX7_boundOf 26 = .ok (.invokestatic 295, 3) := by decide +kernel
theorem dX7_boundOf_29 : decode cX7_boundOf 29 = .ok (.ifCond .eq 9, 3) := by decide +kernel
theorem dX7_boundOf_32 : decode cX7_boundOf 32 = .ok (.iconst 1, 1) := by decide +kernel
theorem dX7_boundOf_33 : decode cX7_boundOf 33 = .ok (.iload_n 3, 1) := by decide +kernel
theorem dX7_boundOf_34 : decode cX7_boundOf 34 = .ok (.ishl, 1) := by decide +kernel
theorem dX7_boundOf_35 : decode cX7_boundOf 35 = .ok (.goto 4, 3) := by decide +kernel
theorem dX7_boundOf_38 : decode cX7_boundOf 38 = .ok (.iconst 0, 1) := by decide +kernel
theorem dX7_boundOf_39 : decode cX7_boundOf 39 = .ok (.ior, 1) := by decide +kernel
theorem dX7_boundOf_40 : decode cX7_boundOf 40 = .ok (.istore_n 2, 1) := by decide +kernel
theorem dX7_boundOf_41 : decode cX7_boundOf 41 = .ok (.iinc 3 1, 3) := by decide +kernel
theorem dX7_boundOf_44 : decode cX7_boundOf 44 = .ok (.goto (-40), 3) := by decide +kernel
theorem dX7_boundOf_47 : decode cX7_boundOf 47 = .ok (.iload_n 2, 1) := by decide +kernel
theorem dX7_boundOf_48 : decode cX7_boundOf 48 = .ok (.ireturn, 1) := by decide +kernel
def f_X7_boundOf_l4 : am_F := am_th (i_il 3) (am_th (i_al 0) (am_th (i_gr 7 15) (am_th (i_ic (7)) (am_th (i_ia 0) (am_br (b_2 (fun x y => decide (y ≤ x))) (am_to 47) (am_th (i_il 2) (am_th (i_al 0) (am_th (i_al 0) (am_th (i_gr 7 17) (am_th (i_il 3) (am_th (i_cv 7 2 d_X7_partiesIn) (am_th (i_il 1) (am_th (i_cs 2 d_X7_hasBit) (am_sq 39 (am_br (b_1 (fun x => decide (x = 0))) (am_th (i_ic (0)) (am_to 39)) (am_th (i_ic (1)) (am_th (i_il 3) (am_th (i_2 (fun x y => x <<< (y &&& 31))) (am_to 39))))) (am_th (i_2 (fun x y => x ||| y)) (am_th (i_is 2) (am_th (i_inc 3 (1)) (am_to 4))))))))))))))))))
def f_X7_boundOf : am_F := am_th (i_ic (0)) (am_th (i_is 2) (am_th (i_ic (0)) (am_th (i_is 3) (am_sq 47 (am_lp 5000 4 f_X7_boundOf_l4) (am_th (i_il 2) (r_i))))))
def d_X7_boundOf : am_D := am_den 4 f_X7_boundOf
set_option maxHeartbeats 4000000 in
set_option maxRecDepth 100000 in
theorem b_X7_boundOf : am_Body yX7_boundOf cX7_boundOf 4 (some .int) 3 66 f_X7_boundOf := by
  intro p l e R s m args below meth c g n0 z0 r0 u0 C hr hn
  have C : am_Cx p l e R s m args below meth c g RX7 cX7_boundOf 4 n0 z0 (am_len u0) (am_wt u0) 3 66 := C
  have l4 : am_Snd (am_GM p l e R s m args below meth c g 4 n0 z0 r0 u0) (am_Rt r0 u0) 4 (f_X7_boundOf_l4) := by
    unfold f_X7_boundOf_l4
    exact (so_th (so_iload_n C dX7_boundOf_4 rfl) (so_th (so_aload_n C dX7_boundOf_5 rfl) (so_th (so_getr C fl_RX7_20 dX7_boundOf_6) (so_th (so_bipush C dX7_boundOf_9 (by decide)) (so_th (so_iald C dX7_boundOf_11) (so_br (so_icmp_ge C dX7_boundOf_12 (by decide)) (so_to) (so_th (so_iload_n C dX7_boundOf_15 rfl) (so_th (so_aload_n C dX7_boundOf_16 rfl) (so_th (so_aload_n C dX7_boundOf_17 rfl) (so_th (so_getr C fl_RX7_26 dX7_boundOf_18) (so_th (so_iload_n C dX7_boundOf_21 rfl) (so_th (so_cv C m_X7_partiesIn rfl k_623 k_625 k_624 k_626 k_475 ⟨by decide, by decide, by decide +kernel⟩ (by decide) dX7_boundOf_22) (so_th (so_iload_n C dX7_boundOf_25 rfl) (so_th (so_cs C m_X7_hasBit k_631 k_633 k_632 k_475 ⟨by decide, by decide, by decide +kernel⟩ (by decide) dX7_boundOf_26) (so_sq (so_br (so_if_eq C dX7_boundOf_29 (by decide)) (so_th (so_iconst C dX7_boundOf_38 (by decide)) (so_to)) (so_th (so_iconst C dX7_boundOf_32 (by decide)) (so_th (so_iload_n C dX7_boundOf_33 rfl) (so_th (so_ishl C dX7_boundOf_34) (so_goto C dX7_boundOf_35 (by decide) (so_to)))))) (so_th (so_ior C dX7_boundOf_39) (so_th (so_istore_n C dX7_boundOf_40 rfl (by decide)) (so_th (so_iinc C dX7_boundOf_41 (by decide) (by decide)) (so_goto C dX7_boundOf_44 (by decide) (so_to))))))))))))))))))))
  unfold f_X7_boundOf
  exact (so_th (so_iconst C dX7_boundOf_0 (by decide)) (so_th (so_istore_n C dX7_boundOf_1 rfl (by decide)) (so_th (so_iconst C dX7_boundOf_2 (by decide)) (so_th (so_istore_n C dX7_boundOf_3 rfl (by decide)) (so_sq (so_lp l4 5000) (so_th (so_iload_n C dX7_boundOf_47 rfl) (so_ri C hr dX7_boundOf_48)))))))
theorem m_X7_boundOf : am_M yX7_boundOf cX7_boundOf 4 (some .int) 3 66 d_X7_boundOf := am_M_of (by decide +kernel) b_X7_boundOf
theorem dX7_bound_0 : decode cX7_bound 0 = .ok (.aload_n 0, 1) := by decide +kernel
theorem dX7_bound_1 : decode cX7_bound 1 = .ok (.invokevirtual 189, 3) := by decide +kernel
theorem dX7_bound_4 : decode cX7_bound 4 = .ok (.aload_n 0, 1) := by decide +kernel
theorem dX7_bound_5 : decode cX7_bound 5 = .ok (.iload_n 1, 1) := by decide +kernel
theorem dX7_bound_6 : decode cX7_bound 6 = .ok (.invokevirtual 325, 3) := by decide +kernel
theorem dX7_bound_9 : decode cX7_bound 9 = .ok (.ifCond .eq 11, 3) := by decide +kernel
theorem dX7_bound_12 : decode cX7_bound 12 = .ok (.aload_n 0, 1) := by decide +kernel
theorem dX7_bound_13 : decode cX7_bound 13 = .ok (.iload_n 1, 1) := by decide +kernel
theorem dX7_bound_14 : decode cX7_bound 14 = .ok (.invokevirtual 328, 3) := by decide +kernel
theorem dX7_bound_17 : decode cX7_bound 17 = .ok (.goto 8, 3) := by decide +kernel
theorem dX7_bound_20 : decode cX7_bound 20 = .ok (.aload_n 0, 1) := by decide +kernel
theorem dX7_bound_21 : decode cX7_bound 21 = .ok (.iconst 1, 1) := by decide +kernel
theorem dX7_bound_22 : decode cX7_bound 22 = .ok (.invokevirtual 192, 3) := by decide +kernel
theorem dX7_bound_25 : decode cX7_bound 25 = .ok (.ireturn, 1) := by decide +kernel
def f_X7_bound : am_F := am_th (i_al 0) (am_th (i_cv 7 0 d_X7_good) (am_th (i_al 0) (am_th (i_il 1) (am_th (i_cv 7 1 d_X7_isFamily) (am_br (b_1 (fun x => decide (x = 0))) (am_th (i_al 0) (am_th (i_ic (1)) (am_th (i_cv 7 1 d_X7_no) (r_i)))) (am_th (i_al 0) (am_th (i_il 1) (am_th (i_cv 7 1 d_X7_boundOf) (r_i)))))))))
def d_X7_bound : am_D := am_den 2 f_X7_bound
set_option maxHeartbeats 4000000 in
set_option maxRecDepth 100000 in
theorem b_X7_bound : am_Body yX7_bound cX7_bound 2 (some .int) 4 89 f_X7_bound := by
  intro p l e R s m args below meth c g n0 z0 r0 u0 C hr hn
  have C : am_Cx p l e R s m args below meth c g RX7 cX7_bound 2 n0 z0 (am_len u0) (am_wt u0) 4 89 := C
  unfold f_X7_bound
  exact (so_th (so_aload_n C dX7_bound_0 rfl) (so_th (so_cv C m_X7_good rfl k_594 k_596 k_595 k_597 k_475 ⟨by decide, by decide, by decide +kernel⟩ (by decide) dX7_bound_1) (so_th (so_aload_n C dX7_bound_4 rfl) (so_th (so_iload_n C dX7_bound_5 rfl) (so_th (so_cv C m_X7_isFamily rfl k_662 k_664 k_663 k_665 k_475 ⟨by decide, by decide, by decide +kernel⟩ (by decide) dX7_bound_6) (so_br (so_if_eq C dX7_bound_9 (by decide)) (so_th (so_aload_n C dX7_bound_20 rfl) (so_th (so_iconst C dX7_bound_21 (by decide)) (so_th (so_cv C m_X7_no rfl k_609 k_611 k_610 k_612 k_475 ⟨by decide, by decide, by decide +kernel⟩ (by decide) dX7_bound_22) (so_ri C hr dX7_bound_25)))) (so_th (so_aload_n C dX7_bound_12 rfl) (so_th (so_iload_n C dX7_bound_13 rfl) (so_th (so_cv C m_X7_boundOf rfl k_666 k_668 k_667 k_669 k_475 ⟨by decide, by decide, by decide +kernel⟩ (by decide) dX7_bound_14) (so_goto C dX7_bound_17 (by decide) (so_ri C hr dX7_bound_25)))))))))))
theorem m_X7_bound : am_M yX7_bound cX7_bound 2 (some .int) 4 89 d_X7_bound := am_M_of (by decide +kernel) b_X7_bound
theorem dX7_feud_0 : decode cX7_feud 0 = .ok (.aload_n 0, 1) := by decide +kernel
theorem dX7_feud_1 : decode cX7_feud 1 = .ok (.invokevirtual 189, 3) := by decide +kernel
theorem dX7_feud_4 : decode cX7_feud 4 = .ok (.aload_n 0, 1) := by decide +kernel
theorem dX7_feud_5 : decode cX7_feud 5 = .ok (.iload_n 1, 1) := by decide +kernel
theorem dX7_feud_6 : decode cX7_feud 6 = .ok (.invokevirtual 325, 3) := by decide +kernel
theorem dX7_feud_9 : decode cX7_feud 9 = .ok (.ifCond .ne 9, 3) := by decide +kernel
theorem dX7_feud_12 : decode cX7_feud 12 = .ok (.aload_n 0, 1) := by decide +kernel
theorem dX7_feud_13 : decode cX7_feud 13 = .ok (.iconst 1, 1) := by decide +kernel
theorem dX7_feud_14 : decode cX7_feud 14 = .ok (.invokevirtual 192, 3) := by decide +kernel
theorem dX7_feud_17 : decode cX7_feud 17 = .ok (.ireturn, 1) := by decide +kernel
theorem dX7_feud_18 : decode cX7_feud 18 = .ok (.iconst 1, 1) := by decide +kernel
theorem dX7_feud_19 : decode cX7_feud 19 = .ok (.iload_n 1, 1) := by decide +kernel
theorem dX7_feud_20 : decode cX7_feud 20 = .ok (.ishl, 1) := by decide +kernel
theorem dX7_feud_21 : decode cX7_feud 21 = .ok (.istore_n 2, 1) := by decide +kernel
theorem dX7_feud_22 : decode cX7_feud 22 = .ok (.iconst 0, 1) := by decide +kernel
theorem dX7_feud_23 : decode cX7_feud 23 = .ok (.istore_n 3, 1) := by decide +kernel
theorem dX7_feud_24 : decode cX7_feud 24 = .ok (.iload_n 3, 1) := by decide +kernel
theorem dX7_feud_25 : decode cX7_feud 25 = .ok (.iload_n 2, 1) := by decide +kernel
theorem dX7_feud_26 : decode cX7_feud 26 = .ok (.if_icmp .eq 61, 3) := by decide +kernel
theorem dX7_feud_29 : decode cX7_feud 29 = .ok (.iload_n 2, 1) := by decide +kernel
theorem dX7_feud_30 : decode cX7_feud 30 = .ok (.istore_n 3, 1) := by decide +kernel
theorem dX7_feud_31 : decode cX7_feud 31 = .ok (.iconst 0, 1) := by decide +kernel
theorem dX7_feud_32 : decode cX7_feud 32 = .ok (.istore 4, 2) := by decide +kernel
theorem dX7_feud_34 : decode cX7_feud 34 = .ok (.iload 4, 2) := by decide +kernel
theorem dX7_feud_36 : decode cX7_feud 36 = .ok (.aload_n 0, 1) := by decide +kernel
theorem dX7_feud_37 : decode cX7_feud 37 = .ok (.getfield 20, 3) := by decide +kernel
theorem dX7_feud_40 : decode cX7_feud 40 = .ok (.bipush 7, 2) := by decide +kernel
theorem dX7_feud_42 : decode cX7_feud 42 = .ok (.iaload, 1) := by decide +kernel
theorem dX7_feud_43 : decode cX7_feud 43 = .ok (.if_icmp .ge 41, 3) := by decide +kernel
theorem dX7_feud_46 : decode cX7_feud 46 = .ok (.iload_n 2, 1) := by decide +kernel
theorem dX7_feud_47 : decode cX7_feud 47 = .ok (.aload_n 0, 1) := by decide +kernel
theorem dX7_feud_48 : decode cX7_feud 48 = .ok (.aload_n 0, 1) := by decide +kernel
theorem dX7_feud_49 : decode cX7_feud 49 = .ok (.getfield 26, 3) := by decide +kernel
theorem dX7_feud_52 : decode cX7_feud 52 = .ok (.iload 4, 2) := by decide +kernel
theorem dX7_feud_54 : decode cX7_feud 54 = .ok (.invokevirtual 289, 3) := by decide +kernel
theorem dX7_feud_57 : decode cX7_feud 57 = .ok (.iload_n 2, 1) := by decide +kernel
theorem dX7_feud_58 : decode cX7_feud 58 = .ok (.iand, 1) := by decide +kernel
theorem dX7_feud_59 : decode cX7_feud 59 = .ok (.ifCond .eq 16, 3) := by decide +kernel
theorem dX7_feud_62 : decode cX7_feud 62 = .ok (.aload_n 0, 1) := by decide +kernel
theorem dX7_feud_63 : decode cX7_feud 63 = .ok (.aload_n 0, 1) := by decide +kernel
theorem dX7_feud_64 : decode cX7_feud 64 = .ok (.getfield 26, 3) := by decide +kernel
theorem dX7_feud_67 : decode cX7_feud 67 = .ok (.iload 4, 2) := by decide +kernel
theorem dX7_feud_69 : decode cX7_feud 69 = .ok (.invokevirtual 289, 3) := by decide +kernel
theorem dX7_feud_72 : decode cX7_feud 72 = .ok (.goto 4, 3) := by decide +kernel
theorem dX7_feud_75 : decode cX7_feud 75 = .ok (.iconst 0, 1) := by decide +kernel
theorem dX7_feud_76 : decode cX7_feud 76 = .ok (.ior, 1) := by decide +kernel
theorem dX7_feud_77 : decode cX7_feud 77 = .ok (.istore_n 2, 1) := by decide +kernel
theorem dX7_feud_78 : decode cX7_feud 78 = .ok (.iinc 4 1, 3) := by decide +kernel
theorem dX7_feud_81 : decode cX7_feud 81 = .ok (.goto (-47), 3) := by decide +kernel
theorem dX7_feud_84 : decode cX7_feud 84 = .ok (.goto (-60), 3) := by decide +kernel
theorem dX7_feud_87 : decode cX7_feud 87 = .ok (.iload_n 2, 1) := by decide +kernel
theorem dX7_feud_88 : decode cX7_feud 88 = .ok (.ireturn, 1) := by decide +kernel
def f_X7_feud_l34 : am_F := am_th (i_il 4) (am_th (i_al 0) (am_th (i_gr 7 15) (am_th (i_ic (7)) (am_th (i_ia 0) (am_br (b_2 (fun x y => decide (y ≤ x))) (am_to 24) (am_th (i_il 2) (am_th (i_al 0) (am_th (i_al 0) (am_th (i_gr 7 17) (am_th (i_il 4) (am_th (i_cv 7 2 d_X7_partiesIn) (am_th (i_il 2) (am_th (i_2 (fun x y => x &&& y)) (am_sq 76 (am_br (b_1 (fun x => decide (x = 0))) (am_th (i_ic (0)) (am_to 76)) (am_th (i_al 0) (am_th (i_al 0) (am_th (i_gr 7 17) (am_th (i_il 4) (am_th (i_cv 7 2 d_X7_partiesIn) (am_to 76))))))) (am_th (i_2 (fun x y => x ||| y)) (am_th (i_is 2) (am_th (i_inc 4 (1)) (am_to 34))))))))))))))))))
def f_X7_feud_l24 : am_F := am_th (i_il 3) (am_th (i_il 2) (am_br (b_2 (fun x y => decide (x = y))) (am_to 87) (am_th (i_il 2) (am_th (i_is 3) (am_th (i_ic (0)) (am_th (i_is 4) (am_lp 5000 34 f_X7_feud_l34)))))))
def f_X7_feud : am_F := am_th (i_al 0) (am_th (i_cv 7 0 d_X7_good) (am_th (i_al 0) (am_th (i_il 1) (am_th (i_cv 7 1 d_X7_isFamily) (am_br (b_1 (fun x => decide (¬ x = 0))) (am_th (i_ic (1)) (am_th (i_il 1) (am_th (i_2 (fun x y => x <<< (y &&& 31))) (am_th (i_is 2) (am_th (i_ic (0)) (am_th (i_is 3) (am_sq 87 (am_lp 5000 24 f_X7_feud_l24) (am_th (i_il 2) (r_i))))))))) (am_th (i_al 0) (am_th (i_ic (1)) (am_th (i_cv 7 1 d_X7_no) (r_i)))))))))
def d_X7_feud : am_D := am_den 5 f_X7_feud
set_option maxHeartbeats 4000000 in
set_option maxRecDepth 100000 in
theorem b_X7_feud : am_Body yX7_feud cX7_feud 5 (some .int) 3 66 f_X7_feud := by
  intro p l e R s m args below meth c g n0 z0 r0 u0 C hr hn
  have C : am_Cx p l e R s m args below meth c g RX7 cX7_feud 5 n0 z0 (am_len u0) (am_wt u0) 3 66 := C
  have l34 : am_Snd (am_GM p l e R s m args below meth c g 5 n0 z0 r0 u0) (am_Rt r0 u0) 34 (f_X7_feud_l34) := by
    unfold f_X7_feud_l34
    exact (so_th (so_iload C dX7_feud_34) (so_th (so_aload_n C dX7_feud_36 rfl) (so_th (so_getr C fl_RX7_20 dX7_feud_37) (so_th (so_bipush C dX7_feud_40 (by decide)) (so_th (so_iald C dX7_feud_42) (so_br (so_icmp_ge C dX7_feud_43 (by decide)) (so_goto C dX7_feud_84 (by decide) (so_to)) (so_th (so_iload_n C dX7_feud_46 rfl) (so_th (so_aload_n C dX7_feud_47 rfl) (so_th (so_aload_n C dX7_feud_48 rfl) (so_th (so_getr C fl_RX7_26 dX7_feud_49) (so_th (so_iload C dX7_feud_52) (so_th (so_cv C m_X7_partiesIn rfl k_623 k_625 k_624 k_626 k_475 ⟨by decide, by decide, by decide +kernel⟩ (by decide) dX7_feud_54) (so_th (so_iload_n C dX7_feud_57 rfl) (so_th (so_iand C dX7_feud_58) (so_sq (so_br (so_if_eq C dX7_feud_59 (by decide)) (so_th (so_iconst C dX7_feud_75 (by decide)) (so_to)) (so_th (so_aload_n C dX7_feud_62 rfl) (so_th (so_aload_n C dX7_feud_63 rfl) (so_th (so_getr C fl_RX7_26 dX7_feud_64) (so_th (so_iload C dX7_feud_67) (so_th (so_cv C m_X7_partiesIn rfl k_623 k_625 k_624 k_626 k_475 ⟨by decide, by decide, by decide +kernel⟩ (by decide) dX7_feud_69) (so_goto C dX7_feud_72 (by decide) (so_to)))))))) (so_th (so_ior C dX7_feud_76) (so_th (so_istore_n C dX7_feud_77 rfl (by decide)) (so_th (so_iinc C dX7_feud_78 (by decide) (by decide)) (so_goto C dX7_feud_81 (by decide) (so_to))))))))))))))))))))
  have l24 : am_Snd (am_GM p l e R s m args below meth c g 5 n0 z0 r0 u0) (am_Rt r0 u0) 24 (f_X7_feud_l24) := by
    unfold f_X7_feud_l24
    exact (so_th (so_iload_n C dX7_feud_24 rfl) (so_th (so_iload_n C dX7_feud_25 rfl) (so_br (so_icmp_eq C dX7_feud_26 (by decide)) (so_to) (so_th (so_iload_n C dX7_feud_29 rfl) (so_th (so_istore_n C dX7_feud_30 rfl (by decide)) (so_th (so_iconst C dX7_feud_31 (by decide)) (so_th (so_istore C dX7_feud_32 (by decide)) (so_lp l34 5000))))))))
  unfold f_X7_feud
  exact (so_th (so_aload_n C dX7_feud_0 rfl) (so_th (so_cv C m_X7_good rfl k_594 k_596 k_595 k_597 k_475 ⟨by decide, by decide, by decide +kernel⟩ (by decide) dX7_feud_1) (so_th (so_aload_n C dX7_feud_4 rfl) (so_th (so_iload_n C dX7_feud_5 rfl) (so_th (so_cv C m_X7_isFamily rfl k_662 k_664 k_663 k_665 k_475 ⟨by decide, by decide, by decide +kernel⟩ (by decide) dX7_feud_6) (so_br (so_if_ne C dX7_feud_9 (by decide)) (so_th (so_iconst C dX7_feud_18 (by decide)) (so_th (so_iload_n C dX7_feud_19 rfl) (so_th (so_ishl C dX7_feud_20) (so_th (so_istore_n C dX7_feud_21 rfl (by decide)) (so_th (so_iconst C dX7_feud_22 (by decide)) (so_th (so_istore_n C dX7_feud_23 rfl (by decide)) (so_sq (so_lp l24 5000) (so_th (so_iload_n C dX7_feud_87 rfl) (so_ri C hr dX7_feud_88))))))))) (so_th (so_aload_n C dX7_feud_12 rfl) (so_th (so_iconst C dX7_feud_13 (by decide)) (so_th (so_cv C m_X7_no rfl k_609 k_611 k_610 k_612 k_475 ⟨by decide, by decide, by decide +kernel⟩ (by decide) dX7_feud_14) (so_ri C hr dX7_feud_17))))))))))
theorem m_X7_feud : am_M yX7_feud cX7_feud 5 (some .int) 3 66 d_X7_feud := am_M_of (by decide +kernel) b_X7_feud
theorem dX7_peace_0 : decode cX7_peace 0 = .ok (.aload_n 0, 1) := by decide +kernel
theorem dX7_peace_1 : decode cX7_peace 1 = .ok (.invokevirtual 189, 3) := by decide +kernel
theorem dX7_peace_4 : decode cX7_peace 4 = .ok (.aload_n 0, 1) := by decide +kernel
theorem dX7_peace_5 : decode cX7_peace 5 = .ok (.getfield 206, 3) := by decide +kernel
theorem dX7_peace_8 : decode cX7_peace 8 = .ok (.ifCond .eq 14, 3) := by decide +kernel
theorem dX7_peace_11 : decode cX7_peace 11 = .ok (.aload_n 0, 1) := by decide +kernel
theorem dX7_peace_12 : decode cX7_peace 12 = .ok (.aload_n 0, 1) := by decide +kernel
theorem dX7_peace_13 : decode cX7_peace 13 = .ok (.getfield 26, 3) := by decide +kernel
theorem dX7_peace_16 : decode cX7_peace 16 = .ok (.invokevirtual 319, 3) := by decide +kernel
theorem dX7_peace_19 : decode cX7_peace 19 = .ok (.goto 8, 3) := by decide +kernel
theorem dX7_peace_22 : decode cX7_peace 22 = .ok (.aload_n 0, 1) := by decide +kernel
theorem dX7_peace_23 : decode cX7_peace 23 = .ok (.iconst 1, 1) := by decide +kernel
theorem dX7_peace_24 : decode cX7_peace 24 = .ok (.invokevirtual 192, 3) := by decide +kernel
theorem dX7_peace_27 : decode cX7_peace 27 = .ok (.ireturn, 1) := by decide +kernel
def f_X7_peace : am_F := am_th (i_al 0) (am_th (i_cv 7 0 d_X7_good) (am_th (i_al 0) (am_th (i_gi 7 14) (am_br (b_1 (fun x => decide (x = 0))) (am_th (i_al 0) (am_th (i_ic (1)) (am_th (i_cv 7 1 d_X7_no) (r_i)))) (am_th (i_al 0) (am_th (i_al 0) (am_th (i_gr 7 17) (am_th (i_cv 7 1 d_X7_peaceIn) (r_i)))))))))
def d_X7_peace : am_D := am_den 1 f_X7_peace
set_option maxHeartbeats 4000000 in
set_option maxRecDepth 100000 in
theorem b_X7_peace : am_Body yX7_peace cX7_peace 1 (some .int) 4 89 f_X7_peace := by
  intro p l e R s m args below meth c g n0 z0 r0 u0 C hr hn
  have C : am_Cx p l e R s m args below meth c g RX7 cX7_peace 1 n0 z0 (am_len u0) (am_wt u0) 4 89 := C
  unfold f_X7_peace
  exact (so_th (so_aload_n C dX7_peace_0 rfl) (so_th (so_cv C m_X7_good rfl k_594 k_596 k_595 k_597 k_475 ⟨by decide, by decide, by decide +kernel⟩ (by decide) dX7_peace_1) (so_th (so_aload_n C dX7_peace_4 rfl) (so_th (so_geti C fl_RX7_206 (by decide) dX7_peace_5) (so_br (so_if_eq C dX7_peace_8 (by decide)) (so_th (so_aload_n C dX7_peace_22 rfl) (so_th (so_iconst C dX7_peace_23 (by decide)) (so_th (so_cv C m_X7_no rfl k_609 k_611 k_610 k_612 k_475 ⟨by decide, by decide, by decide +kernel⟩ (by decide) dX7_peace_24) (so_ri C hr dX7_peace_27)))) (so_th (so_aload_n C dX7_peace_11 rfl) (so_th (so_aload_n C dX7_peace_12 rfl) (so_th (so_getr C fl_RX7_26 dX7_peace_13) (so_th (so_cv C m_X7_peaceIn rfl k_654 k_656 k_655 k_657 k_475 ⟨by decide, by decide, by decide +kernel⟩ (by decide) dX7_peace_16) (so_goto C dX7_peace_19 (by decide) (so_ri C hr dX7_peace_27)))))))))))
theorem m_X7_peace : am_M yX7_peace cX7_peace 1 (some .int) 4 89 d_X7_peace := am_M_of (by decide +kernel) b_X7_peace
theorem dX7_standIn_0 : decode cX7_standIn 0 = .ok (.iconst 0, 1) := by decide +kernel
theorem dX7_standIn_1 : decode cX7_standIn 1 = .ok (.istore_n 2, 1) := by decide +kernel
theorem dX7_standIn_2 : decode cX7_standIn 2 = .ok (.iconst 0, 1) := by decide +kernel
theorem dX7_standIn_3 : decode cX7_standIn 3 = .ok (.istore_n 3, 1) := by decide +kernel
theorem dX7_standIn_4 : decode cX7_standIn 4 = .ok (.iload_n 3, 1) := by decide +kernel
theorem dX7_standIn_5 : decode cX7_standIn 5 = .ok (.aload_n 0, 1) := by decide +kernel
theorem dX7_standIn_6 : decode cX7_standIn 6 = .ok (.getfield 20, 3) := by decide +kernel
theorem dX7_standIn_9 : decode cX7_standIn 9 = .ok (.bipush 7, 2) := by decide +kernel
theorem dX7_standIn_11 : decode cX7_standIn 11 = .ok (.iaload, 1) := by decide +kernel
theorem dX7_standIn_12 : decode cX7_standIn 12 = .ok (.if_icmp .ge 25, 3) := by decide +kernel
theorem dX7_standIn_15 : decode cX7_standIn 15 = .ok (.iload_n 2, 1) := by decide +kernel
theorem dX7_standIn_16 : decode cX7_standIn 16 = .ok (.aload_n 1, 1) := by decide +kernel
theorem dX7_standIn_17 : decode cX7_standIn 17 = .ok (.iload_n 3, 1) := by decide +kernel
theorem dX7_standIn_18 : decode cX7_standIn 18 = .ok (.invokestatic 278, 3) := by decide +kernel
theorem dX7_standIn_21 : decode cX7_standIn 21 = .ok (.ifCond .eq 7, 3) := by decide +kernel
theorem dX7_standIn_24 : decode cX7_standIn 24 = .ok (.iconst 1, 1) := by decide +kernel
theorem dX7_standIn_25 : decode cX7_standIn 25 = .ok (.goto 4, 3) := by decide +kernel
theorem dX7_standIn_28 : decode cX7_standIn 28 = .ok (.iconst 0, 1) := by decide +kernel
theorem dX7_standIn_29 : decode cX7_standIn 29 = .ok (.iadd, 1) := by decide +kernel
theorem dX7_standIn_30 : decode cX7_standIn 30 = .ok (.istore_n 2, 1) := by decide +kernel
theorem dX7_standIn_31 : decode cX7_standIn 31 = .ok (.iinc 3 1, 3) := by decide +kernel
theorem dX7_standIn_34 : decode cX7_standIn 34 = .ok (.goto (-30), 3) := by decide +kernel
theorem dX7_standIn_37 : decode cX7_standIn 37 = .ok (.iload_n 2, 1) := by decide +kernel
theorem dX7_standIn_38 : decode cX7_standIn 38 = .ok (.ireturn, 1) := by decide +kernel
def f_X7_standIn_l4 : am_F := am_th (i_il 3) (am_th (i_al 0) (am_th (i_gr 7 15) (am_th (i_ic (7)) (am_th (i_ia 0) (am_br (b_2 (fun x y => decide (y ≤ x))) (am_to 37) (am_th (i_il 2) (am_th (i_al 1) (am_th (i_il 3) (am_th (i_cs 2 d_X7_stands) (am_sq 29 (am_br (b_1 (fun x => decide (x = 0))) (am_th (i_ic (0)) (am_to 29)) (am_th (i_ic (1)) (am_to 29))) (am_th (i_2 (fun x y => x + y)) (am_th (i_is 2) (am_th (i_inc 3 (1)) (am_to 4))))))))))))))
def f_X7_standIn : am_F := am_th (i_ic (0)) (am_th (i_is 2) (am_th (i_ic (0)) (am_th (i_is 3) (am_sq 37 (am_lp 5000 4 f_X7_standIn_l4) (am_th (i_il 2) (r_i))))))
def d_X7_standIn : am_D := am_den 4 f_X7_standIn
set_option maxHeartbeats 4000000 in
set_option maxRecDepth 100000 in
theorem b_X7_standIn : am_Body yX7_standIn cX7_standIn 4 (some .int) 1 21 f_X7_standIn := by
  intro p l e R s m args below meth c g n0 z0 r0 u0 C hr hn
  have C : am_Cx p l e R s m args below meth c g RX7 cX7_standIn 4 n0 z0 (am_len u0) (am_wt u0) 1 21 := C
  have l4 : am_Snd (am_GM p l e R s m args below meth c g 4 n0 z0 r0 u0) (am_Rt r0 u0) 4 (f_X7_standIn_l4) := by
    unfold f_X7_standIn_l4
    exact (so_th (so_iload_n C dX7_standIn_4 rfl) (so_th (so_aload_n C dX7_standIn_5 rfl) (so_th (so_getr C fl_RX7_20 dX7_standIn_6) (so_th (so_bipush C dX7_standIn_9 (by decide)) (so_th (so_iald C dX7_standIn_11) (so_br (so_icmp_ge C dX7_standIn_12 (by decide)) (so_to) (so_th (so_iload_n C dX7_standIn_15 rfl) (so_th (so_aload_n C dX7_standIn_16 rfl) (so_th (so_iload_n C dX7_standIn_17 rfl) (so_th (so_cs C m_X7_stands k_613 k_615 k_614 k_475 ⟨by decide, by decide, by decide +kernel⟩ (by decide) dX7_standIn_18) (so_sq (so_br (so_if_eq C dX7_standIn_21 (by decide)) (so_th (so_iconst C dX7_standIn_28 (by decide)) (so_to)) (so_th (so_iconst C dX7_standIn_24 (by decide)) (so_goto C dX7_standIn_25 (by decide) (so_to)))) (so_th (so_iadd C dX7_standIn_29) (so_th (so_istore_n C dX7_standIn_30 rfl (by decide)) (so_th (so_iinc C dX7_standIn_31 (by decide) (by decide)) (so_goto C dX7_standIn_34 (by decide) (so_to))))))))))))))))
  unfold f_X7_standIn
  exact (so_th (so_iconst C dX7_standIn_0 (by decide)) (so_th (so_istore_n C dX7_standIn_1 rfl (by decide)) (so_th (so_iconst C dX7_standIn_2 (by decide)) (so_th (so_istore_n C dX7_standIn_3 rfl (by decide)) (so_sq (so_lp l4 5000) (so_th (so_iload_n C dX7_standIn_37 rfl) (so_ri C hr dX7_standIn_38)))))))
theorem m_X7_standIn : am_M yX7_standIn cX7_standIn 4 (some .int) 1 21 d_X7_standIn := am_M_of (by decide +kernel) b_X7_standIn
theorem dX7_stand_0 : decode cX7_stand 0 = .ok (.aload_n 0, 1) := by decide +kernel
theorem dX7_stand_1 : decode cX7_stand 1 = .ok (.invokevirtual 189, 3) := by decide +kernel
theorem dX7_stand_4 : decode cX7_stand 4 = .ok (.aload_n 0, 1) := by decide +kernel
theorem dX7_stand_5 : decode cX7_stand 5 = .ok (.getfield 206, 3) := by decide +kernel
theorem dX7_stand_8 : decode cX7_stand 8 = .ok (.ifCond .eq 14, 3) := by decide +kernel
theorem dX7_stand_11 : decode cX7_stand 11 = .ok (.aload_n 0, 1) := by decide +kernel
theorem dX7_stand_12 : decode cX7_stand 12 = .ok (.aload_n 0, 1) := by decide +kernel
theorem dX7_stand_13 : decode cX7_stand 13 = .ok (.getfield 26, 3) := by decide +kernel
theorem dX7_stand_16 : decode cX7_stand 16 = .ok (.invokevirtual 331, 3) := by decide +kernel
theorem dX7_stand_19 : decode cX7_stand 19 = .ok (.goto 8, 3) := by decide +kernel
theorem dX7_stand_22 : decode cX7_stand 22 = .ok (.aload_n 0, 1) := by decide +kernel
theorem dX7_stand_23 : decode cX7_stand 23 = .ok (.iconst 1, 1) := by decide +kernel
theorem dX7_stand_24 : decode cX7_stand 24 = .ok (.invokevirtual 192, 3) := by decide +kernel
theorem dX7_stand_27 : decode cX7_stand 27 = .ok (.ireturn, 1) := by decide +kernel
def f_X7_stand : am_F := am_th (i_al 0) (am_th (i_cv 7 0 d_X7_good) (am_th (i_al 0) (am_th (i_gi 7 14) (am_br (b_1 (fun x => decide (x = 0))) (am_th (i_al 0) (am_th (i_ic (1)) (am_th (i_cv 7 1 d_X7_no) (r_i)))) (am_th (i_al 0) (am_th (i_al 0) (am_th (i_gr 7 17) (am_th (i_cv 7 1 d_X7_standIn) (r_i)))))))))
def d_X7_stand : am_D := am_den 1 f_X7_stand
set_option maxHeartbeats 4000000 in
set_option maxRecDepth 100000 in
theorem b_X7_stand : am_Body yX7_stand cX7_stand 1 (some .int) 2 44 f_X7_stand := by
  intro p l e R s m args below meth c g n0 z0 r0 u0 C hr hn
  have C : am_Cx p l e R s m args below meth c g RX7 cX7_stand 1 n0 z0 (am_len u0) (am_wt u0) 2 44 := C
  unfold f_X7_stand
  exact (so_th (so_aload_n C dX7_stand_0 rfl) (so_th (so_cv C m_X7_good rfl k_594 k_596 k_595 k_597 k_475 ⟨by decide, by decide, by decide +kernel⟩ (by decide) dX7_stand_1) (so_th (so_aload_n C dX7_stand_4 rfl) (so_th (so_geti C fl_RX7_206 (by decide) dX7_stand_5) (so_br (so_if_eq C dX7_stand_8 (by decide)) (so_th (so_aload_n C dX7_stand_22 rfl) (so_th (so_iconst C dX7_stand_23 (by decide)) (so_th (so_cv C m_X7_no rfl k_609 k_611 k_610 k_612 k_475 ⟨by decide, by decide, by decide +kernel⟩ (by decide) dX7_stand_24) (so_ri C hr dX7_stand_27)))) (so_th (so_aload_n C dX7_stand_11 rfl) (so_th (so_aload_n C dX7_stand_12 rfl) (so_th (so_getr C fl_RX7_26 dX7_stand_13) (so_th (so_cv C m_X7_standIn rfl k_670 k_672 k_671 k_673 k_475 ⟨by decide, by decide, by decide +kernel⟩ (by decide) dX7_stand_16) (so_goto C dX7_stand_19 (by decide) (so_ri C hr dX7_stand_27)))))))))))
theorem m_X7_stand : am_M yX7_stand cX7_stand 1 (some .int) 2 44 d_X7_stand := am_M_of (by decide +kernel) b_X7_stand
theorem dX7_why_0 : decode cX7_why 0 = .ok (.iload_n 1, 1) := by decide +kernel
theorem dX7_why_1 : decode cX7_why 1 = .ok (.ifCond .ne 5, 3) := by decide +kernel
theorem dX7_why_4 : decode cX7_why 4 = .ok (.iconst 1, 1) := by decide +kernel
theorem dX7_why_5 : decode cX7_why 5 = .ok (.ireturn, 1) := by decide +kernel
theorem dX7_why_6 : decode cX7_why 6 = .ok (.iload_n 2, 1) := by decide +kernel
theorem dX7_why_7 : decode cX7_why 7 = .ok (.iconst 0, 1) := by decide +kernel
theorem dX7_why_8 : decode cX7_why 8 = .ok (.bipush 24, 2) := by decide +kernel
theorem dX7_why_10 : decode cX7_why 10 = .ok (.invokestatic 157, 3) := by decide +kernel
theorem dX7_why_13 : decode cX7_why 13 = .ok (.ifCond .ne 5, 3) := by decide +kernel
theorem dX7_why_16 : decode cX7_why 16 = .ok (.iconst 2, 1) := by decide +kernel
theorem dX7_why_17 : decode cX7_why 17 = .ok (.ireturn, 1) := by decide +kernel
theorem dX7_why_18 : decode cX7_why 18 = .ok (.aload_n 0, 1) := by decide +kernel
theorem dX7_why_19 : decode cX7_why 19 = .ok (.iload_n 2, 1) := by decide +kernel
theorem dX7_why_20 : decode cX7_why 20 = .ok (.invokevirtual 334, 3) := by decide +kernel
theorem dX7_why_23 : decode cX7_why 23 = .ok (.iconst 0, 1) := by decide +kernel
theorem dX7_why_24 : decode cX7_why 24 = .ok (.ireturn, 1) := by decide +kernel
def f_X7_why : am_F := am_th (i_il 1) (am_br (b_1 (fun x => decide (¬ x = 0))) (am_th (i_il 2) (am_th (i_ic (0)) (am_th (i_ic (24)) (am_th (i_cs 3 d_X7_in) (am_br (b_1 (fun x => decide (¬ x = 0))) (am_th (i_al 0) (am_th (i_il 2) (am_th (i_cv 7 1 d_X7_layBehind) (am_th (i_ic (0)) (r_i))))) (am_th (i_ic (2)) (r_i))))))) (am_th (i_ic (1)) (r_i)))
def d_X7_why : am_D := am_den 3 f_X7_why
set_option maxHeartbeats 4000000 in
set_option maxRecDepth 100000 in
theorem b_X7_why : am_Body yX7_why cX7_why 3 (some .int) 7 158 f_X7_why := by
  intro p l e R s m args below meth c g n0 z0 r0 u0 C hr hn
  have C : am_Cx p l e R s m args below meth c g RX7 cX7_why 3 n0 z0 (am_len u0) (am_wt u0) 7 158 := C
  unfold f_X7_why
  exact (so_th (so_iload_n C dX7_why_0 rfl) (so_br (so_if_ne C dX7_why_1 (by decide)) (so_th (so_iload_n C dX7_why_6 rfl) (so_th (so_iconst C dX7_why_7 (by decide)) (so_th (so_bipush C dX7_why_8 (by decide)) (so_th (so_cs C m_X7_in k_511 k_513 k_512 k_475 ⟨by decide, by decide, by decide +kernel⟩ (by decide) dX7_why_10) (so_br (so_if_ne C dX7_why_13 (by decide)) (so_th (so_aload_n C dX7_why_18 rfl) (so_th (so_iload_n C dX7_why_19 rfl) (so_th (so_cv C m_X7_layBehind rfl k_674 k_676 k_675 k_677 k_475 ⟨by decide, by decide, by decide +kernel⟩ (by decide) dX7_why_20) (so_th (so_iconst C dX7_why_23 (by decide)) (so_ri C hr dX7_why_24))))) (so_th (so_iconst C dX7_why_16 (by decide)) (so_ri C hr dX7_why_17))))))) (so_th (so_iconst C dX7_why_4 (by decide)) (so_ri C hr dX7_why_5))))
theorem m_X7_why : am_M yX7_why cX7_why 3 (some .int) 7 158 d_X7_why := am_M_of (by decide +kernel) b_X7_why
theorem dX7_vigour_0 : decode cX7_vigour 0 = .ok (.aload_n 0, 1) := by decide +kernel
theorem dX7_vigour_1 : decode cX7_vigour 1 = .ok (.invokevirtual 189, 3) := by decide +kernel
theorem dX7_vigour_4 : decode cX7_vigour 4 = .ok (.aload_n 0, 1) := by decide +kernel
theorem dX7_vigour_5 : decode cX7_vigour 5 = .ok (.aload_n 0, 1) := by decide +kernel
theorem dX7_vigour_6 : decode cX7_vigour 6 = .ok (.iload_n 1, 1) := by decide +kernel
theorem dX7_vigour_7 : decode cX7_vigour 7 = .ok (.invokevirtual 322, 3) := by decide +kernel
theorem dX7_vigour_10 : decode cX7_vigour 10 = .ok (.iload_n 2, 1) := by decide +kernel
theorem dX7_vigour_11 : decode cX7_vigour 11 = .ok (.invokevirtual 337, 3) := by decide +kernel
theorem dX7_vigour_14 : decode cX7_vigour 14 = .ok (.istore_n 3, 1) := by decide +kernel
theorem dX7_vigour_15 : decode cX7_vigour 15 = .ok (.iload_n 3, 1) := by decide +kernel
theorem dX7_vigour_16 : decode cX7_vigour 16 = .ok (.ifCond .eq 11, 3) := by decide +kernel
theorem dX7_vigour_19 : decode cX7_vigour 19 = .ok (.aload_n 0, 1) := by decide +kernel
theorem dX7_vigour_20 : decode cX7_vigour 20 = .ok (.iload_n 3, 1) := by decide +kernel
theorem dX7_vigour_21 : decode cX7_vigour 21 = .ok (.invokevirtual 192, 3) := by decide +kernel
theorem dX7_vigour_24 : decode cX7_vigour 24 = .ok (.goto 9, 3) := by decide +kernel
theorem dX7_vigour_27 : decode cX7_vigour 27 = .ok (.aload_n 0, 1) := by decide +kernel
theorem dX7_vigour_28 : decode cX7_vigour 28 = .ok (.getfield 38, 3) := by decide +kernel
theorem dX7_vigour_31 : decode cX7_vigour 31 = .ok (.iload_n 1, 1) := by decide +kernel
theorem dX7_vigour_32 : decode cX7_vigour 32 = .ok (.iaload, 1) := by decide +kernel
theorem dX7_vigour_33 : decode cX7_vigour 33 = .ok (.ireturn, 1) := by decide +kernel
def f_X7_vigour : am_F := am_th (i_al 0) (am_th (i_cv 7 0 d_X7_good) (am_th (i_al 0) (am_th (i_al 0) (am_th (i_il 1) (am_th (i_cv 7 1 d_X7_isQuarrel) (am_th (i_il 2) (am_th (i_cv 7 2 d_X7_why) (am_th (i_is 3) (am_th (i_il 3) (am_br (b_1 (fun x => decide (x = 0))) (am_th (i_al 0) (am_th (i_gr 7 23) (am_th (i_il 1) (am_th (i_ia 0) (r_i))))) (am_th (i_al 0) (am_th (i_il 3) (am_th (i_cv 7 1 d_X7_no) (r_i))))))))))))))
def d_X7_vigour : am_D := am_den 4 f_X7_vigour
set_option maxHeartbeats 4000000 in
set_option maxRecDepth 100000 in
theorem b_X7_vigour : am_Body yX7_vigour cX7_vigour 4 (some .int) 8 180 f_X7_vigour := by
  intro p l e R s m args below meth c g n0 z0 r0 u0 C hr hn
  have C : am_Cx p l e R s m args below meth c g RX7 cX7_vigour 4 n0 z0 (am_len u0) (am_wt u0) 8 180 := C
  unfold f_X7_vigour
  exact (so_th (so_aload_n C dX7_vigour_0 rfl) (so_th (so_cv C m_X7_good rfl k_594 k_596 k_595 k_597 k_475 ⟨by decide, by decide, by decide +kernel⟩ (by decide) dX7_vigour_1) (so_th (so_aload_n C dX7_vigour_4 rfl) (so_th (so_aload_n C dX7_vigour_5 rfl) (so_th (so_iload_n C dX7_vigour_6 rfl) (so_th (so_cv C m_X7_isQuarrel rfl k_658 k_660 k_659 k_661 k_475 ⟨by decide, by decide, by decide +kernel⟩ (by decide) dX7_vigour_7) (so_th (so_iload_n C dX7_vigour_10 rfl) (so_th (so_cv C m_X7_why rfl k_678 k_680 k_679 k_681 k_475 ⟨by decide, by decide, by decide +kernel⟩ (by decide) dX7_vigour_11) (so_th (so_istore_n C dX7_vigour_14 rfl (by decide)) (so_th (so_iload_n C dX7_vigour_15 rfl) (so_br (so_if_eq C dX7_vigour_16 (by decide)) (so_th (so_aload_n C dX7_vigour_27 rfl) (so_th (so_getr C fl_RX7_38 dX7_vigour_28) (so_th (so_iload_n C dX7_vigour_31 rfl) (so_th (so_iald C dX7_vigour_32) (so_ri C hr dX7_vigour_33))))) (so_th (so_aload_n C dX7_vigour_19 rfl) (so_th (so_iload_n C dX7_vigour_20 rfl) (so_th (so_cv C m_X7_no rfl k_609 k_611 k_610 k_612 k_475 ⟨by decide, by decide, by decide +kernel⟩ (by decide) dX7_vigour_21) (so_goto C dX7_vigour_24 (by decide) (so_ri C hr dX7_vigour_33))))))))))))))))
theorem m_X7_vigour : am_M yX7_vigour cX7_vigour 4 (some .int) 8 180 d_X7_vigour := am_M_of (by decide +kernel) b_X7_vigour
theorem dX7_fruits_0 : decode cX7_fruits 0 = .ok (.aload_n 0, 1) := by decide +kernel
theorem dX7_fruits_1 : decode cX7_fruits 1 = .ok (.invokevirtual 189, 3) := by decide +kernel
theorem dX7_fruits_4 : decode cX7_fruits 4 = .ok (.aload_n 0, 1) := by decide +kernel
theorem dX7_fruits_5 : decode cX7_fruits 5 = .ok (.aload_n 0, 1) := by decide +kernel
theorem dX7_fruits_6 : decode cX7_fruits 6 = .ok (.iload_n 1, 1) := by decide +kernel
theorem dX7_fruits_7 : decode cX7_fruits 7 = .ok (.invokevirtual 322, 3) := by decide +kernel
theorem dX7_fruits_10 : decode cX7_fruits 10 = .ok (.iload_n 2, 1) := by decide +kernel
theorem dX7_fruits_11 : decode cX7_fruits 11 = .ok (.invokevirtual 337, 3) := by decide +kernel
theorem dX7_fruits_14 : decode cX7_fruits 14 = .ok (.istore_n 3, 1) := by decide +kernel
theorem dX7_fruits_15 : decode cX7_fruits 15 = .ok (.iload_n 3, 1) := by decide +kernel
theorem dX7_fruits_16 : decode cX7_fruits 16 = .ok (.ifCond .eq 11, 3) := by decide +kernel
theorem dX7_fruits_19 : decode cX7_fruits 19 = .ok (.aload_n 0, 1) := by decide +kernel
theorem dX7_fruits_20 : decode cX7_fruits 20 = .ok (.iload_n 3, 1) := by decide +kernel
theorem dX7_fruits_21 : decode cX7_fruits 21 = .ok (.invokevirtual 192, 3) := by decide +kernel
theorem dX7_fruits_24 : decode cX7_fruits 24 = .ok (.goto 22, 3) := by decide +kernel
theorem dX7_fruits_27 : decode cX7_fruits 27 = .ok (.aload_n 0, 1) := by decide +kernel
theorem dX7_fruits_28 : decode cX7_fruits 28 = .ok (.getfield 38, 3) := by decide +kernel
theorem dX7_fruits_31 : decode cX7_fruits 31 = .ok (.bipush 12, 2) := by decide +kernel
theorem dX7_fruits_33 : decode cX7_fruits 33 = .ok (.iload_n 1, 1) := by decide +kernel
theorem dX7_fruits_34 : decode cX7_fruits 34 = .ok (.iadd, 1) := by decide +kernel
theorem dX7_fruits_35 : decode cX7_fruits 35 = .ok (.iaload, 1) := by decide +kernel
theorem dX7_fruits_36 : decode cX7_fruits 36 = .ok (.aload_n 0, 1) := by decide +kernel
theorem dX7_fruits_37 : decode cX7_fruits 37 = .ok (.getfield 26, 3) := by decide +kernel
theorem dX7_fruits_40 : decode cX7_fruits 40 = .ok (.bipush 12, 2) := by decide +kernel
theorem dX7_fruits_42 : decode cX7_fruits 42 = .ok (.iload_n 1, 1) := by decide +kernel
theorem dX7_fruits_43 : decode cX7_fruits 43 = .ok (.iadd, 1) := by decide +kernel
theorem dX7_fruits_44 : decode cX7_fruits 44 = .ok (.iaload, 1) := by decide +kernel
theorem dX7_fruits_45 : decode cX7_fruits 45 = .ok (.isub, 1) := by decide +kernel
theorem dX7_fruits_46 : decode cX7_fruits 46 = .ok (.ireturn, 1) := by decide +kernel
def f_X7_fruits : am_F := am_th (i_al 0) (am_th (i_cv 7 0 d_X7_good) (am_th (i_al 0) (am_th (i_al 0) (am_th (i_il 1) (am_th (i_cv 7 1 d_X7_isQuarrel) (am_th (i_il 2) (am_th (i_cv 7 2 d_X7_why) (am_th (i_is 3) (am_th (i_il 3) (am_br (b_1 (fun x => decide (x = 0))) (am_th (i_al 0) (am_th (i_gr 7 23) (am_th (i_ic (12)) (am_th (i_il 1) (am_th (i_2 (fun x y => x + y)) (am_th (i_ia 0) (am_th (i_al 0) (am_th (i_gr 7 17) (am_th (i_ic (12)) (am_th (i_il 1) (am_th (i_2 (fun x y => x + y)) (am_th (i_ia 0) (am_th (i_2 (fun x y => x - y)) (r_i)))))))))))))) (am_th (i_al 0) (am_th (i_il 3) (am_th (i_cv 7 1 d_X7_no) (r_i))))))))))))))
def d_X7_fruits : am_D := am_den 4 f_X7_fruits
set_option maxHeartbeats 4000000 in
set_option maxRecDepth 100000 in
theorem b_X7_fruits : am_Body yX7_fruits cX7_fruits 4 (some .int) 8 180 f_X7_fruits := by
  intro p l e R s m args below meth c g n0 z0 r0 u0 C hr hn
  have C : am_Cx p l e R s m args below meth c g RX7 cX7_fruits 4 n0 z0 (am_len u0) (am_wt u0) 8 180 := C
  unfold f_X7_fruits
  exact (so_th (so_aload_n C dX7_fruits_0 rfl) (so_th (so_cv C m_X7_good rfl k_594 k_596 k_595 k_597 k_475 ⟨by decide, by decide, by decide +kernel⟩ (by decide) dX7_fruits_1) (so_th (so_aload_n C dX7_fruits_4 rfl) (so_th (so_aload_n C dX7_fruits_5 rfl) (so_th (so_iload_n C dX7_fruits_6 rfl) (so_th (so_cv C m_X7_isQuarrel rfl k_658 k_660 k_659 k_661 k_475 ⟨by decide, by decide, by decide +kernel⟩ (by decide) dX7_fruits_7) (so_th (so_iload_n C dX7_fruits_10 rfl) (so_th (so_cv C m_X7_why rfl k_678 k_680 k_679 k_681 k_475 ⟨by decide, by decide, by decide +kernel⟩ (by decide) dX7_fruits_11) (so_th (so_istore_n C dX7_fruits_14 rfl (by decide)) (so_th (so_iload_n C dX7_fruits_15 rfl) (so_br (so_if_eq C dX7_fruits_16 (by decide)) (so_th (so_aload_n C dX7_fruits_27 rfl) (so_th (so_getr C fl_RX7_38 dX7_fruits_28) (so_th (so_bipush C dX7_fruits_31 (by decide)) (so_th (so_iload_n C dX7_fruits_33 rfl) (so_th (so_iadd C dX7_fruits_34) (so_th (so_iald C dX7_fruits_35) (so_th (so_aload_n C dX7_fruits_36 rfl) (so_th (so_getr C fl_RX7_26 dX7_fruits_37) (so_th (so_bipush C dX7_fruits_40 (by decide)) (so_th (so_iload_n C dX7_fruits_42 rfl) (so_th (so_iadd C dX7_fruits_43) (so_th (so_iald C dX7_fruits_44) (so_th (so_isub C dX7_fruits_45) (so_ri C hr dX7_fruits_46)))))))))))))) (so_th (so_aload_n C dX7_fruits_19 rfl) (so_th (so_iload_n C dX7_fruits_20 rfl) (so_th (so_cv C m_X7_no rfl k_609 k_611 k_610 k_612 k_475 ⟨by decide, by decide, by decide +kernel⟩ (by decide) dX7_fruits_21) (so_goto C dX7_fruits_24 (by decide) (so_ri C hr dX7_fruits_46))))))))))))))))
theorem m_X7_fruits : am_M yX7_fruits cX7_fruits 4 (some .int) 8 180 d_X7_fruits := am_M_of (by decide +kernel) b_X7_fruits
theorem dX7_first_0 : decode cX7_first 0 = .ok (.aload_n 0, 1) := by decide +kernel
theorem dX7_first_1 : decode cX7_first 1 = .ok (.invokevirtual 189, 3) := by decide +kernel
theorem dX7_first_4 : decode cX7_first 4 = .ok (.aload_n 0, 1) := by decide +kernel
theorem dX7_first_5 : decode cX7_first 5 = .ok (.iload_n 1, 1) := by decide +kernel
theorem dX7_first_6 : decode cX7_first 6 = .ok (.invokevirtual 322, 3) := by decide +kernel
theorem dX7_first_9 : decode cX7_first 9 = .ok (.ifCond .ne 9, 3) := by decide +kernel
theorem dX7_first_12 : decode cX7_first 12 = .ok (.aload_n 0, 1) := by decide +kernel
theorem dX7_first_13 : decode cX7_first 13 = .ok (.iconst 1, 1) := by decide +kernel
theorem dX7_first_14 : decode cX7_first 14 = .ok (.invokevirtual 192, 3) := by decide +kernel
theorem dX7_first_17 : decode cX7_first 17 = .ok (.ireturn, 1) := by decide +kernel
theorem dX7_first_18 : decode cX7_first 18 = .ok (.aload_n 0, 1) := by decide +kernel
theorem dX7_first_19 : decode cX7_first 19 = .ok (.getfield 26, 3) := by decide +kernel
theorem dX7_first_22 : decode cX7_first 22 = .ok (.iconst 0, 1) := by decide +kernel
theorem dX7_first_23 : decode cX7_first 23 = .ok (.aload_n 0, 1) := by decide +kernel
theorem dX7_first_24 : decode cX7_first 24 = .ok (.getfield 38, 3) := by decide +kernel
theorem dX7_first_27 : decode cX7_first 27 = .ok (.iconst 0, 1) := by decide +kernel
theorem dX7_first_28 : decode cX7_first 28 = .ok (.bipush 26, 2) := by decide +kernel
theorem dX7_first_30 : decode cX7_first 30 = .ok (.invokestatic 198, 3) := by decide +kernel
theorem dX7_first_33 : decode cX7_first 33 = .ok (.iconst 1, 1) := by decide +kernel
theorem dX7_first_34 : decode cX7_first 34 = .ok (.istore_n 2, 1) := by decide +kernel
theorem dX7_first_35 : decode cX7_first 35 = .ok (.iload_n 2, 1) := by decide +kernel
theorem dX7_first_36 : decode cX7_first 36 = .ok (.bipush 24, 2) := by decide +kernel
theorem dX7_first_38 : decode cX7_first 38 = .ok (.if_icmp .gt 26, 3) := by decide +kernel
theorem dX7_first_41 : decode cX7_first 41 = .ok (.aload_n 0, 1) := by decide +kernel
theorem dX7_first_42 : decode cX7_first 42 = .ok (.aload_n 0, 1) := by decide +kernel
theorem dX7_first_43 : decode cX7_first 43 = .ok (.getfield 38, 3) := by decide +kernel
theorem dX7_first_46 : decode cX7_first 46 = .ok (.invokevirtual 311, 3) := by decide +kernel
theorem dX7_first_49 : decode cX7_first 49 = .ok (.iload_n 1, 1) := by decide +kernel
theorem dX7_first_50 : decode cX7_first 50 = .ok (.invokestatic 295, 3) := by decide +kernel
theorem dX7_first_53 : decode cX7_first 53 = .ok (.ifCond .eq 5, 3) := by decide +kernel
theorem dX7_first_56 : decode cX7_first 56 = .ok (.iload_n 2, 1) := by decide +kernel
theorem dX7_first_57 : decode cX7_first 57 = .ok (.ireturn, 1) := by decide +kernel
theorem dX7_first_58 : decode cX7_first 58 = .ok (.iinc 2 1, 3) := by decide +kernel
theorem dX7_first_61 : decode cX7_first 61 = .ok (.goto (-26), 3) := by decide +kernel
theorem dX7_first_64 : decode cX7_first 64 = .ok (.bipush (-2), 2) := by decide +kernel
theorem dX7_first_66 : decode cX7_first 66 = .ok (.ireturn, 1) := by decide +kernel
def f_X7_first_l35 : am_F := am_th (i_il 2) (am_th (i_ic (24)) (am_br (b_2 (fun x y => decide (y < x))) (am_to 64) (am_th (i_al 0) (am_th (i_al 0) (am_th (i_gr 7 23) (am_th (i_cv 7 1 d_X7_seasonAsTold) (am_th (i_il 1) (am_th (i_cs 2 d_X7_hasBit) (am_br (b_1 (fun x => decide (x = 0))) (am_th (i_inc 2 (1)) (am_to 35)) (am_th (i_il 2) (r_i)))))))))))
def f_X7_first : am_F := am_th (i_al 0) (am_th (i_cv 7 0 d_X7_good) (am_th (i_al 0) (am_th (i_il 1) (am_th (i_cv 7 1 d_X7_isQuarrel) (am_br (b_1 (fun x => decide (¬ x = 0))) (am_th (i_al 0) (am_th (i_gr 7 17) (am_th (i_ic (0)) (am_th (i_al 0) (am_th (i_gr 7 23) (am_th (i_ic (0)) (am_th (i_ic (26)) (am_th (i_cs 5 d_X7_copy) (am_th (i_ic (1)) (am_th (i_is 2) (am_sq 64 (am_lp 5000 35 f_X7_first_l35) (am_th (i_ic (-2)) (r_i))))))))))))) (am_th (i_al 0) (am_th (i_ic (1)) (am_th (i_cv 7 1 d_X7_no) (r_i)))))))))
def d_X7_first : am_D := am_den 3 f_X7_first
set_option maxHeartbeats 4000000 in
set_option maxRecDepth 100000 in
theorem b_X7_first : am_Body yX7_first cX7_first 3 (some .int) 5 114 f_X7_first := by
  intro p l e R s m args below meth c g n0 z0 r0 u0 C hr hn
  have C : am_Cx p l e R s m args below meth c g RX7 cX7_first 3 n0 z0 (am_len u0) (am_wt u0) 5 114 := C
  have l35 : am_Snd (am_GM p l e R s m args below meth c g 3 n0 z0 r0 u0) (am_Rt r0 u0) 35 (f_X7_first_l35) := by
    unfold f_X7_first_l35
    exact (so_th (so_iload_n C dX7_first_35 rfl) (so_th (so_bipush C dX7_first_36 (by decide)) (so_br (so_icmp_gt C dX7_first_38 (by decide)) (so_to) (so_th (so_aload_n C dX7_first_41 rfl) (so_th (so_aload_n C dX7_first_42 rfl) (so_th (so_getr C fl_RX7_38 dX7_first_43) (so_th (so_cv C m_X7_seasonAsTold rfl k_646 k_648 k_647 k_649 k_475 ⟨by decide, by decide, by decide +kernel⟩ (by decide) dX7_first_46) (so_th (so_iload_n C dX7_first_49 rfl) (so_th (so_cs C m_X7_hasBit k_631 k_633 k_632 k_475 ⟨by decide, by decide, by decide +kernel⟩ (by decide) dX7_first_50) (so_br (so_if_eq C dX7_first_53 (by decide)) (so_th (so_iinc C dX7_first_58 (by decide) (by decide)) (so_goto C dX7_first_61 (by decide) (so_to))) (so_th (so_iload_n C dX7_first_56 rfl) (so_ri C hr dX7_first_57))))))))))))
  unfold f_X7_first
  exact (so_th (so_aload_n C dX7_first_0 rfl) (so_th (so_cv C m_X7_good rfl k_594 k_596 k_595 k_597 k_475 ⟨by decide, by decide, by decide +kernel⟩ (by decide) dX7_first_1) (so_th (so_aload_n C dX7_first_4 rfl) (so_th (so_iload_n C dX7_first_5 rfl) (so_th (so_cv C m_X7_isQuarrel rfl k_658 k_660 k_659 k_661 k_475 ⟨by decide, by decide, by decide +kernel⟩ (by decide) dX7_first_6) (so_br (so_if_ne C dX7_first_9 (by decide)) (so_th (so_aload_n C dX7_first_18 rfl) (so_th (so_getr C fl_RX7_26 dX7_first_19) (so_th (so_iconst C dX7_first_22 (by decide)) (so_th (so_aload_n C dX7_first_23 rfl) (so_th (so_getr C fl_RX7_38 dX7_first_24) (so_th (so_iconst C dX7_first_27 (by decide)) (so_th (so_bipush C dX7_first_28 (by decide)) (so_th (so_cs C m_X7_copy k_602 k_604 k_603 k_475 ⟨by decide, by decide, by decide +kernel⟩ (by decide) dX7_first_30) (so_th (so_iconst C dX7_first_33 (by decide)) (so_th (so_istore_n C dX7_first_34 rfl (by decide)) (so_sq (so_lp l35 5000) (so_th (so_bipush C dX7_first_64 (by decide)) (so_ri C hr dX7_first_66))))))))))))) (so_th (so_aload_n C dX7_first_12 rfl) (so_th (so_iconst C dX7_first_13 (by decide)) (so_th (so_cv C m_X7_no rfl k_609 k_611 k_610 k_612 k_475 ⟨by decide, by decide, by decide +kernel⟩ (by decide) dX7_first_14) (so_ri C hr dX7_first_17))))))))))
theorem m_X7_first : am_M yX7_first cX7_first 3 (some .int) 5 114 d_X7_first := am_M_of (by decide +kernel) b_X7_first
theorem dX7_fallen_0 : decode cX7_fallen 0 = .ok (.aload_n 0, 1) := by decide +kernel
theorem dX7_fallen_1 : decode cX7_fallen 1 = .ok (.invokevirtual 189, 3) := by decide +kernel
theorem dX7_fallen_4 : decode cX7_fallen 4 = .ok (.aload_n 0, 1) := by decide +kernel
theorem dX7_fallen_5 : decode cX7_fallen 5 = .ok (.aload_n 0, 1) := by decide +kernel
theorem dX7_fallen_6 : decode cX7_fallen 6 = .ok (.getfield 206, 3) := by decide +kernel
theorem dX7_fallen_9 : decode cX7_fallen 9 = .ok (.iload_n 1, 1) := by decide +kernel
theorem dX7_fallen_10 : decode cX7_fallen 10 = .ok (.invokevirtual 337, 3) := by decide +kernel
theorem dX7_fallen_13 : decode cX7_fallen 13 = .ok (.istore_n 2, 1) := by decide +kernel
theorem dX7_fallen_14 : decode cX7_fallen 14 = .ok (.iload_n 2, 1) := by decide +kernel
theorem dX7_fallen_15 : decode cX7_fallen 15 = .ok (.ifCond .eq 11, 3) := by decide +kernel
theorem dX7_fallen_18 : decode cX7_fallen 18 = .ok (.aload_n 0, 1) := by decide +kernel
theorem dX7_fallen_19 : decode cX7_fallen 19 = .ok (.iload_n 2, 1) := by decide +kernel
theorem dX7_fallen_20 : decode cX7_fallen 20 = .ok (.invokevirtual 192, 3) := by decide +kernel
theorem dX7_fallen_23 : decode cX7_fallen 23 = .ok (.goto 24, 3) := by decide +kernel
theorem dX7_fallen_26 : decode cX7_fallen 26 = .ok (.aload_n 0, 1) := by decide +kernel
theorem dX7_fallen_27 : decode cX7_fallen 27 = .ok (.aload_n 0, 1) := by decide +kernel
theorem dX7_fallen_28 : decode cX7_fallen 28 = .ok (.getfield 38, 3) := by decide +kernel
theorem dX7_fallen_31 : decode cX7_fallen 31 = .ok (.bipush 12, 2) := by decide +kernel
theorem dX7_fallen_33 : decode cX7_fallen 33 = .ok (.invokevirtual 341, 3) := by decide +kernel
theorem dX7_fallen_36 : decode cX7_fallen 36 = .ok (.aload_n 0, 1) := by decide +kernel
theorem dX7_fallen_37 : decode cX7_fallen 37 = .ok (.aload_n 0, 1) := by decide +kernel
theorem dX7_fallen_38 : decode cX7_fallen 38 = .ok (.getfield 26, 3) := by decide +kernel
theorem dX7_fallen_41 : decode cX7_fallen 41 = .ok (.bipush 12, 2) := by decide +kernel
theorem dX7_fallen_43 : decode cX7_fallen 43 = .ok (.invokevirtual 341, 3) := by decide +kernel
theorem dX7_fallen_46 : decode cX7_fallen 46 = .ok (.isub, 1) := by decide +kernel
theorem dX7_fallen_47 : decode cX7_fallen 47 = .ok (.ireturn, 1) := by decide +kernel
def f_X7_fallen : am_F := am_th (i_al 0) (am_th (i_cv 7 0 d_X7_good) (am_th (i_al 0) (am_th (i_al 0) (am_th (i_gi 7 14) (am_th (i_il 1) (am_th (i_cv 7 2 d_X7_why) (am_th (i_is 2) (am_th (i_il 2) (am_br (b_1 (fun x => decide (x = 0))) (am_th (i_al 0) (am_th (i_al 0) (am_th (i_gr 7 23) (am_th (i_ic (12)) (am_th (i_cv 7 2 d_X7_sumOf) (am_th (i_al 0) (am_th (i_al 0) (am_th (i_gr 7 17) (am_th (i_ic (12)) (am_th (i_cv 7 2 d_X7_sumOf) (am_th (i_2 (fun x y => x - y)) (r_i)))))))))))) (am_th (i_al 0) (am_th (i_il 2) (am_th (i_cv 7 1 d_X7_no) (r_i)))))))))))))
def d_X7_fallen : am_D := am_den 3 f_X7_fallen
set_option maxHeartbeats 4000000 in
set_option maxRecDepth 100000 in
theorem b_X7_fallen : am_Body yX7_fallen cX7_fallen 3 (some .int) 8 180 f_X7_fallen := by
  intro p l e R s m args below meth c g n0 z0 r0 u0 C hr hn
  have C : am_Cx p l e R s m args below meth c g RX7 cX7_fallen 3 n0 z0 (am_len u0) (am_wt u0) 8 180 := C
  unfold f_X7_fallen
  exact (so_th (so_aload_n C dX7_fallen_0 rfl) (so_th (so_cv C m_X7_good rfl k_594 k_596 k_595 k_597 k_475 ⟨by decide, by decide, by decide +kernel⟩ (by decide) dX7_fallen_1) (so_th (so_aload_n C dX7_fallen_4 rfl) (so_th (so_aload_n C dX7_fallen_5 rfl) (so_th (so_geti C fl_RX7_206 (by decide) dX7_fallen_6) (so_th (so_iload_n C dX7_fallen_9 rfl) (so_th (so_cv C m_X7_why rfl k_678 k_680 k_679 k_681 k_475 ⟨by decide, by decide, by decide +kernel⟩ (by decide) dX7_fallen_10) (so_th (so_istore_n C dX7_fallen_13 rfl (by decide)) (so_th (so_iload_n C dX7_fallen_14 rfl) (so_br (so_if_eq C dX7_fallen_15 (by decide)) (so_th (so_aload_n C dX7_fallen_26 rfl) (so_th (so_aload_n C dX7_fallen_27 rfl) (so_th (so_getr C fl_RX7_38 dX7_fallen_28) (so_th (so_bipush C dX7_fallen_31 (by decide)) (so_th (so_cv C m_X7_sumOf rfl k_682 k_684 k_683 k_685 k_475 ⟨by decide, by decide, by decide +kernel⟩ (by decide) dX7_fallen_33) (so_th (so_aload_n C dX7_fallen_36 rfl) (so_th (so_aload_n C dX7_fallen_37 rfl) (so_th (so_getr C fl_RX7_26 dX7_fallen_38) (so_th (so_bipush C dX7_fallen_41 (by decide)) (so_th (so_cv C m_X7_sumOf rfl k_682 k_684 k_683 k_685 k_475 ⟨by decide, by decide, by decide +kernel⟩ (by decide) dX7_fallen_43) (so_th (so_isub C dX7_fallen_46) (so_ri C hr dX7_fallen_47)))))))))))) (so_th (so_aload_n C dX7_fallen_18 rfl) (so_th (so_iload_n C dX7_fallen_19 rfl) (so_th (so_cv C m_X7_no rfl k_609 k_611 k_610 k_612 k_475 ⟨by decide, by decide, by decide +kernel⟩ (by decide) dX7_fallen_20) (so_goto C dX7_fallen_23 (by decide) (so_ri C hr dX7_fallen_47)))))))))))))))
theorem m_X7_fallen : am_M yX7_fallen cX7_fallen 3 (some .int) 8 180 d_X7_fallen := am_M_of (by decide +kernel) b_X7_fallen
theorem dX7_suckers_0 : decode cX7_suckers 0 = .ok (.aload_n 0, 1) := by decide +kernel
theorem dX7_suckers_1 : decode cX7_suckers 1 = .ok (.invokevirtual 189, 3) := by decide +kernel
theorem dX7_suckers_4 : decode cX7_suckers 4 = .ok (.aload_n 0, 1) := by decide +kernel
theorem dX7_suckers_5 : decode cX7_suckers 5 = .ok (.aload_n 0, 1) := by decide +kernel
theorem dX7_suckers_6 : decode cX7_suckers 6 = .ok (.getfield 206, 3) := by decide +kernel
theorem dX7_suckers_9 : decode cX7_suckers 9 = .ok (.iload_n 1, 1) := by decide +kernel
theorem dX7_suckers_10 : decode cX7_suckers 10 = .ok (.invokevirtual 337, 3) := by decide +kernel
theorem dX7_suckers_13 : decode cX7_suckers 13 = .ok (.istore_n 2, 1) := by decide +kernel
theorem dX7_suckers_14 : decode cX7_suckers 14 = .ok (.iload_n 2, 1) := by decide +kernel
theorem dX7_suckers_15 : decode cX7_suckers 15 = .ok (.ifCond .eq 11, 3) := by decide +kernel
theorem dX7_suckers_18 : decode cX7_suckers 18 = .ok (.aload_n 0, 1) := by decide +kernel
theorem dX7_suckers_19 : decode cX7_suckers 19 = .ok (.iload_n 2, 1) := by decide +kernel
theorem dX7_suckers_20 : decode cX7_suckers 20 = .ok (.invokevirtual 192, 3) := by decide +kernel
theorem dX7_suckers_23 : decode cX7_suckers 23 = .ok (.goto 24, 3) := by decide +kernel
theorem dX7_suckers_26 : decode cX7_suckers 26 = .ok (.aload_n 0, 1) := by decide +kernel
theorem dX7_suckers_27 : decode cX7_suckers 27 = .ok (.aload_n 0, 1) := by decide +kernel
theorem dX7_suckers_28 : decode cX7_suckers 28 = .ok (.getfield 38, 3) := by decide +kernel
theorem dX7_suckers_31 : decode cX7_suckers 31 = .ok (.bipush 18, 2) := by decide +kernel
theorem dX7_suckers_33 : decode cX7_suckers 33 = .ok (.invokevirtual 341, 3) := by decide +kernel
theorem dX7_suckers_36 : decode cX7_suckers 36 = .ok (.aload_n 0, 1) := by decide +kernel
theorem dX7_suckers_37 : decode cX7_suckers 37 = .ok (.aload_n 0, 1) := by decide +kernel
theorem dX7_suckers_38 : decode cX7_suckers 38 = .ok (.getfield 26, 3) := by decide +kernel
theorem dX7_suckers_41 : decode cX7_suckers 41 = .ok (.bipush 18, 2) := by decide +kernel
theorem dX7_suckers_43 : decode cX7_suckers 43 = .ok (.invokevirtual 341, 3) := by decide +kernel
theorem dX7_suckers_46 : decode cX7_suckers 46 = .ok (.isub, 1) := by decide +kernel
theorem dX7_suckers_47 : decode cX7_suckers 47 = .ok (.ireturn, 1) := by decide +kernel
def f_X7_suckers : am_F := am_th (i_al 0) (am_th (i_cv 7 0 d_X7_good) (am_th (i_al 0) (am_th (i_al 0) (am_th (i_gi 7 14) (am_th (i_il 1) (am_th (i_cv 7 2 d_X7_why) (am_th (i_is 2) (am_th (i_il 2) (am_br (b_1 (fun x => decide (x = 0))) (am_th (i_al 0) (am_th (i_al 0) (am_th (i_gr 7 23) (am_th (i_ic (18)) (am_th (i_cv 7 2 d_X7_sumOf) (am_th (i_al 0) (am_th (i_al 0) (am_th (i_gr 7 17) (am_th (i_ic (18)) (am_th (i_cv 7 2 d_X7_sumOf) (am_th (i_2 (fun x y => x - y)) (r_i)))))))))))) (am_th (i_al 0) (am_th (i_il 2) (am_th (i_cv 7 1 d_X7_no) (r_i)))))))))))))
def d_X7_suckers : am_D := am_den 3 f_X7_suckers
set_option maxHeartbeats 4000000 in
set_option maxRecDepth 100000 in
theorem b_X7_suckers : am_Body yX7_suckers cX7_suckers 3 (some .int) 8 180 f_X7_suckers := by
  intro p l e R s m args below meth c g n0 z0 r0 u0 C hr hn
  have C : am_Cx p l e R s m args below meth c g RX7 cX7_suckers 3 n0 z0 (am_len u0) (am_wt u0) 8 180 := C
  unfold f_X7_suckers
  exact (so_th (so_aload_n C dX7_suckers_0 rfl) (so_th (so_cv C m_X7_good rfl k_594 k_596 k_595 k_597 k_475 ⟨by decide, by decide, by decide +kernel⟩ (by decide) dX7_suckers_1) (so_th (so_aload_n C dX7_suckers_4 rfl) (so_th (so_aload_n C dX7_suckers_5 rfl) (so_th (so_geti C fl_RX7_206 (by decide) dX7_suckers_6) (so_th (so_iload_n C dX7_suckers_9 rfl) (so_th (so_cv C m_X7_why rfl k_678 k_680 k_679 k_681 k_475 ⟨by decide, by decide, by decide +kernel⟩ (by decide) dX7_suckers_10) (so_th (so_istore_n C dX7_suckers_13 rfl (by decide)) (so_th (so_iload_n C dX7_suckers_14 rfl) (so_br (so_if_eq C dX7_suckers_15 (by decide)) (so_th (so_aload_n C dX7_suckers_26 rfl) (so_th (so_aload_n C dX7_suckers_27 rfl) (so_th (so_getr C fl_RX7_38 dX7_suckers_28) (so_th (so_bipush C dX7_suckers_31 (by decide)) (so_th (so_cv C m_X7_sumOf rfl k_682 k_684 k_683 k_685 k_475 ⟨by decide, by decide, by decide +kernel⟩ (by decide) dX7_suckers_33) (so_th (so_aload_n C dX7_suckers_36 rfl) (so_th (so_aload_n C dX7_suckers_37 rfl) (so_th (so_getr C fl_RX7_26 dX7_suckers_38) (so_th (so_bipush C dX7_suckers_41 (by decide)) (so_th (so_cv C m_X7_sumOf rfl k_682 k_684 k_683 k_685 k_475 ⟨by decide, by decide, by decide +kernel⟩ (by decide) dX7_suckers_43) (so_th (so_isub C dX7_suckers_46) (so_ri C hr dX7_suckers_47)))))))))))) (so_th (so_aload_n C dX7_suckers_18 rfl) (so_th (so_iload_n C dX7_suckers_19 rfl) (so_th (so_cv C m_X7_no rfl k_609 k_611 k_610 k_612 k_475 ⟨by decide, by decide, by decide +kernel⟩ (by decide) dX7_suckers_20) (so_goto C dX7_suckers_23 (by decide) (so_ri C hr dX7_suckers_47)))))))))))))))
theorem m_X7_suckers : am_M yX7_suckers cX7_suckers 3 (some .int) 8 180 d_X7_suckers := am_M_of (by decide +kernel) b_X7_suckers
theorem dX7_quiet_0 : decode cX7_quiet 0 = .ok (.aload_n 0, 1) := by decide +kernel
theorem dX7_quiet_1 : decode cX7_quiet 1 = .ok (.invokevirtual 189, 3) := by decide +kernel
theorem dX7_quiet_4 : decode cX7_quiet 4 = .ok (.aload_n 0, 1) := by decide +kernel
theorem dX7_quiet_5 : decode cX7_quiet 5 = .ok (.getfield 206, 3) := by decide +kernel
theorem dX7_quiet_8 : decode cX7_quiet 8 = .ok (.ifCond .ne 9, 3) := by decide +kernel
theorem dX7_quiet_11 : decode cX7_quiet 11 = .ok (.aload_n 0, 1) := by decide +kernel
theorem dX7_quiet_12 : decode cX7_quiet 12 = .ok (.iconst 1, 1) := by decide +kernel
theorem dX7_quiet_13 : decode cX7_quiet 13 = .ok (.invokevirtual 192, 3) := by decide +kernel
theorem dX7_quiet_16 : decode cX7_quiet 16 = .ok (.ireturn, 1) := by decide +kernel
theorem dX7_quiet_17 : decode cX7_quiet 17 = .ok (.iload_n 1, 1) := by decide +kernel
theorem dX7_quiet_18 : decode cX7_quiet 18 = .ok (.iconst 0, 1) := by decide +kernel
theorem dX7_quiet_19 : decode cX7_quiet 19 = .ok (.bipush 24, 2) := by decide +kernel
theorem dX7_quiet_21 : decode cX7_quiet 21 = .ok (.invokestatic 157, 3) := by decide +kernel
theorem dX7_quiet_24 : decode cX7_quiet 24 = .ok (.ifCond .ne 9, 3) := by decide +kernel
theorem dX7_quiet_27 : decode cX7_quiet 27 = .ok (.aload_n 0, 1) := by decide +kernel
theorem dX7_quiet_28 : decode cX7_quiet 28 = .ok (.iconst 2, 1) := by decide +kernel
theorem dX7_quiet_29 : decode cX7_quiet 29 = .ok (.invokevirtual 192, 3) := by decide +kernel
theorem dX7_quiet_32 : decode cX7_quiet 32 = .ok (.ireturn, 1) := by decide +kernel
theorem dX7_quiet_33 : decode cX7_quiet 33 = .ok (.aload_n 0, 1) := by decide +kernel
theorem dX7_quiet_34 : decode cX7_quiet 34 = .ok (.getfield 26, 3) := by decide +kernel
theorem dX7_quiet_37 : decode cX7_quiet 37 = .ok (.iconst 0, 1) := by decide +kernel
theorem dX7_quiet_38 : decode cX7_quiet 38 = .ok (.aload_n 0, 1) := by decide +kernel
theorem dX7_quiet_39 : decode cX7_quiet 39 = .ok (.getfield 38, 3) := by decide +kernel
theorem dX7_quiet_42 : decode cX7_quiet 42 = .ok (.iconst 0, 1) := by decide +kernel
theorem dX7_quiet_43 : decode cX7_quiet 43 = .ok (.bipush 26, 2) := by decide +kernel
theorem dX7_quiet_45 : decode cX7_quiet 45 = .ok (.invokestatic 198, 3) := by decide +kernel
theorem dX7_quiet_48 : decode cX7_quiet 48 = .ok (.iconst 0, 1) := by decide +kernel
theorem dX7_quiet_49 : decode cX7_quiet 49 = .ok (.istore_n 2, 1) := by decide +kernel
theorem dX7_quiet_50 : decode cX7_quiet 50 = .ok (.iconst 0, 1) := by decide +kernel
theorem dX7_quiet_51 : decode cX7_quiet 51 = .ok (.istore_n 3, 1) := by decide +kernel
theorem dX7_quiet_52 : decode cX7_quiet 52 = .ok (.iload_n 3, 1) := by decide +kernel
theorem dX7_quiet_53 : decode cX7_quiet 53 = .ok (.iload_n 1, 1) := by decide +kernel
theorem dX7_quiet_54 : decode cX7_quiet 54 = .ok (.if_icmp .ge 37, 3) := by decide +kernel
theorem dX7_quiet_57 : decode cX7_quiet 57 = .ok (.aload_n 0, 1) := by decide +kernel
theorem dX7_quiet_58 : decode cX7_quiet 58 = .ok (.aload_n 0, 1) := by decide +kernel
theorem dX7_quiet_59 : decode cX7_quiet 59 = .ok (.getfield 38, 3) := by decide +kernel
theorem dX7_quiet_62 : decode cX7_quiet 62 = .ok (.invokevirtual 311, 3) := by decide +kernel
theorem dX7_quiet_65 : decode cX7_quiet 65 = .ok (.pop, 1) := by decide +kernel
theorem dX7_quiet_66 : decode cX7_quiet 66 = .ok (.iload_n 2, 1) := by decide +kernel
theorem dX7_quiet_67 : decode cX7_quiet 67 = .ok (.aload_n 0, 1) := by decide +kernel
theorem dX7_quiet_68 : decode cX7_quiet 68 = .ok (.aload_n 0, 1) := by decide +kernel
theorem dX7_quiet_69 : decode cX7_quiet 69 = .ok (.getfield 38, 3) := by decide +kernel
theorem dX7_quiet_72 : decode cX7_quiet 72 = .ok (.invokevirtual 344, 3) := by decide +kernel
theorem dX7_quiet_75 : decode cX7_quiet 75 = .ok (.ifCond .eq 7, 3) := by decide +kernel
theorem dX7_quiet_78 : decode cX7_quiet 78 = .ok (.iconst 1, 1) := by decide +kernel
theorem dX7_quiet_79 : decode cX7_quiet 79 = .ok (.goto 4, 3) := by decide +kernel
theorem dX7_quiet_82 : decode cX7_quiet 82 = .ok (.iconst 0, 1) := by decide +kernel
theorem dX7_quiet_83 : decode cX7_quiet 83 = .ok (.iadd, 1) := by decide +kernel
theorem dX7_quiet_84 : decode cX7_quiet 84 = .ok (.istore_n 2, 1) := by decide +kernel
theorem dX7_quiet_85 : decode cX7_quiet 85 = .ok (.iinc 3 1, 3) := by decide +kernel
theorem dX7_quiet_88 : decode cX7_quiet 88 = .ok (.goto (-36), 3) := by decide +kernel
theorem dX7_quiet_91 : decode cX7_quiet 91 = .ok (.iload_n 2, 1) := by decide +kernel
theorem dX7_quiet_92 : decode cX7_quiet 92 = .ok (.ireturn, 1) := by decide +kernel
def f_X7_quiet_l52 : am_F := am_th (i_il 3) (am_th (i_il 1) (am_br (b_2 (fun x y => decide (y ≤ x))) (am_to 91) (am_th (i_al 0) (am_th (i_al 0) (am_th (i_gr 7 23) (am_th (i_cv 7 1 d_X7_seasonAsTold) (am_th (i_pop) (am_th (i_il 2) (am_th (i_al 0) (am_th (i_al 0) (am_th (i_gr 7 23) (am_th (i_cv 7 1 d_X7_isPeace) (am_sq 83 (am_br (b_1 (fun x => decide (x = 0))) (am_th (i_ic (0)) (am_to 83)) (am_th (i_ic (1)) (am_to 83))) (am_th (i_2 (fun x y => x + y)) (am_th (i_is 2) (am_th (i_inc 3 (1)) (am_to 52)))))))))))))))))
def f_X7_quiet : am_F := am_th (i_al 0) (am_th (i_cv 7 0 d_X7_good) (am_th (i_al 0) (am_th (i_gi 7 14) (am_br (b_1 (fun x => decide (¬ x = 0))) (am_th (i_il 1) (am_th (i_ic (0)) (am_th (i_ic (24)) (am_th (i_cs 3 d_X7_in) (am_br (b_1 (fun x => decide (¬ x = 0))) (am_th (i_al 0) (am_th (i_gr 7 17) (am_th (i_ic (0)) (am_th (i_al 0) (am_th (i_gr 7 23) (am_th (i_ic (0)) (am_th (i_ic (26)) (am_th (i_cs 5 d_X7_copy) (am_th (i_ic (0)) (am_th (i_is 2) (am_th (i_ic (0)) (am_th (i_is 3) (am_sq 91 (am_lp 5000 52 f_X7_quiet_l52) (am_th (i_il 2) (r_i))))))))))))))) (am_th (i_al 0) (am_th (i_ic (2)) (am_th (i_cv 7 1 d_X7_no) (r_i))))))))) (am_th (i_al 0) (am_th (i_ic (1)) (am_th (i_cv 7 1 d_X7_no) (r_i))))))))
def d_X7_quiet : am_D := am_den 4 f_X7_quiet
set_option maxHeartbeats 4000000 in
set_option maxRecDepth 100000 in
theorem b_X7_quiet : am_Body yX7_quiet cX7_quiet 4 (some .int) 5 114 f_X7_quiet := by
  intro p l e R s m args below meth c g n0 z0 r0 u0 C hr hn
  have C : am_Cx p l e R s m args below meth c g RX7 cX7_quiet 4 n0 z0 (am_len u0) (am_wt u0) 5 114 := C
  have l52 : am_Snd (am_GM p l e R s m args below meth c g 4 n0 z0 r0 u0) (am_Rt r0 u0) 52 (f_X7_quiet_l52) := by
    unfold f_X7_quiet_l52
    exact (so_th (so_iload_n C dX7_quiet_52 rfl) (so_th (so_iload_n C dX7_quiet_53 rfl) (so_br (so_icmp_ge C dX7_quiet_54 (by decide)) (so_to) (so_th (so_aload_n C dX7_quiet_57 rfl) (so_th (so_aload_n C dX7_quiet_58 rfl) (so_th (so_getr C fl_RX7_38 dX7_quiet_59) (so_th (so_cv C m_X7_seasonAsTold rfl k_646 k_648 k_647 k_649 k_475 ⟨by decide, by decide, by decide +kernel⟩ (by decide) dX7_quiet_62) (so_th (so_pop C dX7_quiet_65) (so_th (so_iload_n C dX7_quiet_66 rfl) (so_th (so_aload_n C dX7_quiet_67 rfl) (so_th (so_aload_n C dX7_quiet_68 rfl) (so_th (so_getr C fl_RX7_38 dX7_quiet_69) (so_th (so_cv C m_X7_isPeace rfl k_686 k_688 k_687 k_689 k_475 ⟨by decide, by decide, by decide +kernel⟩ (by decide) dX7_quiet_72) (so_sq (so_br (so_if_eq C dX7_quiet_75 (by decide)) (so_th (so_iconst C dX7_quiet_82 (by decide)) (so_to)) (so_th (so_iconst C dX7_quiet_78 (by decide)) (so_goto C dX7_quiet_79 (by decide) (so_to)))) (so_th (so_iadd C dX7_quiet_83) (so_th (so_istore_n C dX7_quiet_84 rfl (by decide)) (so_th (so_iinc C dX7_quiet_85 (by decide) (by decide)) (so_goto C dX7_quiet_88 (by decide) (so_to)))))))))))))))))))
  unfold f_X7_quiet
  exact (so_th (so_aload_n C dX7_quiet_0 rfl) (so_th (so_cv C m_X7_good rfl k_594 k_596 k_595 k_597 k_475 ⟨by decide, by decide, by decide +kernel⟩ (by decide) dX7_quiet_1) (so_th (so_aload_n C dX7_quiet_4 rfl) (so_th (so_geti C fl_RX7_206 (by decide) dX7_quiet_5) (so_br (so_if_ne C dX7_quiet_8 (by decide)) (so_th (so_iload_n C dX7_quiet_17 rfl) (so_th (so_iconst C dX7_quiet_18 (by decide)) (so_th (so_bipush C dX7_quiet_19 (by decide)) (so_th (so_cs C m_X7_in k_511 k_513 k_512 k_475 ⟨by decide, by decide, by decide +kernel⟩ (by decide) dX7_quiet_21) (so_br (so_if_ne C dX7_quiet_24 (by decide)) (so_th (so_aload_n C dX7_quiet_33 rfl) (so_th (so_getr C fl_RX7_26 dX7_quiet_34) (so_th (so_iconst C dX7_quiet_37 (by decide)) (so_th (so_aload_n C dX7_quiet_38 rfl) (so_th (so_getr C fl_RX7_38 dX7_quiet_39) (so_th (so_iconst C dX7_quiet_42 (by decide)) (so_th (so_bipush C dX7_quiet_43 (by decide)) (so_th (so_cs C m_X7_copy k_602 k_604 k_603 k_475 ⟨by decide, by decide, by decide +kernel⟩ (by decide) dX7_quiet_45) (so_th (so_iconst C dX7_quiet_48 (by decide)) (so_th (so_istore_n C dX7_quiet_49 rfl (by decide)) (so_th (so_iconst C dX7_quiet_50 (by decide)) (so_th (so_istore_n C dX7_quiet_51 rfl (by decide)) (so_sq (so_lp l52 5000) (so_th (so_iload_n C dX7_quiet_91 rfl) (so_ri C hr dX7_quiet_92))))))))))))))) (so_th (so_aload_n C dX7_quiet_27 rfl) (so_th (so_iconst C dX7_quiet_28 (by decide)) (so_th (so_cv C m_X7_no rfl k_609 k_611 k_610 k_612 k_475 ⟨by decide, by decide, by decide +kernel⟩ (by decide) dX7_quiet_29) (so_ri C hr dX7_quiet_32))))))))) (so_th (so_aload_n C dX7_quiet_11 rfl) (so_th (so_iconst C dX7_quiet_12 (by decide)) (so_th (so_cv C m_X7_no rfl k_609 k_611 k_610 k_612 k_475 ⟨by decide, by decide, by decide +kernel⟩ (by decide) dX7_quiet_13) (so_ri C hr dX7_quiet_16)))))))))
theorem m_X7_quiet : am_M yX7_quiet cX7_quiet 4 (some .int) 5 114 d_X7_quiet := am_M_of (by decide +kernel) b_X7_quiet
theorem dX7_peaceBy_0 : decode cX7_peaceBy 0 = .ok (.aload_n 0, 1) := by decide +kernel
theorem dX7_peaceBy_1 : decode cX7_peaceBy 1 = .ok (.invokevirtual 189, 3) := by decide +kernel
theorem dX7_peaceBy_4 : decode cX7_peaceBy 4 = .ok (.aload_n 0, 1) := by decide +kernel
theorem dX7_peaceBy_5 : decode cX7_peaceBy 5 = .ok (.getfield 206, 3) := by decide +kernel
theorem dX7_peaceBy_8 : decode cX7_peaceBy 8 = .ok (.ifCond .ne 9, 3) := by decide +kernel
theorem dX7_peaceBy_11 : decode cX7_peaceBy 11 = .ok (.aload_n 0, 1) := by decide +kernel
theorem dX7_peaceBy_12 : decode cX7_peaceBy 12 = .ok (.iconst 1, 1) := by decide +kernel
theorem dX7_peaceBy_13 : decode cX7_peaceBy 13 = .ok (.invokevirtual 192, 3) := by decide +kernel
theorem dX7_peaceBy_16 : decode cX7_peaceBy 16 = .ok (.ireturn, 1) := by decide +kernel
theorem dX7_peaceBy_17 : decode cX7_peaceBy 17 = .ok (.aload_n 0, 1) := by decide +kernel
theorem dX7_peaceBy_18 : decode cX7_peaceBy 18 = .ok (.getfield 26, 3) := by decide +kernel
theorem dX7_peaceBy_21 : decode cX7_peaceBy 21 = .ok (.iconst 0, 1) := by decide +kernel
theorem dX7_peaceBy_22 : decode cX7_peaceBy 22 = .ok (.aload_n 0, 1) := by decide +kernel
theorem dX7_peaceBy_23 : decode cX7_peaceBy 23 = .ok (.getfield 38, 3) := by decide +kernel
theorem dX7_peaceBy_26 : decode cX7_peaceBy 26 = .ok (.iconst 0, 1) := by decide +kernel
theorem dX7_peaceBy_27 : decode cX7_peaceBy 27 = .ok (.bipush 26, 2) := by decide +kernel
theorem dX7_peaceBy_29 : decode cX7_peaceBy 29 = .ok (.invokestatic 198, 3) := by decide +kernel
theorem dX7_peaceBy_32 : decode cX7_peaceBy 32 = .ok (.iconst 0, 1) := by decide +kernel
theorem dX7_peaceBy_33 : decode cX7_peaceBy 33 = .ok (.istore_n 1, 1) := by decide +kernel
theorem dX7_peaceBy_34 : decode cX7_peaceBy 34 = .ok (.iload_n 1, 1) := by decide +kernel
theorem dX7_peaceBy_35 : decode cX7_peaceBy 35 = .ok (.bipush 24, 2) := by decide +kernel
theorem dX7_peaceBy_37 : decode cX7_peaceBy 37 = .ok (.if_icmp .gt 31, 3) := by decide +kernel
theorem dX7_peaceBy_40 : decode cX7_peaceBy 40 = .ok (.aload_n 0, 1) := by decide +kernel
theorem dX7_peaceBy_41 : decode cX7_peaceBy 41 = .ok (.aload_n 0, 1) := by decide +kernel
theorem dX7_peaceBy_42 : decode cX7_peaceBy 42 = .ok (.getfield 38, 3) := by decide +kernel
theorem dX7_peaceBy_45 : decode cX7_peaceBy 45 = .ok (.invokevirtual 344, 3) := by decide +kernel
theorem dX7_peaceBy_48 : decode cX7_peaceBy 48 = .ok (.ifCond .eq 5, 3) := by decide +kernel
theorem dX7_peaceBy_51 : decode cX7_peaceBy 51 = .ok (.iload_n 1, 1) := by decide +kernel
theorem dX7_peaceBy_52 : decode cX7_peaceBy 52 = .ok (.ireturn, 1) := by decide +kernel
theorem dX7_peaceBy_53 : decode cX7_peaceBy 53 = .ok (.aload_n 0, 1) := by decide +kernel
theorem dX7_peaceBy_54 : decode cX7_peaceBy 54 = .ok (.aload_n 0, 1) := by decide +kernel
theorem dX7_peaceBy_55 : decode cX7_peaceBy 55 = .ok (.getfield 38, 3) := by decide +kernel
theorem dX7_peaceBy_58 : decode cX7_peaceBy 58 = .ok (.invokevirtual 311, 3) := by decide +kernel
theorem dX7_peaceBy_61 : decode cX7_peaceBy 61 = .ok (.pop, 1) := by decide +kernel
theorem dX7_peaceBy_62 : decode cX7_peaceBy 62 = .ok (.iinc 1 1, 3) := by decide +kernel
theorem dX7_peaceBy_65 : decode cX7_peaceBy 65 = .ok (.goto (-31), 3) := by decide +kernel
theorem dX7_peaceBy_68 : decode cX7_peaceBy 68 = .ok (.bipush (-2), 2) := by decide +kernel
theorem dX7_peaceBy_70 : decode cX7_peaceBy 70 = .ok (.ireturn, 1) := by decide +kernel
def f_X7_peaceBy_l34 : am_F := am_th (i_il 1) (am_th (i_ic (24)) (am_br (b_2 (fun x y => decide (y < x))) (am_to 68) (am_th (i_al 0) (am_th (i_al 0) (am_th (i_gr 7 23) (am_th (i_cv 7 1 d_X7_isPeace) (am_br (b_1 (fun x => decide (x = 0))) (am_th (i_al 0) (am_th (i_al 0) (am_th (i_gr 7 23) (am_th (i_cv 7 1 d_X7_seasonAsTold) (am_th (i_pop) (am_th (i_inc 1 (1)) (am_to 34))))))) (am_th (i_il 1) (r_i)))))))))
def f_X7_peaceBy : am_F := am_th (i_al 0) (am_th (i_cv 7 0 d_X7_good) (am_th (i_al 0) (am_th (i_gi 7 14) (am_br (b_1 (fun x => decide (¬ x = 0))) (am_th (i_al 0) (am_th (i_gr 7 17) (am_th (i_ic (0)) (am_th (i_al 0) (am_th (i_gr 7 23) (am_th (i_ic (0)) (am_th (i_ic (26)) (am_th (i_cs 5 d_X7_copy) (am_th (i_ic (0)) (am_th (i_is 1) (am_sq 68 (am_lp 5000 34 f_X7_peaceBy_l34) (am_th (i_ic (-2)) (r_i))))))))))))) (am_th (i_al 0) (am_th (i_ic (1)) (am_th (i_cv 7 1 d_X7_no) (r_i))))))))
def d_X7_peaceBy : am_D := am_den 2 f_X7_peaceBy
set_option maxHeartbeats 4000000 in
set_option maxRecDepth 100000 in
theorem b_X7_peaceBy : am_Body yX7_peaceBy cX7_peaceBy 2 (some .int) 5 114 f_X7_peaceBy := by
  intro p l e R s m args below meth c g n0 z0 r0 u0 C hr hn
  have C : am_Cx p l e R s m args below meth c g RX7 cX7_peaceBy 2 n0 z0 (am_len u0) (am_wt u0) 5 114 := C
  have l34 : am_Snd (am_GM p l e R s m args below meth c g 2 n0 z0 r0 u0) (am_Rt r0 u0) 34 (f_X7_peaceBy_l34) := by
    unfold f_X7_peaceBy_l34
    exact (so_th (so_iload_n C dX7_peaceBy_34 rfl) (so_th (so_bipush C dX7_peaceBy_35 (by decide)) (so_br (so_icmp_gt C dX7_peaceBy_37 (by decide)) (so_to) (so_th (so_aload_n C dX7_peaceBy_40 rfl) (so_th (so_aload_n C dX7_peaceBy_41 rfl) (so_th (so_getr C fl_RX7_38 dX7_peaceBy_42) (so_th (so_cv C m_X7_isPeace rfl k_686 k_688 k_687 k_689 k_475 ⟨by decide, by decide, by decide +kernel⟩ (by decide) dX7_peaceBy_45) (so_br (so_if_eq C dX7_peaceBy_48 (by decide)) (so_th (so_aload_n C dX7_peaceBy_53 rfl) (so_th (so_aload_n C dX7_peaceBy_54 rfl) (so_th (so_getr C fl_RX7_38 dX7_peaceBy_55) (so_th (so_cv C m_X7_seasonAsTold rfl k_646 k_648 k_647 k_649 k_475 ⟨by decide, by decide, by decide +kernel⟩ (by decide) dX7_peaceBy_58) (so_th (so_pop C dX7_peaceBy_61) (so_th (so_iinc C dX7_peaceBy_62 (by decide) (by decide)) (so_goto C dX7_peaceBy_65 (by decide) (so_to)))))))) (so_th (so_iload_n C dX7_peaceBy_51 rfl) (so_ri C hr dX7_peaceBy_52))))))))))
  unfold f_X7_peaceBy
  exact (so_th (so_aload_n C dX7_peaceBy_0 rfl) (so_th (so_cv C m_X7_good rfl k_594 k_596 k_595 k_597 k_475 ⟨by decide, by decide, by decide +kernel⟩ (by decide) dX7_peaceBy_1) (so_th (so_aload_n C dX7_peaceBy_4 rfl) (so_th (so_geti C fl_RX7_206 (by decide) dX7_peaceBy_5) (so_br (so_if_ne C dX7_peaceBy_8 (by decide)) (so_th (so_aload_n C dX7_peaceBy_17 rfl) (so_th (so_getr C fl_RX7_26 dX7_peaceBy_18) (so_th (so_iconst C dX7_peaceBy_21 (by decide)) (so_th (so_aload_n C dX7_peaceBy_22 rfl) (so_th (so_getr C fl_RX7_38 dX7_peaceBy_23) (so_th (so_iconst C dX7_peaceBy_26 (by decide)) (so_th (so_bipush C dX7_peaceBy_27 (by decide)) (so_th (so_cs C m_X7_copy k_602 k_604 k_603 k_475 ⟨by decide, by decide, by decide +kernel⟩ (by decide) dX7_peaceBy_29) (so_th (so_iconst C dX7_peaceBy_32 (by decide)) (so_th (so_istore_n C dX7_peaceBy_33 rfl (by decide)) (so_sq (so_lp l34 5000) (so_th (so_bipush C dX7_peaceBy_68 (by decide)) (so_ri C hr dX7_peaceBy_70))))))))))))) (so_th (so_aload_n C dX7_peaceBy_11 rfl) (so_th (so_iconst C dX7_peaceBy_12 (by decide)) (so_th (so_cv C m_X7_no rfl k_609 k_611 k_610 k_612 k_475 ⟨by decide, by decide, by decide +kernel⟩ (by decide) dX7_peaceBy_13) (so_ri C hr dX7_peaceBy_16)))))))))
theorem m_X7_peaceBy : am_M yX7_peaceBy cX7_peaceBy 2 (some .int) 5 114 d_X7_peaceBy := am_M_of (by decide +kernel) b_X7_peaceBy
theorem dX7_worst_0 : decode cX7_worst 0 = .ok (.aload_n 0, 1) := by decide +kernel
theorem dX7_worst_1 : decode cX7_worst 1 = .ok (.invokevirtual 189, 3) := by decide +kernel
theorem dX7_worst_4 : decode cX7_worst 4 = .ok (.aload_n 0, 1) := by decide +kernel
theorem dX7_worst_5 : decode cX7_worst 5 = .ok (.aload_n 0, 1) := by decide +kernel
theorem dX7_worst_6 : decode cX7_worst 6 = .ok (.getfield 206, 3) := by decide +kernel
theorem dX7_worst_9 : decode cX7_worst 9 = .ok (.iload_n 1, 1) := by decide +kernel
theorem dX7_worst_10 : decode cX7_worst 10 = .ok (.invokevirtual 337, 3) := by decide +kernel
theorem dX7_worst_13 : decode cX7_worst 13 = .ok (.istore_n 2, 1) := by decide +kernel
theorem dX7_worst_14 : decode cX7_worst 14 = .ok (.iload_n 2, 1) := by decide +kernel
theorem dX7_worst_15 : decode cX7_worst 15 = .ok (.ifCond .eq 9, 3) := by decide +kernel
theorem dX7_worst_18 : decode cX7_worst 18 = .ok (.aload_n 0, 1) := by decide +kernel
theorem dX7_worst_19 : decode cX7_worst 19 = .ok (.iload_n 2, 1) := by decide +kernel
theorem dX7_worst_20 : decode cX7_worst 20 = .ok (.invokevirtual 192, 3) := by decide +kernel
theorem dX7_worst_23 : decode cX7_worst 23 = .ok (.ireturn, 1) := by decide +kernel
theorem dX7_worst_24 : decode cX7_worst 24 = .ok (.bipush (-2), 2) := by decide +kernel
theorem dX7_worst_26 : decode cX7_worst 26 = .ok (.istore_n 3, 1) := by decide +kernel
theorem dX7_worst_27 : decode cX7_worst 27 = .ok (.iconst 0, 1) := by decide +kernel
theorem dX7_worst_28 : decode cX7_worst 28 = .ok (.istore 4, 2) := by decide +kernel
theorem dX7_worst_30 : decode cX7_worst 30 = .ok (.iconst 0, 1) := by decide +kernel
theorem dX7_worst_31 : decode cX7_worst 31 = .ok (.istore 5, 2) := by decide +kernel
theorem dX7_worst_33 : decode cX7_worst 33 = .ok (.iload 5, 2) := by decide +kernel
theorem dX7_worst_35 : decode cX7_worst 35 = .ok (.aload_n 0, 1) := by decide +kernel
theorem dX7_worst_36 : decode cX7_worst 36 = .ok (.getfield 20, 3) := by decide +kernel
theorem dX7_worst_39 : decode cX7_worst 39 = .ok (.bipush 7, 2) := by decide +kernel
theorem dX7_worst_41 : decode cX7_worst 41 = .ok (.iaload, 1) := by decide +kernel
theorem dX7_worst_42 : decode cX7_worst 42 = .ok (.if_icmp .ge 49, 3) := by decide +kernel
theorem dX7_worst_45 : decode cX7_worst 45 = .ok (.aload_n 0, 1) := by decide +kernel
theorem dX7_worst_46 : decode cX7_worst 46 = .ok (.getfield 38, 3) := by decide +kernel
theorem dX7_worst_49 : decode cX7_worst 49 = .ok (.bipush 12, 2) := by decide +kernel
theorem dX7_worst_51 : decode cX7_worst 51 = .ok (.iload 5, 2) := by decide +kernel
theorem dX7_worst_53 : decode cX7_worst 53 = .ok (.iadd, 1) := by decide +kernel
theorem dX7_worst_54 : decode cX7_worst 54 = .ok (.iaload, 1) := by decide +kernel
theorem dX7_worst_55 : decode cX7_worst 55 = .ok (.aload_n 0, 1) := by decide +kernel
theorem dX7_worst_56 : decode cX7_worst 56 = .ok (.getfield 26, 3) := by decide +kernel
theorem dX7_worst_59 : decode cX7_worst 59 = .ok (.bipush 12, 2) := by decide +kernel
theorem dX7_worst_61 : decode cX7_worst 61 = .ok (.iload 5, 2) := by decide +kernel
theorem dX7_worst_63 : decode cX7_worst 63 = .ok (.iadd, 1) := by decide +kernel
theorem dX7_worst_64 : decode cX7_worst 64 = .ok (.iaload, 1) := by decide +kernel
theorem dX7_worst_65 : decode cX7_worst 65 = .ok (.isub, 1) := by decide +kernel
theorem dX7_worst_66 : decode cX7_worst 66 = .ok (.istore 6, 2) := by decide +kernel
theorem dX7_worst_68 : decode cX7_worst 68 = .ok (.iload 6, 2) := by decide +kernel
theorem dX7_worst_70 : decode cX7_worst 70 = .ok (.iload 4, 2) := by decide +kernel
theorem dX7_worst_72 : decode cX7_worst 72 = .ok (.if_icmp .gt 6, 3) := by decide +kernel
theorem dX7_worst_75 : decode cX7_worst 75 = .ok (.goto 10, 3) := by decide +kernel
theorem dX7_worst_78 : decode cX7_worst 78 = .ok (.iload 5, 2) := by decide +kernel
theorem dX7_worst_80 : decode cX7_worst 80 = .ok (.istore_n 3, 1) := by decide +kernel
theorem dX7_worst_81 : decode cX7_worst 81 = .ok (.iload 6, 2) := by decide +kernel
theorem dX7_worst_83 : decode cX7_worst 83 = .ok (.istore 4, 2) := by decide +kernel
theorem dX7_worst_85 : decode cX7_worst 85 = .ok (.iinc 5 1, 3) := by decide +kernel
theorem dX7_worst_88 : decode cX7_worst 88 = .ok (.goto (-55), 3) := by decide +kernel
theorem dX7_worst_91 : decode cX7_worst 91 = .ok (.iload_n 3, 1) := by decide +kernel
theorem dX7_worst_92 : decode cX7_worst 92 = .ok (.ireturn, 1) := by decide +kernel
def f_X7_worst_l33 : am_F := am_th (i_il 5) (am_th (i_al 0) (am_th (i_gr 7 15) (am_th (i_ic (7)) (am_th (i_ia 0) (am_br (b_2 (fun x y => decide (y ≤ x))) (am_to 91) (am_th (i_al 0) (am_th (i_gr 7 23) (am_th (i_ic (12)) (am_th (i_il 5) (am_th (i_2 (fun x y => x + y)) (am_th (i_ia 0) (am_th (i_al 0) (am_th (i_gr 7 17) (am_th (i_ic (12)) (am_th (i_il 5) (am_th (i_2 (fun x y => x + y)) (am_th (i_ia 0) (am_th (i_2 (fun x y => x - y)) (am_th (i_is 6) (am_th (i_il 6) (am_th (i_il 4) (am_sq 85 (am_br (b_2 (fun x y => decide (y < x))) (am_th (i_il 5) (am_th (i_is 3) (am_th (i_il 6) (am_th (i_is 4) (am_to 85))))) (am_to 85)) (am_th (i_inc 5 (1)) (am_to 33))))))))))))))))))))))))
def f_X7_worst : am_F := am_th (i_al 0) (am_th (i_cv 7 0 d_X7_good) (am_th (i_al 0) (am_th (i_al 0) (am_th (i_gi 7 14) (am_th (i_il 1) (am_th (i_cv 7 2 d_X7_why) (am_th (i_is 2) (am_th (i_il 2) (am_br (b_1 (fun x => decide (x = 0))) (am_th (i_ic (-2)) (am_th (i_is 3) (am_th (i_ic (0)) (am_th (i_is 4) (am_th (i_ic (0)) (am_th (i_is 5) (am_sq 91 (am_lp 5000 33 f_X7_worst_l33) (am_th (i_il 3) (r_i))))))))) (am_th (i_al 0) (am_th (i_il 2) (am_th (i_cv 7 1 d_X7_no) (r_i)))))))))))))
def d_X7_worst : am_D := am_den 7 f_X7_worst
set_option maxHeartbeats 4000000 in
set_option maxRecDepth 100000 in
theorem b_X7_worst : am_Body yX7_worst cX7_worst 7 (some .int) 8 180 f_X7_worst := by
  intro p l e R s m args below meth c g n0 z0 r0 u0 C hr hn
  have C : am_Cx p l e R s m args below meth c g RX7 cX7_worst 7 n0 z0 (am_len u0) (am_wt u0) 8 180 := C
  have l33 : am_Snd (am_GM p l e R s m args below meth c g 7 n0 z0 r0 u0) (am_Rt r0 u0) 33 (f_X7_worst_l33) := by
    unfold f_X7_worst_l33
    exact (so_th (so_iload C dX7_worst_33) (so_th (so_aload_n C dX7_worst_35 rfl) (so_th (so_getr C fl_RX7_20 dX7_worst_36) (so_th (so_bipush C dX7_worst_39 (by decide)) (so_th (so_iald C dX7_worst_41) (so_br (so_icmp_ge C dX7_worst_42 (by decide)) (so_to) (so_th (so_aload_n C dX7_worst_45 rfl) (so_th (so_getr C fl_RX7_38 dX7_worst_46) (so_th (so_bipush C dX7_worst_49 (by decide)) (so_th (so_iload C dX7_worst_51) (so_th (so_iadd C dX7_worst_53) (so_th (so_iald C dX7_worst_54) (so_th (so_aload_n C dX7_worst_55 rfl) (so_th (so_getr C fl_RX7_26 dX7_worst_56) (so_th (so_bipush C dX7_worst_59 (by decide)) (so_th (so_iload C dX7_worst_61) (so_th (so_iadd C dX7_worst_63) (so_th (so_iald C dX7_worst_64) (so_th (so_isub C dX7_worst_65) (so_th (so_istore C dX7_worst_66 (by decide)) (so_th (so_iload C dX7_worst_68) (so_th (so_iload C dX7_worst_70) (so_sq (so_br (so_icmp_gt C dX7_worst_72 (by decide)) (so_th (so_iload C dX7_worst_78) (so_th (so_istore_n C dX7_worst_80 rfl (by decide)) (so_th (so_iload C dX7_worst_81) (so_th (so_istore C dX7_worst_83 (by decide)) (so_to))))) (so_goto C dX7_worst_75 (by decide) (so_to))) (so_th (so_iinc C dX7_worst_85 (by decide) (by decide)) (so_goto C dX7_worst_88 (by decide) (so_to))))))))))))))))))))))))))
  unfold f_X7_worst
  exact (so_th (so_aload_n C dX7_worst_0 rfl) (so_th (so_cv C m_X7_good rfl k_594 k_596 k_595 k_597 k_475 ⟨by decide, by decide, by decide +kernel⟩ (by decide) dX7_worst_1) (so_th (so_aload_n C dX7_worst_4 rfl) (so_th (so_aload_n C dX7_worst_5 rfl) (so_th (so_geti C fl_RX7_206 (by decide) dX7_worst_6) (so_th (so_iload_n C dX7_worst_9 rfl) (so_th (so_cv C m_X7_why rfl k_678 k_680 k_679 k_681 k_475 ⟨by decide, by decide, by decide +kernel⟩ (by decide) dX7_worst_10) (so_th (so_istore_n C dX7_worst_13 rfl (by decide)) (so_th (so_iload_n C dX7_worst_14 rfl) (so_br (so_if_eq C dX7_worst_15 (by decide)) (so_th (so_bipush C dX7_worst_24 (by decide)) (so_th (so_istore_n C dX7_worst_26 rfl (by decide)) (so_th (so_iconst C dX7_worst_27 (by decide)) (so_th (so_istore C dX7_worst_28 (by decide)) (so_th (so_iconst C dX7_worst_30 (by decide)) (so_th (so_istore C dX7_worst_31 (by decide)) (so_sq (so_lp l33 5000) (so_th (so_iload_n C dX7_worst_91 rfl) (so_ri C hr dX7_worst_92))))))))) (so_th (so_aload_n C dX7_worst_18 rfl) (so_th (so_iload_n C dX7_worst_19 rfl) (so_th (so_cv C m_X7_no rfl k_609 k_611 k_610 k_612 k_475 ⟨by decide, by decide, by decide +kernel⟩ (by decide) dX7_worst_20) (so_ri C hr dX7_worst_23))))))))))))))
theorem m_X7_worst : am_M yX7_worst cX7_worst 7 (some .int) 8 180 d_X7_worst := am_M_of (by decide +kernel) b_X7_worst
theorem dX7_isStanding_0 : decode cX7_isStanding 0 = .ok (.aload_n 0, 1) := by decide +kernel
theorem dX7_isStanding_1 : decode cX7_isStanding 1 = .ok (.iload_n 1, 1) := by decide +kernel
theorem dX7_isStanding_2 : decode cX7_isStanding 2 = .ok (.invokevirtual 322, 3) := by decide +kernel
theorem dX7_isStanding_5 : decode cX7_isStanding 5 = .ok (.ifCond .eq 18, 3) := by decide +kernel
theorem dX7_isStanding_8 : decode cX7_isStanding 8 = .ok (.aload_n 0, 1) := by decide +kernel
theorem dX7_isStanding_9 : decode cX7_isStanding 9 = .ok (.getfield 26, 3) := by decide +kernel
theorem dX7_isStanding_12 : decode cX7_isStanding 12 = .ok (.iload_n 1, 1) := by decide +kernel
theorem dX7_isStanding_13 : decode cX7_isStanding 13 = .ok (.invokestatic 278, 3) := by decide +kernel
theorem dX7_isStanding_16 : decode cX7_isStanding 16 = .ok (.ifCond .eq 7, 3) := by decide +kernel
theorem dX7_isStanding_19 : decode cX7_isStanding 19 = .ok (.iconst 1, 1) := by decide +kernel
theorem dX7_isStanding_20 : decode cX7_isStanding 20 = .ok (.goto 4, 3) := by decide +kernel
theorem dX7_isStanding_23 : decode cX7_isStanding 23 = .ok (.iconst 0, 1) := by decide +kernel
theorem dX7_isStanding_24 : decode cX7_isStanding 24 = .ok (.ireturn, 1) := by decide +kernel
def f_X7_isStanding : am_F := am_th (i_al 0) (am_th (i_il 1) (am_th (i_cv 7 1 d_X7_isQuarrel) (am_br (b_1 (fun x => decide (x = 0))) (am_th (i_ic (0)) (r_z)) (am_th (i_al 0) (am_th (i_gr 7 17) (am_th (i_il 1) (am_th (i_cs 2 d_X7_stands) (am_br (b_1 (fun x => decide (x = 0))) (am_th (i_ic (0)) (r_z)) (am_th (i_ic (1)) (r_z))))))))))
def d_X7_isStanding : am_D := am_den 2 f_X7_isStanding
set_option maxHeartbeats 4000000 in
set_option maxRecDepth 100000 in
theorem b_X7_isStanding : am_Body yX7_isStanding cX7_isStanding 2 (some .boolean) 2 43 f_X7_isStanding := by
  intro p l e R s m args below meth c g n0 z0 r0 u0 C hr hn
  have C : am_Cx p l e R s m args below meth c g RX7 cX7_isStanding 2 n0 z0 (am_len u0) (am_wt u0) 2 43 := C
  unfold f_X7_isStanding
  exact (so_th (so_aload_n C dX7_isStanding_0 rfl) (so_th (so_iload_n C dX7_isStanding_1 rfl) (so_th (so_cv C m_X7_isQuarrel rfl k_658 k_660 k_659 k_661 k_475 ⟨by decide, by decide, by decide +kernel⟩ (by decide) dX7_isStanding_2) (so_br (so_if_eq C dX7_isStanding_5 (by decide)) (so_th (so_iconst C dX7_isStanding_23 (by decide)) (so_rz C hr dX7_isStanding_24)) (so_th (so_aload_n C dX7_isStanding_8 rfl) (so_th (so_getr C fl_RX7_26 dX7_isStanding_9) (so_th (so_iload_n C dX7_isStanding_12 rfl) (so_th (so_cs C m_X7_stands k_613 k_615 k_614 k_475 ⟨by decide, by decide, by decide +kernel⟩ (by decide) dX7_isStanding_13) (so_br (so_if_eq C dX7_isStanding_16 (by decide)) (so_th (so_iconst C dX7_isStanding_23 (by decide)) (so_rz C hr dX7_isStanding_24)) (so_th (so_iconst C dX7_isStanding_19 (by decide)) (so_goto C dX7_isStanding_20 (by decide) (so_rz C hr dX7_isStanding_24))))))))))))
theorem m_X7_isStanding : am_M yX7_isStanding cX7_isStanding 2 (some .boolean) 2 43 d_X7_isStanding := am_M_of (by decide +kernel) b_X7_isStanding
theorem dX7_spared_0 : decode cX7_spared 0 = .ok (.aload_n 0, 1) := by decide +kernel
theorem dX7_spared_1 : decode cX7_spared 1 = .ok (.invokevirtual 189, 3) := by decide +kernel
theorem dX7_spared_4 : decode cX7_spared 4 = .ok (.aload_n 0, 1) := by decide +kernel
theorem dX7_spared_5 : decode cX7_spared 5 = .ok (.aload_n 0, 1) := by decide +kernel
theorem dX7_spared_6 : decode cX7_spared 6 = .ok (.iload_n 1, 1) := by decide +kernel
theorem dX7_spared_7 : decode cX7_spared 7 = .ok (.invokevirtual 348, 3) := by decide +kernel
theorem dX7_spared_10 : decode cX7_spared 10 = .ok (.iload_n 2, 1) := by decide +kernel
theorem dX7_spared_11 : decode cX7_spared 11 = .ok (.invokevirtual 337, 3) := by decide +kernel
theorem dX7_spared_14 : decode cX7_spared 14 = .ok (.istore_n 3, 1) := by decide +kernel
theorem dX7_spared_15 : decode cX7_spared 15 = .ok (.iload_n 3, 1) := by decide +kernel
theorem dX7_spared_16 : decode cX7_spared 16 = .ok (.ifCond .eq 9, 3) := by decide +kernel
theorem dX7_spared_19 : decode cX7_spared 19 = .ok (.aload_n 0, 1) := by decide +kernel
theorem dX7_spared_20 : decode cX7_spared 20 = .ok (.iload_n 3, 1) := by decide +kernel
theorem dX7_spared_21 : decode cX7_spared 21 = .ok (.invokevirtual 351, 3) := by decide +kernel
theorem dX7_spared_24 : decode cX7_spared 24 = .ok (.ireturn, 1) := by decide +kernel
theorem dX7_spared_25 : decode cX7_spared 25 = .ok (.aload_n 0, 1) := by decide +kernel
theorem dX7_spared_26 : decode cX7_spared 26 = .ok (.getfield 26, 3) := by decide +kernel
theorem dX7_spared_29 : decode cX7_spared 29 = .ok (.iconst 0, 1) := by decide +kernel
theorem dX7_spared_30 : decode cX7_spared 30 = .ok (.aload_n 0, 1) := by decide +kernel
theorem dX7_spared_31 : decode cX7_spared 31 = .ok (.getfield 41, 3) := by decide +kernel
theorem dX7_spared_34 : decode cX7_spared 34 = .ok (.iconst 0, 1) := by decide +kernel
theorem dX7_spared_35 : decode cX7_spared 35 = .ok (.bipush 26, 2) := by decide +kernel
theorem dX7_spared_37 : decode cX7_spared 37 = .ok (.invokestatic 198, 3) := by decide +kernel
theorem dX7_spared_40 : decode cX7_spared 40 = .ok (.aload_n 0, 1) := by decide +kernel
theorem dX7_spared_41 : decode cX7_spared 41 = .ok (.getfield 41, 3) := by decide +kernel
theorem dX7_spared_44 : decode cX7_spared 44 = .ok (.iload_n 1, 1) := by decide +kernel
theorem dX7_spared_45 : decode cX7_spared 45 = .ok (.iconst 0, 1) := by decide +kernel
theorem dX7_spared_46 : decode cX7_spared 46 = .ok (.iastore, 1) := by decide +kernel
theorem dX7_spared_47 : decode cX7_spared 47 = .ok (.aload_n 0, 1) := by decide +kernel
theorem dX7_spared_48 : decode cX7_spared 48 = .ok (.aload_n 0, 1) := by decide +kernel
theorem dX7_spared_49 : decode cX7_spared 49 = .ok (.getfield 41, 3) := by decide +kernel
theorem dX7_spared_52 : decode cX7_spared 52 = .ok (.iload_n 2, 1) := by decide +kernel
theorem dX7_spared_53 : decode cX7_spared 53 = .ok (.invokevirtual 315, 3) := by decide +kernel
theorem dX7_spared_56 : decode cX7_spared 56 = .ok (.aload_n 0, 1) := by decide +kernel
theorem dX7_spared_57 : decode cX7_spared 57 = .ok (.aload_n 0, 1) := by decide +kernel
theorem dX7_spared_58 : decode cX7_spared 58 = .ok (.getfield 38, 3) := by decide +kernel
theorem dX7_spared_61 : decode cX7_spared 61 = .ok (.bipush 12, 2) := by decide +kernel
theorem dX7_spared_63 : decode cX7_spared 63 = .ok (.invokevirtual 341, 3) := by decide +kernel
theorem dX7_spared_66 : decode cX7_spared 66 = .ok (.aload_n 0, 1) := by decide +kernel
theorem dX7_spared_67 : decode cX7_spared 67 = .ok (.aload_n 0, 1) := by decide +kernel
theorem dX7_spared_68 : decode cX7_spared 68 = .ok (.getfield 41, 3) := by decide +kernel
theorem dX7_spared_71 : decode cX7_spared 71 = .ok (.bipush 12, 2) := by decide +kernel
theorem dX7_spared_73 : decode cX7_spared 73 = .ok (.invokevirtual 341, 3) := by decide +kernel
theorem dX7_spared_76 : decode cX7_spared 76 = .ok (.isub, 1) := by decide +kernel
theorem dX7_spared_77 : decode cX7_spared 77 = .ok (.ireturn, 1) := by decide +kernel
def f_X7_spared : am_F := am_th (i_al 0) (am_th (i_cv 7 0 d_X7_good) (am_th (i_al 0) (am_th (i_al 0) (am_th (i_il 1) (am_th (i_cv 7 1 d_X7_isStanding) (am_th (i_il 2) (am_th (i_cv 7 2 d_X7_why) (am_th (i_is 3) (am_th (i_il 3) (am_br (b_1 (fun x => decide (x = 0))) (am_th (i_al 0) (am_th (i_gr 7 17) (am_th (i_ic (0)) (am_th (i_al 0) (am_th (i_gr 7 24) (am_th (i_ic (0)) (am_th (i_ic (26)) (am_th (i_cs 5 d_X7_copy) (am_th (i_al 0) (am_th (i_gr 7 24) (am_th (i_il 1) (am_th (i_ic (0)) (am_th (i_iS) (am_th (i_al 0) (am_th (i_al 0) (am_th (i_gr 7 24) (am_th (i_il 2) (am_th (i_cv 7 2 d_X7_goes) (am_th (i_al 0) (am_th (i_al 0) (am_th (i_gr 7 23) (am_th (i_ic (12)) (am_th (i_cv 7 2 d_X7_sumOf) (am_th (i_al 0) (am_th (i_al 0) (am_th (i_gr 7 24) (am_th (i_ic (12)) (am_th (i_cv 7 2 d_X7_sumOf) (am_th (i_2 (fun x y => x - y)) (r_i)))))))))))))))))))))))))))))) (am_th (i_al 0) (am_th (i_il 3) (am_th (i_cv 7 1 d_X7_less) (r_i))))))))))))))
def d_X7_spared : am_D := am_den 4 f_X7_spared
set_option maxHeartbeats 4000000 in
set_option maxRecDepth 100000 in
theorem b_X7_spared : am_Body yX7_spared cX7_spared 4 (some .int) 8 180 f_X7_spared := by
  intro p l e R s m args below meth c g n0 z0 r0 u0 C hr hn
  have C : am_Cx p l e R s m args below meth c g RX7 cX7_spared 4 n0 z0 (am_len u0) (am_wt u0) 8 180 := C
  unfold f_X7_spared
  exact (so_th (so_aload_n C dX7_spared_0 rfl) (so_th (so_cv C m_X7_good rfl k_594 k_596 k_595 k_597 k_475 ⟨by decide, by decide, by decide +kernel⟩ (by decide) dX7_spared_1) (so_th (so_aload_n C dX7_spared_4 rfl) (so_th (so_aload_n C dX7_spared_5 rfl) (so_th (so_iload_n C dX7_spared_6 rfl) (so_th (so_cv C m_X7_isStanding rfl k_690 k_692 k_691 k_693 k_475 ⟨by decide, by decide, by decide +kernel⟩ (by decide) dX7_spared_7) (so_th (so_iload_n C dX7_spared_10 rfl) (so_th (so_cv C m_X7_why rfl k_678 k_680 k_679 k_681 k_475 ⟨by decide, by decide, by decide +kernel⟩ (by decide) dX7_spared_11) (so_th (so_istore_n C dX7_spared_14 rfl (by decide)) (so_th (so_iload_n C dX7_spared_15 rfl) (so_br (so_if_eq C dX7_spared_16 (by decide)) (so_th (so_aload_n C dX7_spared_25 rfl) (so_th (so_getr C fl_RX7_26 dX7_spared_26) (so_th (so_iconst C dX7_spared_29 (by decide)) (so_th (so_aload_n C dX7_spared_30 rfl) (so_th (so_getr C fl_RX7_41 dX7_spared_31) (so_th (so_iconst C dX7_spared_34 (by decide)) (so_th (so_bipush C dX7_spared_35 (by decide)) (so_th (so_cs C m_X7_copy k_602 k_604 k_603 k_475 ⟨by decide, by decide, by decide +kernel⟩ (by decide) dX7_spared_37) (so_th (so_aload_n C dX7_spared_40 rfl) (so_th (so_getr C fl_RX7_41 dX7_spared_41) (so_th (so_iload_n C dX7_spared_44 rfl) (so_th (so_iconst C dX7_spared_45 (by decide)) (so_th (so_iast C dX7_spared_46) (so_th (so_aload_n C dX7_spared_47 rfl) (so_th (so_aload_n C dX7_spared_48 rfl) (so_th (so_getr C fl_RX7_41 dX7_spared_49) (so_th (so_iload_n C dX7_spared_52 rfl) (so_th (so_cv C m_X7_goes rfl k_650 k_652 k_651 k_653 k_475 ⟨by decide, by decide, by decide +kernel⟩ (by decide) dX7_spared_53) (so_th (so_aload_n C dX7_spared_56 rfl) (so_th (so_aload_n C dX7_spared_57 rfl) (so_th (so_getr C fl_RX7_38 dX7_spared_58) (so_th (so_bipush C dX7_spared_61 (by decide)) (so_th (so_cv C m_X7_sumOf rfl k_682 k_684 k_683 k_685 k_475 ⟨by decide, by decide, by decide +kernel⟩ (by decide) dX7_spared_63) (so_th (so_aload_n C dX7_spared_66 rfl) (so_th (so_aload_n C dX7_spared_67 rfl) (so_th (so_getr C fl_RX7_41 dX7_spared_68) (so_th (so_bipush C dX7_spared_71 (by decide)) (so_th (so_cv C m_X7_sumOf rfl k_682 k_684 k_683 k_685 k_475 ⟨by decide, by decide, by decide +kernel⟩ (by decide) dX7_spared_73) (so_th (so_isub C dX7_spared_76) (so_ri C hr dX7_spared_77)))))))))))))))))))))))))))))) (so_th (so_aload_n C dX7_spared_19 rfl) (so_th (so_iload_n C dX7_spared_20 rfl) (so_th (so_cv C m_X7_less rfl k_694 k_696 k_695 k_697 k_475 ⟨by decide, by decide, by decide +kernel⟩ (by decide) dX7_spared_21) (so_ri C hr dX7_spared_24)))))))))))))))
theorem m_X7_spared : am_M yX7_spared cX7_spared 4 (some .int) 8 180 d_X7_spared := am_M_of (by decide +kernel) b_X7_spared
theorem dX7_odds_0 : decode cX7_odds 0 = .ok (.aload_n 0, 1) := by decide +kernel
theorem dX7_odds_1 : decode cX7_odds 1 = .ok (.invokevirtual 189, 3) := by decide +kernel
theorem dX7_odds_4 : decode cX7_odds 4 = .ok (.aload_n 0, 1) := by decide +kernel
theorem dX7_odds_5 : decode cX7_odds 5 = .ok (.iload_n 1, 1) := by decide +kernel
theorem dX7_odds_6 : decode cX7_odds 6 = .ok (.invokevirtual 322, 3) := by decide +kernel
theorem dX7_odds_9 : decode cX7_odds 9 = .ok (.ifCond .eq 24, 3) := by decide +kernel
theorem dX7_odds_12 : decode cX7_odds 12 = .ok (.aload_n 0, 1) := by decide +kernel
theorem dX7_odds_13 : decode cX7_odds 13 = .ok (.iload_n 2, 1) := by decide +kernel
theorem dX7_odds_14 : decode cX7_odds 14 = .ok (.invokevirtual 322, 3) := by decide +kernel
theorem dX7_odds_17 : decode cX7_odds 17 = .ok (.ifCond .eq 16, 3) := by decide +kernel
theorem dX7_odds_20 : decode cX7_odds 20 = .ok (.aload_n 0, 1) := by decide +kernel
theorem dX7_odds_21 : decode cX7_odds 21 = .ok (.aload_n 0, 1) := by decide +kernel
theorem dX7_odds_22 : decode cX7_odds 22 = .ok (.getfield 26, 3) := by decide +kernel
theorem dX7_odds_25 : decode cX7_odds 25 = .ok (.iload_n 1, 1) := by decide +kernel
theorem dX7_odds_26 : decode cX7_odds 26 = .ok (.iload_n 2, 1) := by decide +kernel
theorem dX7_odds_27 : decode cX7_odds 27 = .ok (.invokevirtual 354, 3) := by decide +kernel
theorem dX7_odds_30 : decode cX7_odds 30 = .ok (.goto 8, 3) := by decide +kernel
theorem dX7_odds_33 : decode cX7_odds 33 = .ok (.aload_n 0, 1) := by decide +kernel
theorem dX7_odds_34 : decode cX7_odds 34 = .ok (.iconst 1, 1) := by decide +kernel
theorem dX7_odds_35 : decode cX7_odds 35 = .ok (.invokevirtual 192, 3) := by decide +kernel
theorem dX7_odds_38 : decode cX7_odds 38 = .ok (.ireturn, 1) := by decide +kernel
def f_X7_odds : am_F := am_th (i_al 0) (am_th (i_cv 7 0 d_X7_good) (am_th (i_al 0) (am_th (i_il 1) (am_th (i_cv 7 1 d_X7_isQuarrel) (am_br (b_1 (fun x => decide (x = 0))) (am_th (i_al 0) (am_th (i_ic (1)) (am_th (i_cv 7 1 d_X7_no) (r_i)))) (am_th (i_al 0) (am_th (i_il 2) (am_th (i_cv 7 1 d_X7_isQuarrel) (am_br (b_1 (fun x => decide (x = 0))) (am_th (i_al 0) (am_th (i_ic (1)) (am_th (i_cv 7 1 d_X7_no) (r_i)))) (am_th (i_al 0) (am_th (i_al 0) (am_th (i_gr 7 17) (am_th (i_il 1) (am_th (i_il 2) (am_th (i_cv 7 3 d_X7_oddsIn) (r_i))))))))))))))))
def d_X7_odds : am_D := am_den 3 f_X7_odds
set_option maxHeartbeats 4000000 in
set_option maxRecDepth 100000 in
theorem b_X7_odds : am_Body yX7_odds cX7_odds 3 (some .int) 4 93 f_X7_odds := by
  intro p l e R s m args below meth c g n0 z0 r0 u0 C hr hn
  have C : am_Cx p l e R s m args below meth c g RX7 cX7_odds 3 n0 z0 (am_len u0) (am_wt u0) 4 93 := C
  unfold f_X7_odds
  exact (so_th (so_aload_n C dX7_odds_0 rfl) (so_th (so_cv C m_X7_good rfl k_594 k_596 k_595 k_597 k_475 ⟨by decide, by decide, by decide +kernel⟩ (by decide) dX7_odds_1) (so_th (so_aload_n C dX7_odds_4 rfl) (so_th (so_iload_n C dX7_odds_5 rfl) (so_th (so_cv C m_X7_isQuarrel rfl k_658 k_660 k_659 k_661 k_475 ⟨by decide, by decide, by decide +kernel⟩ (by decide) dX7_odds_6) (so_br (so_if_eq C dX7_odds_9 (by decide)) (so_th (so_aload_n C dX7_odds_33 rfl) (so_th (so_iconst C dX7_odds_34 (by decide)) (so_th (so_cv C m_X7_no rfl k_609 k_611 k_610 k_612 k_475 ⟨by decide, by decide, by decide +kernel⟩ (by decide) dX7_odds_35) (so_ri C hr dX7_odds_38)))) (so_th (so_aload_n C dX7_odds_12 rfl) (so_th (so_iload_n C dX7_odds_13 rfl) (so_th (so_cv C m_X7_isQuarrel rfl k_658 k_660 k_659 k_661 k_475 ⟨by decide, by decide, by decide +kernel⟩ (by decide) dX7_odds_14) (so_br (so_if_eq C dX7_odds_17 (by decide)) (so_th (so_aload_n C dX7_odds_33 rfl) (so_th (so_iconst C dX7_odds_34 (by decide)) (so_th (so_cv C m_X7_no rfl k_609 k_611 k_610 k_612 k_475 ⟨by decide, by decide, by decide +kernel⟩ (by decide) dX7_odds_35) (so_ri C hr dX7_odds_38)))) (so_th (so_aload_n C dX7_odds_20 rfl) (so_th (so_aload_n C dX7_odds_21 rfl) (so_th (so_getr C fl_RX7_26 dX7_odds_22) (so_th (so_iload_n C dX7_odds_25 rfl) (so_th (so_iload_n C dX7_odds_26 rfl) (so_th (so_cv C m_X7_oddsIn rfl k_698 k_700 k_699 k_701 k_475 ⟨by decide, by decide, by decide +kernel⟩ (by decide) dX7_odds_27) (so_goto C dX7_odds_30 (by decide) (so_ri C hr dX7_odds_38))))))))))))))))))
theorem m_X7_odds : am_M yX7_odds cX7_odds 3 (some .int) 4 93 d_X7_odds := am_M_of (by decide +kernel) b_X7_odds
