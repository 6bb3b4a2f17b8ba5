theorem dX4_takeFell_0 : decode cX4_takeFell 0 = .ok (.aload_n 0, 1) := by decide +kernel
theorem dX4_takeFell_1 : decode cX4_takeFell 1 = .ok (.iconst 0, 1) := by decide +kernel
theorem dX4_takeFell_2 : decode cX4_takeFell 2 = .ok (.invokevirtual 225, 3) := by decide +kernel
theorem dX4_takeFell_5 : decode cX4_takeFell 5 = .ok (.ifCond .ne 5, 3) := by decide +kernel
theorem dX4_takeFell_8 : decode cX4_takeFell 8 = .ok (.iconst 0, 1) := by decide +kernel
theorem dX4_takeFell_9 : decode cX4_takeFell 9 = .ok (.ireturn, 1) := by decide +kernel
theorem dX4_takeFell_10 : decode cX4_takeFell 10 = .ok (.aload_n 0, 1) := by decide +kernel
theorem dX4_takeFell_11 : decode cX4_takeFell 11 = .ok (.getfield 118, 3) := by decide +kernel
theorem dX4_takeFell_14 : decode cX4_takeFell 14 = .ok (.istore_n 1, 1) := by decide +kernel
theorem dX4_takeFell_15 : decode cX4_takeFell 15 = .ok (.aload_n 0, 1) := by decide +kernel
theorem dX4_takeFell_16 : decode cX4_takeFell 16 = .ok (.ldc 229, 2) := by decide +kernel
theorem dX4_takeFell_18 : decode cX4_takeFell 18 = .ok (.invokevirtual 174, 3) := by decide +kernel
theorem dX4_takeFell_21 : decode cX4_takeFell 21 = .ok (.ifCond .ne 5, 3) := by decide +kernel
theorem dX4_takeFell_24 : decode cX4_takeFell 24 = .ok (.iconst 0, 1) := by decide +kernel
theorem dX4_takeFell_25 : decode cX4_takeFell 25 = .ok (.ireturn, 1) := by decide +kernel
theorem dX4_takeFell_26 : decode cX4_takeFell 26 = .ok (.aload_n 0, 1) := by decide +kernel
theorem dX4_takeFell_27 : decode cX4_takeFell 27 = .ok (.getfield 55, 3) := by decide +kernel
theorem dX4_takeFell_30 : decode cX4_takeFell 30 = .ok (.iconst 2, 1) := by decide +kernel
theorem dX4_takeFell_31 : decode cX4_takeFell 31 = .ok (.if_icmp .ne 24, 3) := by decide +kernel
theorem dX4_takeFell_34 : decode cX4_takeFell 34 = .ok (.aload_n 0, 1) := by decide +kernel
theorem dX4_takeFell_35 : decode cX4_takeFell 35 = .ok (.getfield 26, 3) := by decide +kernel
theorem dX4_takeFell_38 : decode cX4_takeFell 38 = .ok (.iload_n 1, 1) := by decide +kernel
theorem dX4_takeFell_39 : decode cX4_takeFell 39 = .ok (.aload_n 0, 1) := by decide +kernel
theorem dX4_takeFell_40 : decode cX4_takeFell 40 = .ok (.getfield 80, 3) := by decide +kernel
theorem dX4_takeFell_43 : decode cX4_takeFell 43 = .ok (.invokevirtual 239, 3) := by decide +kernel
theorem dX4_takeFell_46 : decode cX4_takeFell 46 = .ok (.ifCond .eq 9, 3) := by decide +kernel
theorem dX4_takeFell_49 : decode cX4_takeFell 49 = .ok (.aload_n 0, 1) := by decide +kernel
theorem dX4_takeFell_50 : decode cX4_takeFell 50 = .ok (.iconst 3, 1) := by decide +kernel
theorem dX4_takeFell_51 : decode cX4_takeFell 51 = .ok (.invokevirtual 58, 3) := by decide +kernel
theorem dX4_takeFell_54 : decode cX4_takeFell 54 = .ok (.ireturn, 1) := by decide +kernel
theorem dX4_takeFell_55 : decode cX4_takeFell 55 = .ok (.aload_n 0, 1) := by decide +kernel
theorem dX4_takeFell_56 : decode cX4_takeFell 56 = .ok (.iconst 0, 1) := by decide +kernel
theorem dX4_takeFell_57 : decode cX4_takeFell 57 = .ok (.bipush 23, 2) := by decide +kernel
theorem dX4_takeFell_59 : decode cX4_takeFell 59 = .ok (.invokevirtual 177, 3) := by decide +kernel
theorem dX4_takeFell_62 : decode cX4_takeFell 62 = .ok (.ifCond .ne 5, 3) := by decide +kernel
theorem dX4_takeFell_65 : decode cX4_takeFell 65 = .ok (.iconst 0, 1) := by decide +kernel
theorem dX4_takeFell_66 : decode cX4_takeFell 66 = .ok (.ireturn, 1) := by decide +kernel
theorem dX4_takeFell_67 : decode cX4_takeFell 67 = .ok (.aload_n 0, 1) := by decide +kernel
theorem dX4_takeFell_68 : decode cX4_takeFell 68 = .ok (.getfield 26, 3) := by decide +kernel
theorem dX4_takeFell_71 : decode cX4_takeFell 71 = .ok (.getfield 242, 3) := by decide +kernel
theorem dX4_takeFell_74 : decode cX4_takeFell 74 = .ok (.aload_n 0, 1) := by decide +kernel
theorem dX4_takeFell_75 : decode cX4_takeFell 75 = .ok (.getfield 26, 3) := by decide +kernel
theorem dX4_takeFell_78 : decode cX4_takeFell 78 = .ok (.getfield 169, 3) := by decide +kernel
theorem dX4_takeFell_81 : decode cX4_takeFell 81 = .ok (.iload_n 1, 1) := by decide +kernel
theorem dX4_takeFell_82 : decode cX4_takeFell 82 = .ok (.iastore, 1) := by decide +kernel
theorem dX4_takeFell_83 : decode cX4_takeFell 83 = .ok (.aload_n 0, 1) := by decide +kernel
theorem dX4_takeFell_84 : decode cX4_takeFell 84 = .ok (.getfield 26, 3) := by decide +kernel
theorem dX4_takeFell_87 : decode cX4_takeFell 87 = .ok (.getfield 245, 3) := by decide +kernel
theorem dX4_takeFell_90 : decode cX4_takeFell 90 = .ok (.aload_n 0, 1) := by decide +kernel
theorem dX4_takeFell_91 : decode cX4_takeFell 91 = .ok (.getfield 26, 3) := by decide +kernel
theorem dX4_takeFell_94 : decode cX4_takeFell 94 = .ok (.getfield 169, 3) := by decide +kernel
theorem dX4_takeFell_97 : decode cX4_takeFell 97 = .ok (.aload_n 0, 1) := by decide +kernel
theorem dX4_takeFell_98 : decode cX4_takeFell 98 = .ok (.getfield 118, 3) := by decide +kernel
theorem dX4_takeFell_101 : decode cX4_takeFell 101 = .ok (.iastore, 1) := by decide +kernel
theorem dX4_takeFell_102 : decode cX4_takeFell 102 = .ok (.aload_n 0, 1) := by decide +kernel
theorem dX4_takeFell_103 : decode cX4_takeFell 103 = .ok (.getfield 26, 3) := by decide +kernel
theorem dX4_takeFell_106 : decode cX4_takeFell 106 = .ok (.dup, 1) := by decide +kernel
theorem dX4_takeFell_107 : decode cX4_takeFell 107 = .ok (.getfield 169, 3) := by decide +kernel
theorem dX4_takeFell_110 : decode cX4_takeFell 110 = .ok (.iconst 1, 1) := by decide +kernel
theorem dX4_takeFell_111 : decode cX4_takeFell 111 = .ok (.iadd, 1) := by decide +kernel
theorem dX4_takeFell_112 : decode cX4_takeFell 112 = .ok (.putfield 169, 3) := by decide +kernel
theorem dX4_takeFell_115 : decode cX4_takeFell 115 = .ok (.iconst 1, 1) := by decide +kernel
theorem dX4_takeFell_116 : decode cX4_takeFell 116 = .ok (.ireturn, 1) := by decide +kernel
def f_X4_takeFell : am_F := am_th (i_al 0) (am_th (i_ic (0)) (am_th (i_cv 4 1 d_X4_takeQuarrel) (am_br (b_1 (fun x => decide (¬ x = 0))) (am_th (i_al 0) (am_th (i_gi 4 11) (am_th (i_is 1) (am_th (i_al 0) (am_th (i_sg 19) (am_th (i_cv 4 1 d_X4_takeWord) (am_br (b_1 (fun x => decide (¬ x = 0))) (am_th (i_al 0) (am_th (i_gi 4 6) (am_th (i_ic (2)) (am_br (b_2 (fun x y => decide (¬ x = y))) (am_th (i_al 0) (am_th (i_ic (0)) (am_th (i_ic (23)) (am_th (i_cv 4 2 d_X4_takeWhole) (am_br (b_1 (fun x => decide (¬ x = 0))) (am_th (i_al 0) (am_th (i_gr 4 4) (am_th (i_gr 5 15) (am_th (i_al 0) (am_th (i_gr 4 4) (am_th (i_gi 5 6) (am_th (i_il 1) (am_th (i_iS) (am_th (i_al 0) (am_th (i_gr 4 4) (am_th (i_gr 5 16) (am_th (i_al 0) (am_th (i_gr 4 4) (am_th (i_gi 5 6) (am_th (i_al 0) (am_th (i_gi 4 11) (am_th (i_iS) (am_th (i_al 0) (am_th (i_gr 4 4) (am_th (i_dup) (am_th (i_gi 5 6) (am_th (i_ic (1)) (am_th (i_2 (fun x y => x + y)) (am_th (i_pi 5 6) (am_th (i_ic (1)) (r_z)))))))))))))))))))))))))) (am_th (i_ic (0)) (r_z))))))) (am_th (i_al 0) (am_th (i_gr 4 4) (am_th (i_il 1) (am_th (i_al 0) (am_th (i_gi 4 9) (am_th (i_cv 5 2 d_X5_fellAlready) (am_br (b_1 (fun x => decide (x = 0))) (am_th (i_al 0) (am_th (i_ic (0)) (am_th (i_ic (23)) (am_th (i_cv 4 2 d_X4_takeWhole) (am_br (b_1 (fun x => decide (¬ x = 0))) (am_th (i_al 0) (am_th (i_gr 4 4) (am_th (i_gr 5 15) (am_th (i_al 0) (am_th (i_gr 4 4) (am_th (i_gi 5 6) (am_th (i_il 1) (am_th (i_iS) (am_th (i_al 0) (am_th (i_gr 4 4) (am_th (i_gr 5 16) (am_th (i_al 0) (am_th (i_gr 4 4) (am_th (i_gi 5 6) (am_th (i_al 0) (am_th (i_gi 4 11) (am_th (i_iS) (am_th (i_al 0) (am_th (i_gr 4 4) (am_th (i_dup) (am_th (i_gi 5 6) (am_th (i_ic (1)) (am_th (i_2 (fun x y => x + y)) (am_th (i_pi 5 6) (am_th (i_ic (1)) (r_z)))))))))))))))))))))))))) (am_th (i_ic (0)) (r_z))))))) (am_th (i_al 0) (am_th (i_ic (3)) (am_th (i_cv 4 1 d_X4_fail) (r_z))))))))))))))) (am_th (i_ic (0)) (r_z))))))))) (am_th (i_ic (0)) (r_z)))))
def d_X4_takeFell : am_D := am_den 2 f_X4_takeFell
set_option maxHeartbeats 4000000 in
set_option maxRecDepth 100000 in
theorem b_X4_takeFell : am_Body yX4_takeFell cX4_takeFell 2 (some .boolean) 7 148 f_X4_takeFell := by
  intro p l e R s m args below meth c g n0 z0 r0 u0 C hr hn
  have C : am_Cx p l e R s m args below meth c g RX4 cX4_takeFell 2 n0 z0 (am_len u0) (am_wt u0) 7 148 := C
  unfold f_X4_takeFell
  exact (so_th (so_aload_n C dX4_takeFell_0 rfl) (so_th (so_iconst C dX4_takeFell_1 (by decide)) (so_th (so_cv C m_X4_takeQuarrel rfl k_216 k_218 k_217 k_219 k_150 ⟨by decide, by decide, by decide +kernel⟩ (by decide) dX4_takeFell_2) (so_br (so_if_ne C dX4_takeFell_5 (by decide)) (so_th (so_aload_n C dX4_takeFell_10 rfl) (so_th (so_geti C fl_RX4_118 (by decide) dX4_takeFell_11) (so_th (so_istore_n C dX4_takeFell_14 rfl (by decide)) (so_th (so_aload_n C dX4_takeFell_15 rfl) (so_th (so_ldcS C dX4_takeFell_16 (List.mem_of_getElem? (i := 19) rfl)) (so_th (so_cv C m_X4_takeWord rfl k_179 k_181 k_180 k_182 k_150 ⟨by decide, by decide, by decide +kernel⟩ (by decide) dX4_takeFell_18) (so_br (so_if_ne C dX4_takeFell_21 (by decide)) (so_th (so_aload_n C dX4_takeFell_26 rfl) (so_th (so_geti C fl_RX4_55 (by decide) dX4_takeFell_27) (so_th (so_iconst C dX4_takeFell_30 (by decide)) (so_br (so_icmp_ne C dX4_takeFell_31 (by decide)) (so_th (so_aload_n C dX4_takeFell_55 rfl) (so_th (so_iconst C dX4_takeFell_56 (by decide)) (so_th (so_bipush C dX4_takeFell_57 (by decide)) (so_th (so_cv C m_X4_takeWhole rfl k_183 k_185 k_184 k_186 k_150 ⟨by decide, by decide, by decide +kernel⟩ (by decide) dX4_takeFell_59) (so_br (so_if_ne C dX4_takeFell_62 (by decide)) (so_th (so_aload_n C dX4_takeFell_67 rfl) (so_th (so_getr C fl_RX4_26 dX4_takeFell_68) (so_th (so_getr C fl_RX4_242 dX4_takeFell_71) (so_th (so_aload_n C dX4_takeFell_74 rfl) (so_th (so_getr C fl_RX4_26 dX4_takeFell_75) (so_th (so_geti C fl_RX4_169 (by decide) dX4_takeFell_78) (so_th (so_iload_n C dX4_takeFell_81 rfl) (so_th (so_iast C dX4_takeFell_82) (so_th (so_aload_n C dX4_takeFell_83 rfl) (so_th (so_getr C fl_RX4_26 dX4_takeFell_84) (so_th (so_getr C fl_RX4_245 dX4_takeFell_87) (so_th (so_aload_n C dX4_takeFell_90 rfl) (so_th (so_getr C fl_RX4_26 dX4_takeFell_91) (so_th (so_geti C fl_RX4_169 (by decide) dX4_takeFell_94) (so_th (so_aload_n C dX4_takeFell_97 rfl) (so_th (so_geti C fl_RX4_118 (by decide) dX4_takeFell_98) (so_th (so_iast C dX4_takeFell_101) (so_th (so_aload_n C dX4_takeFell_102 rfl) (so_th (so_getr C fl_RX4_26 dX4_takeFell_103) (so_th (so_dup C dX4_takeFell_106) (so_th (so_geti C fl_RX4_169 (by decide) dX4_takeFell_107) (so_th (so_iconst C dX4_takeFell_110 (by decide)) (so_th (so_iadd C dX4_takeFell_111) (so_th (so_puti C fl_RX4_169 fp_5 (Or.inl rfl) dX4_takeFell_112) (so_th (so_iconst C dX4_takeFell_115 (by decide)) (so_rz C hr dX4_takeFell_116)))))))))))))))))))))))))) (so_th (so_iconst C dX4_takeFell_65 (by decide)) (so_rz C hr dX4_takeFell_66))))))) (so_th (so_aload_n C dX4_takeFell_34 rfl) (so_th (so_getr C fl_RX4_26 dX4_takeFell_35) (so_th (so_iload_n C dX4_takeFell_38 rfl) (so_th (so_aload_n C dX4_takeFell_39 rfl) (so_th (so_geti C fl_RX4_80 (by decide) dX4_takeFell_40) (so_th (so_cv C m_X5_fellAlready rfl k_220 k_222 k_221 k_223 k_8 ⟨by decide, by decide, by decide +kernel⟩ (by decide) dX4_takeFell_43) (so_br (so_if_eq C dX4_takeFell_46 (by decide)) (so_th (so_aload_n C dX4_takeFell_55 rfl) (so_th (so_iconst C dX4_takeFell_56 (by decide)) (so_th (so_bipush C dX4_takeFell_57 (by decide)) (so_th (so_cv C m_X4_takeWhole rfl k_183 k_185 k_184 k_186 k_150 ⟨by decide, by decide, by decide +kernel⟩ (by decide) dX4_takeFell_59) (so_br (so_if_ne C dX4_takeFell_62 (by decide)) (so_th (so_aload_n C dX4_takeFell_67 rfl) (so_th (so_getr C fl_RX4_26 dX4_takeFell_68) (so_th (so_getr C fl_RX4_242 dX4_takeFell_71) (so_th (so_aload_n C dX4_takeFell_74 rfl) (so_th (so_getr C fl_RX4_26 dX4_takeFell_75) (so_th (so_geti C fl_RX4_169 (by decide) dX4_takeFell_78) (so_th (so_iload_n C dX4_takeFell_81 rfl) (so_th (so_iast C dX4_takeFell_82) (so_th (so_aload_n C dX4_takeFell_83 rfl) (so_th (so_getr C fl_RX4_26 dX4_takeFell_84) (so_th (so_getr C fl_RX4_245 dX4_takeFell_87) (so_th (so_aload_n C dX4_takeFell_90 rfl) (so_th (so_getr C fl_RX4_26 dX4_takeFell_91) (so_th (so_geti C fl_RX4_169 (by decide) dX4_takeFell_94) (so_th (so_aload_n C dX4_takeFell_97 rfl) (so_th (so_geti C fl_RX4_118 (by decide) dX4_takeFell_98) (so_th (so_iast C dX4_takeFell_101) (so_th (so_aload_n C dX4_takeFell_102 rfl) (so_th (so_getr C fl_RX4_26 dX4_takeFell_103) (so_th (so_dup C dX4_takeFell_106) (so_th (so_geti C fl_RX4_169 (by decide) dX4_takeFell_107) (so_th (so_iconst C dX4_takeFell_110 (by decide)) (so_th (so_iadd C dX4_takeFell_111) (so_th (so_puti C fl_RX4_169 fp_5 (Or.inl rfl) dX4_takeFell_112) (so_th (so_iconst C dX4_takeFell_115 (by decide)) (so_rz C hr dX4_takeFell_116)))))))))))))))))))))))))) (so_th (so_iconst C dX4_takeFell_65 (by decide)) (so_rz C hr dX4_takeFell_66))))))) (so_th (so_aload_n C dX4_takeFell_49 rfl) (so_th (so_iconst C dX4_takeFell_50 (by decide)) (so_th (so_cv C m_X4_fail rfl k_175 k_177 k_176 k_178 k_150 ⟨by decide, by decide, by decide +kernel⟩ (by decide) dX4_takeFell_51) (so_rz C hr dX4_takeFell_54))))))))))))))) (so_th (so_iconst C dX4_takeFell_24 (by decide)) (so_rz C hr dX4_takeFell_25))))))))) (so_th (so_iconst C dX4_takeFell_8 (by decide)) (so_rz C hr dX4_takeFell_9))))))
theorem m_X4_takeFell : am_M yX4_takeFell cX4_takeFell 2 (some .boolean) 7 148 d_X4_takeFell := am_M_of (by decide +kernel) b_X4_takeFell
theorem dX4_takeLine_0 : decode cX4_takeLine 0 = .ok (.aload_n 0, 1) := by decide +kernel
theorem dX4_takeLine_1 : decode cX4_takeLine 1 = .ok (.invokevirtual 124, 3) := by decide +kernel
theorem dX4_takeLine_4 : decode cX4_takeLine 4 = .ok (.istore_n 1, 1) := by decide +kernel
theorem dX4_takeLine_5 : decode cX4_takeLine 5 = .ok (.iload_n 1, 1) := by decide +kernel
theorem dX4_takeLine_6 : decode cX4_takeLine 6 = .ok (.ifCond .ge 9, 3) := by decide +kernel
theorem dX4_takeLine_9 : decode cX4_takeLine 9 = .ok (.aload_n 0, 1) := by decide +kernel
theorem dX4_takeLine_10 : decode cX4_takeLine 10 = .ok (.iconst 1, 1) := by decide +kernel
theorem dX4_takeLine_11 : decode cX4_takeLine 11 = .ok (.invokevirtual 58, 3) := by decide +kernel
theorem dX4_takeLine_14 : decode cX4_takeLine 14 = .ok (.ireturn, 1) := by decide +kernel
theorem dX4_takeLine_15 : decode cX4_takeLine 15 = .ok (.iload_n 1, 1) := by decide +kernel
theorem dX4_takeLine_16 : decode cX4_takeLine 16 = .ok (.ifCond .ne 16, 3) := by decide +kernel
theorem dX4_takeLine_19 : decode cX4_takeLine 19 = .ok (.aload_n 0, 1) := by decide +kernel
theorem dX4_takeLine_20 : decode cX4_takeLine 20 = .ok (.getfield 35, 3) := by decide +kernel
theorem dX4_takeLine_23 : decode cX4_takeLine 23 = .ok (.ifCond .eq 9, 3) := by decide +kernel
theorem dX4_takeLine_26 : decode cX4_takeLine 26 = .ok (.aload_n 0, 1) := by decide +kernel
theorem dX4_takeLine_27 : decode cX4_takeLine 27 = .ok (.iconst 3, 1) := by decide +kernel
theorem dX4_takeLine_28 : decode cX4_takeLine 28 = .ok (.invokevirtual 58, 3) := by decide +kernel
theorem dX4_takeLine_31 : decode cX4_takeLine 31 = .ok (.ireturn, 1) := by decide +kernel
theorem dX4_takeLine_32 : decode cX4_takeLine 32 = .ok (.aload_n 0, 1) := by decide +kernel
theorem dX4_takeLine_33 : decode cX4_takeLine 33 = .ok (.iload_n 1, 1) := by decide +kernel
theorem dX4_takeLine_34 : decode cX4_takeLine 34 = .ok (.invokevirtual 139, 3) := by decide +kernel
theorem dX4_takeLine_37 : decode cX4_takeLine 37 = .ok (.ifCond .eq 9, 3) := by decide +kernel
theorem dX4_takeLine_40 : decode cX4_takeLine 40 = .ok (.aload_n 0, 1) := by decide +kernel
theorem dX4_takeLine_41 : decode cX4_takeLine 41 = .ok (.iconst 5, 1) := by decide +kernel
theorem dX4_takeLine_42 : decode cX4_takeLine 42 = .ok (.invokevirtual 58, 3) := by decide +kernel
theorem dX4_takeLine_45 : decode cX4_takeLine 45 = .ok (.ireturn, 1) := by decide +kernel
theorem dX4_takeLine_46 : decode cX4_takeLine 46 = .ok (.iload_n 1, 1) := by decide +kernel
theorem dX4_takeLine_47 : decode cX4_takeLine 47 = .ok (.ifCond .eq 17, 3) := by decide +kernel
theorem dX4_takeLine_50 : decode cX4_takeLine 50 = .ok (.aload_n 0, 1) := by decide +kernel
theorem dX4_takeLine_51 : decode cX4_takeLine 51 = .ok (.getfield 35, 3) := by decide +kernel
theorem dX4_takeLine_54 : decode cX4_takeLine 54 = .ok (.ifCond .ne 10, 3) := by decide +kernel
theorem dX4_takeLine_57 : decode cX4_takeLine 57 = .ok (.aload_n 0, 1) := by decide +kernel
theorem dX4_takeLine_58 : decode cX4_takeLine 58 = .ok (.bipush 6, 2) := by decide +kernel
theorem dX4_takeLine_60 : decode cX4_takeLine 60 = .ok (.invokevirtual 58, 3) := by decide +kernel
theorem dX4_takeLine_63 : decode cX4_takeLine 63 = .ok (.ireturn, 1) := by decide +kernel
theorem dX4_takeLine_64 : decode cX4_takeLine 64 = .ok (.aload_n 0, 1) := by decide +kernel
theorem dX4_takeLine_65 : decode cX4_takeLine 65 = .ok (.invokevirtual 48, 3) := by decide +kernel
theorem dX4_takeLine_68 : decode cX4_takeLine 68 = .ok (.iload_n 1, 1) := by decide +kernel
theorem dX4_takeLine_69 : decode cX4_takeLine 69 = .ok (.tableswitch 69 0 5 #[39, 44, 49, 54, 59, 64], 39) := by decide +kernel
theorem dX4_takeLine_108 : decode cX4_takeLine 108 = .ok (.aload_n 0, 1) := by decide +kernel
theorem dX4_takeLine_109 : decode cX4_takeLine 109 = .ok (.invokevirtual 142, 3) := by decide +kernel
theorem dX4_takeLine_112 : decode cX4_takeLine 112 = .ok (.ireturn, 1) := by decide +kernel
theorem dX4_takeLine_113 : decode cX4_takeLine 113 = .ok (.aload_n 0, 1) := by decide +kernel
theorem dX4_takeLine_114 : decode cX4_takeLine 114 = .ok (.invokevirtual 145, 3) := by decide +kernel
theorem dX4_takeLine_117 : decode cX4_takeLine 117 = .ok (.ireturn, 1) := by decide +kernel
theorem dX4_takeLine_118 : decode cX4_takeLine 118 = .ok (.aload_n 0, 1) := by decide +kernel
theorem dX4_takeLine_119 : decode cX4_takeLine 119 = .ok (.invokevirtual 148, 3) := by decide +kernel
theorem dX4_takeLine_122 : decode cX4_takeLine 122 = .ok (.ireturn, 1) := by decide +kernel
theorem dX4_takeLine_123 : decode cX4_takeLine 123 = .ok (.aload_n 0, 1) := by decide +kernel
theorem dX4_takeLine_124 : decode cX4_takeLine 124 = .ok (.invokevirtual 151, 3) := by decide +kernel
theorem dX4_takeLine_127 : decode cX4_takeLine 127 = .ok (.ireturn, 1) := by decide +kernel
theorem dX4_takeLine_128 : decode cX4_takeLine 128 = .ok (.aload_n 0, 1) := by decide +kernel
theorem dX4_takeLine_129 : decode cX4_takeLine 129 = .ok (.invokevirtual 154, 3) := by decide +kernel
theorem dX4_takeLine_132 : decode cX4_takeLine 132 = .ok (.ireturn, 1) := by decide +kernel
theorem dX4_takeLine_133 : decode cX4_takeLine 133 = .ok (.aload_n 0, 1) := by decide +kernel
theorem dX4_takeLine_134 : decode cX4_takeLine 134 = .ok (.invokevirtual 157, 3) := by decide +kernel
theorem dX4_takeLine_137 : decode cX4_takeLine 137 = .ok (.ireturn, 1) := by decide +kernel
theorem dX4_takeLine_138 : decode cX4_takeLine 138 = .ok (.aload_n 0, 1) := by decide +kernel
theorem dX4_takeLine_139 : decode cX4_takeLine 139 = .ok (.invokevirtual 160, 3) := by decide +kernel
theorem dX4_takeLine_142 : decode cX4_takeLine 142 = .ok (.ireturn, 1) := by decide +kernel
def f_X4_takeLine : am_F := am_th (i_al 0) (am_th (i_cv 4 0 d_X4_lineAtHand) (am_th (i_is 1) (am_th (i_il 1) (am_br (b_1 (fun x => decide (0 ≤ x))) (am_th (i_il 1) (am_br (b_1 (fun x => decide (¬ x = 0))) (am_th (i_al 0) (am_th (i_il 1) (am_th (i_cv 4 1 d_X4_isFull) (am_br (b_1 (fun x => decide (x = 0))) (am_th (i_il 1) (am_br (b_1 (fun x => decide (x = 0))) (am_th (i_al 0) (am_th (i_cv 4 0 d_X4_readToken) (am_th (i_il 1) (am_sw (0) [am_th (i_al 0) (am_th (i_cv 4 0 d_X4_takeValley) (r_z)), am_th (i_al 0) (am_th (i_cv 4 0 d_X4_takeFamilyLine) (r_z)), am_th (i_al 0) (am_th (i_cv 4 0 d_X4_takeQuarrelLine) (r_z)), am_th (i_al 0) (am_th (i_cv 4 0 d_X4_takeLaw) (r_z)), am_th (i_al 0) (am_th (i_cv 4 0 d_X4_takeDeed) (r_z)), am_th (i_al 0) (am_th (i_cv 4 0 d_X4_takePot) (r_z))] (am_th (i_al 0) (am_th (i_cv 4 0 d_X4_takeFell) (r_z))))))) (am_th (i_al 0) (am_th (i_gi 4 5) (am_br (b_1 (fun x => decide (¬ x = 0))) (am_th (i_al 0) (am_th (i_cv 4 0 d_X4_readToken) (am_th (i_il 1) (am_sw (0) [am_th (i_al 0) (am_th (i_cv 4 0 d_X4_takeValley) (r_z)), am_th (i_al 0) (am_th (i_cv 4 0 d_X4_takeFamilyLine) (r_z)), am_th (i_al 0) (am_th (i_cv 4 0 d_X4_takeQuarrelLine) (r_z)), am_th (i_al 0) (am_th (i_cv 4 0 d_X4_takeLaw) (r_z)), am_th (i_al 0) (am_th (i_cv 4 0 d_X4_takeDeed) (r_z)), am_th (i_al 0) (am_th (i_cv 4 0 d_X4_takePot) (r_z))] (am_th (i_al 0) (am_th (i_cv 4 0 d_X4_takeFell) (r_z))))))) (am_th (i_al 0) (am_th (i_ic (6)) (am_th (i_cv 4 1 d_X4_fail) (r_z))))))))) (am_th (i_al 0) (am_th (i_ic (5)) (am_th (i_cv 4 1 d_X4_fail) (r_z)))))))) (am_th (i_al 0) (am_th (i_gi 4 5) (am_br (b_1 (fun x => decide (x = 0))) (am_th (i_al 0) (am_th (i_il 1) (am_th (i_cv 4 1 d_X4_isFull) (am_br (b_1 (fun x => decide (x = 0))) (am_th (i_il 1) (am_br (b_1 (fun x => decide (x = 0))) (am_th (i_al 0) (am_th (i_cv 4 0 d_X4_readToken) (am_th (i_il 1) (am_sw (0) [am_th (i_al 0) (am_th (i_cv 4 0 d_X4_takeValley) (r_z)), am_th (i_al 0) (am_th (i_cv 4 0 d_X4_takeFamilyLine) (r_z)), am_th (i_al 0) (am_th (i_cv 4 0 d_X4_takeQuarrelLine) (r_z)), am_th (i_al 0) (am_th (i_cv 4 0 d_X4_takeLaw) (r_z)), am_th (i_al 0) (am_th (i_cv 4 0 d_X4_takeDeed) (r_z)), am_th (i_al 0) (am_th (i_cv 4 0 d_X4_takePot) (r_z))] (am_th (i_al 0) (am_th (i_cv 4 0 d_X4_takeFell) (r_z))))))) (am_th (i_al 0) (am_th (i_gi 4 5) (am_br (b_1 (fun x => decide (¬ x = 0))) (am_th (i_al 0) (am_th (i_cv 4 0 d_X4_readToken) (am_th (i_il 1) (am_sw (0) [am_th (i_al 0) (am_th (i_cv 4 0 d_X4_takeValley) (r_z)), am_th (i_al 0) (am_th (i_cv 4 0 d_X4_takeFamilyLine) (r_z)), am_th (i_al 0) (am_th (i_cv 4 0 d_X4_takeQuarrelLine) (r_z)), am_th (i_al 0) (am_th (i_cv 4 0 d_X4_takeLaw) (r_z)), am_th (i_al 0) (am_th (i_cv 4 0 d_X4_takeDeed) (r_z)), am_th (i_al 0) (am_th (i_cv 4 0 d_X4_takePot) (r_z))] (am_th (i_al 0) (am_th (i_cv 4 0 d_X4_takeFell) (r_z))))))) (am_th (i_al 0) (am_th (i_ic (6)) (am_th (i_cv 4 1 d_X4_fail) (r_z))))))))) (am_th (i_al 0) (am_th (i_ic (5)) (am_th (i_cv 4 1 d_X4_fail) (r_z)))))))) (am_th (i_al 0) (am_th (i_ic (3)) (am_th (i_cv 4 1 d_X4_fail) (r_z))))))))) (am_th (i_al 0) (am_th (i_ic (1)) (am_th (i_cv 4 1 d_X4_fail) (r_z))))))))
def d_X4_takeLine : am_D := am_den 2 f_X4_takeLine
set_option maxHeartbeats 4000000 in
set_option maxRecDepth 100000 in
theorem b_X4_takeLine : am_Body yX4_takeLine cX4_takeLine 2 (some .boolean) 8 171 f_X4_takeLine := by
  intro p l e R s m args below meth c g n0 z0 r0 u0 C hr hn
  have C : am_Cx p l e R s m args below meth c g RX4 cX4_takeLine 2 n0 z0 (am_len u0) (am_wt u0) 8 171 := C
  unfold f_X4_takeLine
  exact (so_th (so_aload_n C dX4_takeLine_0 rfl) (so_th (so_cv C m_X4_lineAtHand rfl k_187 k_189 k_188 k_190 k_150 ⟨by decide, by decide, by decide +kernel⟩ (by decide) dX4_takeLine_1) (so_th (so_istore_n C dX4_takeLine_4 rfl (by decide)) (so_th (so_iload_n C dX4_takeLine_5 rfl) (so_br (so_if_ge C dX4_takeLine_6 (by decide)) (so_th (so_iload_n C dX4_takeLine_15 rfl) (so_br (so_if_ne C dX4_takeLine_16 (by decide)) (so_th (so_aload_n C dX4_takeLine_32 rfl) (so_th (so_iload_n C dX4_takeLine_33 rfl) (so_th (so_cv C m_X4_isFull rfl k_224 k_226 k_225 k_227 k_150 ⟨by decide, by decide, by decide +kernel⟩ (by decide) dX4_takeLine_34) (so_br (so_if_eq C dX4_takeLine_37 (by decide)) (so_th (so_iload_n C dX4_takeLine_46 rfl) (so_br (so_if_eq C dX4_takeLine_47 (by decide)) (so_th (so_aload_n C dX4_takeLine_64 rfl) (so_th (so_cv C m_X4_readToken rfl k_171 k_173 k_172 k_174 k_150 ⟨by decide, by decide, by decide +kernel⟩ (by decide) dX4_takeLine_65) (so_th (so_iload_n C dX4_takeLine_68 rfl) (so_sw C dX4_takeLine_69 rfl (by decide) (td := 138) (by decide) (so_th (so_aload_n C dX4_takeLine_138 rfl) (so_th (so_cv C m_X4_takeFell rfl k_252 k_254 k_253 k_255 k_150 ⟨by decide, by decide, by decide +kernel⟩ (by decide) dX4_takeLine_139) (so_rz C hr dX4_takeLine_142))) (fun k f hk => match k, hk with
      | 0, hk => ⟨(39), 108, rfl, by decide, (Option.some.inj hk) ▸ (so_th (so_aload_n C dX4_takeLine_108 rfl) (so_th (so_cv C m_X4_takeValley rfl k_228 k_230 k_229 k_231 k_150 ⟨by decide, by decide, by decide +kernel⟩ (by decide) dX4_takeLine_109) (so_rz C hr dX4_takeLine_112)))⟩
      | 1, hk => ⟨(44), 113, rfl, by decide, (Option.some.inj hk) ▸ (so_th (so_aload_n C dX4_takeLine_113 rfl) (so_th (so_cv C m_X4_takeFamilyLine rfl k_232 k_234 k_233 k_235 k_150 ⟨by decide, by decide, by decide +kernel⟩ (by decide) dX4_takeLine_114) (so_rz C hr dX4_takeLine_117)))⟩
      | 2, hk => ⟨(49), 118, rfl, by decide, (Option.some.inj hk) ▸ (so_th (so_aload_n C dX4_takeLine_118 rfl) (so_th (so_cv C m_X4_takeQuarrelLine rfl k_236 k_238 k_237 k_239 k_150 ⟨by decide, by decide, by decide +kernel⟩ (by decide) dX4_takeLine_119) (so_rz C hr dX4_takeLine_122)))⟩
      | 3, hk => ⟨(54), 123, rfl, by decide, (Option.some.inj hk) ▸ (so_th (so_aload_n C dX4_takeLine_123 rfl) (so_th (so_cv C m_X4_takeLaw rfl k_240 k_242 k_241 k_243 k_150 ⟨by decide, by decide, by decide +kernel⟩ (by decide) dX4_takeLine_124) (so_rz C hr dX4_takeLine_127)))⟩
      | 4, hk => ⟨(59), 128, rfl, by decide, (Option.some.inj hk) ▸ (so_th (so_aload_n C dX4_takeLine_128 rfl) (so_th (so_cv C m_X4_takeDeed rfl k_244 k_246 k_245 k_247 k_150 ⟨by decide, by decide, by decide +kernel⟩ (by decide) dX4_takeLine_129) (so_rz C hr dX4_takeLine_132)))⟩
      | 5, hk => ⟨(64), 133, rfl, by decide, (Option.some.inj hk) ▸ (so_th (so_aload_n C dX4_takeLine_133 rfl) (so_th (so_cv C m_X4_takePot rfl k_248 k_250 k_249 k_251 k_150 ⟨by decide, by decide, by decide +kernel⟩ (by decide) dX4_takeLine_134) (so_rz C hr dX4_takeLine_137)))⟩
      | k + 6, hk => by simp at hk))))) (so_th (so_aload_n C dX4_takeLine_50 rfl) (so_th (so_geti C fl_RX4_35 (by decide) dX4_takeLine_51) (so_br (so_if_ne C dX4_takeLine_54 (by decide)) (so_th (so_aload_n C dX4_takeLine_64 rfl) (so_th (so_cv C m_X4_readToken rfl k_171 k_173 k_172 k_174 k_150 ⟨by decide, by decide, by decide +kernel⟩ (by decide) dX4_takeLine_65) (so_th (so_iload_n C dX4_takeLine_68 rfl) (so_sw C dX4_takeLine_69 rfl (by decide) (td := 138) (by decide) (so_th (so_aload_n C dX4_takeLine_138 rfl) (so_th (so_cv C m_X4_takeFell rfl k_252 k_254 k_253 k_255 k_150 ⟨by decide, by decide, by decide +kernel⟩ (by decide) dX4_takeLine_139) (so_rz C hr dX4_takeLine_142))) (fun k f hk => match k, hk with
      | 0, hk => ⟨(39), 108, rfl, by decide, (Option.some.inj hk) ▸ (so_th (so_aload_n C dX4_takeLine_108 rfl) (so_th (so_cv C m_X4_takeValley rfl k_228 k_230 k_229 k_231 k_150 ⟨by decide, by decide, by decide +kernel⟩ (by decide) dX4_takeLine_109) (so_rz C hr dX4_takeLine_112)))⟩
      | 1, hk => ⟨(44), 113, rfl, by decide, (Option.some.inj hk) ▸ (so_th (so_aload_n C dX4_takeLine_113 rfl) (so_th (so_cv C m_X4_takeFamilyLine rfl k_232 k_234 k_233 k_235 k_150 ⟨by decide, by decide, by decide +kernel⟩ (by decide) dX4_takeLine_114) (so_rz C hr dX4_takeLine_117)))⟩
      | 2, hk => ⟨(49), 118, rfl, by decide, (Option.some.inj hk) ▸ (so_th (so_aload_n C dX4_takeLine_118 rfl) (so_th (so_cv C m_X4_takeQuarrelLine rfl k_236 k_238 k_237 k_239 k_150 ⟨by decide, by decide, by decide +kernel⟩ (by decide) dX4_takeLine_119) (so_rz C hr dX4_takeLine_122)))⟩
      | 3, hk => ⟨(54), 123, rfl, by decide, (Option.some.inj hk) ▸ (so_th (so_aload_n C dX4_takeLine_123 rfl) (so_th (so_cv C m_X4_takeLaw rfl k_240 k_242 k_241 k_243 k_150 ⟨by decide, by decide, by decide +kernel⟩ (by decide) dX4_takeLine_124) (so_rz C hr dX4_takeLine_127)))⟩
      | 4, hk => ⟨(59), 128, rfl, by decide, (Option.some.inj hk) ▸ (so_th (so_aload_n C dX4_takeLine_128 rfl) (so_th (so_cv C m_X4_takeDeed rfl k_244 k_246 k_245 k_247 k_150 ⟨by decide, by decide, by decide +kernel⟩ (by decide) dX4_takeLine_129) (so_rz C hr dX4_takeLine_132)))⟩
      | 5, hk => ⟨(64), 133, rfl, by decide, (Option.some.inj hk) ▸ (so_th (so_aload_n C dX4_takeLine_133 rfl) (so_th (so_cv C m_X4_takePot rfl k_248 k_250 k_249 k_251 k_150 ⟨by decide, by decide, by decide +kernel⟩ (by decide) dX4_takeLine_134) (so_rz C hr dX4_takeLine_137)))⟩
      | k + 6, hk => by simp at hk))))) (so_th (so_aload_n C dX4_takeLine_57 rfl) (so_th (so_bipush C dX4_takeLine_58 (by decide)) (so_th (so_cv C m_X4_fail rfl k_175 k_177 k_176 k_178 k_150 ⟨by decide, by decide, by decide +kernel⟩ (by decide) dX4_takeLine_60) (so_rz C hr dX4_takeLine_63))))))))) (so_th (so_aload_n C dX4_takeLine_40 rfl) (so_th (so_iconst C dX4_takeLine_41 (by decide)) (so_th (so_cv C m_X4_fail rfl k_175 k_177 k_176 k_178 k_150 ⟨by decide, by decide, by decide +kernel⟩ (by decide) dX4_takeLine_42) (so_rz C hr dX4_takeLine_45)))))))) (so_th (so_aload_n C dX4_takeLine_19 rfl) (so_th (so_geti C fl_RX4_35 (by decide) dX4_takeLine_20) (so_br (so_if_eq C dX4_takeLine_23 (by decide)) (so_th (so_aload_n C dX4_takeLine_32 rfl) (so_th (so_iload_n C dX4_takeLine_33 rfl) (so_th (so_cv C m_X4_isFull rfl k_224 k_226 k_225 k_227 k_150 ⟨by decide, by decide, by decide +kernel⟩ (by decide) dX4_takeLine_34) (so_br (so_if_eq C dX4_takeLine_37 (by decide)) (so_th (so_iload_n C dX4_takeLine_46 rfl) (so_br (so_if_eq C dX4_takeLine_47 (by decide)) (so_th (so_aload_n C dX4_takeLine_64 rfl) (so_th (so_cv C m_X4_readToken rfl k_171 k_173 k_172 k_174 k_150 ⟨by decide, by decide, by decide +kernel⟩ (by decide) dX4_takeLine_65) (so_th (so_iload_n C dX4_takeLine_68 rfl) (so_sw C dX4_takeLine_69 rfl (by decide) (td := 138) (by decide) (so_th (so_aload_n C dX4_takeLine_138 rfl) (so_th (so_cv C m_X4_takeFell rfl k_252 k_254 k_253 k_255 k_150 ⟨by decide, by decide, by decide +kernel⟩ (by decide) dX4_takeLine_139) (so_rz C hr dX4_takeLine_142))) (fun k f hk => match k, hk with
      | 0, hk => ⟨(39), 108, rfl, by decide, (Option.some.inj hk) ▸ (so_th (so_aload_n C dX4_takeLine_108 rfl) (so_th (so_cv C m_X4_takeValley rfl k_228 k_230 k_229 k_231 k_150 ⟨by decide, by decide, by decide +kernel⟩ (by decide) dX4_takeLine_109) (so_rz C hr dX4_takeLine_112)))⟩
      | 1, hk => ⟨(44), 113, rfl, by decide, (Option.some.inj hk) ▸ (so_th (so_aload_n C dX4_takeLine_113 rfl) (so_th (so_cv C m_X4_takeFamilyLine rfl k_232 k_234 k_233 k_235 k_150 ⟨by decide, by decide, by decide +kernel⟩ (by decide) dX4_takeLine_114) (so_rz C hr dX4_takeLine_117)))⟩
      | 2, hk => ⟨(49), 118, rfl, by decide, (Option.some.inj hk) ▸ (so_th (so_aload_n C dX4_takeLine_118 rfl) (so_th (so_cv C m_X4_takeQuarrelLine rfl k_236 k_238 k_237 k_239 k_150 ⟨by decide, by decide, by decide +kernel⟩ (by decide) dX4_takeLine_119) (so_rz C hr dX4_takeLine_122)))⟩
      | 3, hk => ⟨(54), 123, rfl, by decide, (Option.some.inj hk) ▸ (so_th (so_aload_n C dX4_takeLine_123 rfl) (so_th (so_cv C m_X4_takeLaw rfl k_240 k_242 k_241 k_243 k_150 ⟨by decide, by decide, by decide +kernel⟩ (by decide) dX4_takeLine_124) (so_rz C hr dX4_takeLine_127)))⟩
      | 4, hk => ⟨(59), 128, rfl, by decide, (Option.some.inj hk) ▸ (so_th (so_aload_n C dX4_takeLine_128 rfl) (so_th (so_cv C m_X4_takeDeed rfl k_244 k_246 k_245 k_247 k_150 ⟨by decide, by decide, by decide +kernel⟩ (by decide) dX4_takeLine_129) (so_rz C hr dX4_takeLine_132)))⟩
      | 5, hk => ⟨(64), 133, rfl, by decide, (Option.some.inj hk) ▸ (so_th (so_aload_n C dX4_takeLine_133 rfl) (so_th (so_cv C m_X4_takePot rfl k_248 k_250 k_249 k_251 k_150 ⟨by decide, by decide, by decide +kernel⟩ (by decide) dX4_takeLine_134) (so_rz C hr dX4_takeLine_137)))⟩
      | k + 6, hk => by simp at hk))))) (so_th (so_aload_n C dX4_takeLine_50 rfl) (so_th (so_geti C fl_RX4_35 (by decide) dX4_takeLine_51) (so_br (so_if_ne C dX4_takeLine_54 (by decide)) (so_th (so_aload_n C dX4_takeLine_64 rfl) (so_th (so_cv C m_X4_readToken rfl k_171 k_173 k_172 k_174 k_150 ⟨by decide, by decide, by decide +kernel⟩ (by decide) dX4_takeLine_65) (so_th (so_iload_n C dX4_takeLine_68 rfl) (so_sw C dX4_takeLine_69 rfl (by decide) (td := 138) (by decide) (so_th (so_aload_n C dX4_takeLine_138 rfl) (so_th (so_cv C m_X4_takeFell rfl k_252 k_254 k_253 k_255 k_150 ⟨by decide, by decide, by decide +kernel⟩ (by decide) dX4_takeLine_139) (so_rz C hr dX4_takeLine_142))) (fun k f hk => match k, hk with
      | 0, hk => ⟨(39), 108, rfl, by decide, (Option.some.inj hk) ▸ (so_th (so_aload_n C dX4_takeLine_108 rfl) (so_th (so_cv C m_X4_takeValley rfl k_228 k_230 k_229 k_231 k_150 ⟨by decide, by decide, by decide +kernel⟩ (by decide) dX4_takeLine_109) (so_rz C hr dX4_takeLine_112)))⟩
      | 1, hk => ⟨(44), 113, rfl, by decide, (Option.some.inj hk) ▸ (so_th (so_aload_n C dX4_takeLine_113 rfl) (so_th (so_cv C m_X4_takeFamilyLine rfl k_232 k_234 k_233 k_235 k_150 ⟨by decide, by decide, by decide +kernel⟩ (by decide) dX4_takeLine_114) (so_rz C hr dX4_takeLine_117)))⟩
      | 2, hk => ⟨(49), 118, rfl, by decide, (Option.some.inj hk) ▸ (so_th (so_aload_n C dX4_takeLine_118 rfl) (so_th (so_cv C m_X4_takeQuarrelLine rfl k_236 k_238 k_237 k_239 k_150 ⟨by decide, by decide, by decide +kernel⟩ (by decide) dX4_takeLine_119) (so_rz C hr dX4_takeLine_122)))⟩
      | 3, hk => ⟨(54), 123, rfl, by decide, (Option.some.inj hk) ▸ (so_th (so_aload_n C dX4_takeLine_123 rfl) (so_th (so_cv C m_X4_takeLaw rfl k_240 k_242 k_241 k_243 k_150 ⟨by decide, by decide, by decide +kernel⟩ (by decide) dX4_takeLine_124) (so_rz C hr dX4_takeLine_127)))⟩
      | 4, hk => ⟨(59), 128, rfl, by decide, (Option.some.inj hk) ▸ (so_th (so_aload_n C dX4_takeLine_128 rfl) (so_th (so_cv C m_X4_takeDeed rfl k_244 k_246 k_245 k_247 k_150 ⟨by decide, by decide, by decide +kernel⟩ (by decide) dX4_takeLine_129) (so_rz C hr dX4_takeLine_132)))⟩
      | 5, hk => ⟨(64), 133, rfl, by decide, (Option.some.inj hk) ▸ (so_th (so_aload_n C dX4_takeLine_133 rfl) (so_th (so_cv C m_X4_takePot rfl k_248 k_250 k_249 k_251 k_150 ⟨by decide, by decide, by decide +kernel⟩ (by decide) dX4_takeLine_134) (so_rz C hr dX4_takeLine_137)))⟩
      | k + 6, hk => by simp at hk))))) (so_th (so_aload_n C dX4_takeLine_57 rfl) (so_th (so_bipush C dX4_takeLine_58 (by decide)) (so_th (so_cv C m_X4_fail rfl k_175 k_177 k_176 k_178 k_150 ⟨by decide, by decide, by decide +kernel⟩ (by decide) dX4_takeLine_60) (so_rz C hr dX4_takeLine_63))))))))) (so_th (so_aload_n C dX4_takeLine_40 rfl) (so_th (so_iconst C dX4_takeLine_41 (by decide)) (so_th (so_cv C m_X4_fail rfl k_175 k_177 k_176 k_178 k_150 ⟨by decide, by decide, by decide +kernel⟩ (by decide) dX4_takeLine_42) (so_rz C hr dX4_takeLine_45)))))))) (so_th (so_aload_n C dX4_takeLine_26 rfl) (so_th (so_iconst C dX4_takeLine_27 (by decide)) (so_th (so_cv C m_X4_fail rfl k_175 k_177 k_176 k_178 k_150 ⟨by decide, by decide, by decide +kernel⟩ (by decide) dX4_takeLine_28) (so_rz C hr dX4_takeLine_31))))))))) (so_th (so_aload_n C dX4_takeLine_9 rfl) (so_th (so_iconst C dX4_takeLine_10 (by decide)) (so_th (so_cv C m_X4_fail rfl k_175 k_177 k_176 k_178 k_150 ⟨by decide, by decide, by decide +kernel⟩ (by decide) dX4_takeLine_11) (so_rz C hr dX4_takeLine_14)))))))))
theorem m_X4_takeLine : am_M yX4_takeLine cX4_takeLine 2 (some .boolean) 8 171 d_X4_takeLine := am_M_of (by decide +kernel) b_X4_takeLine
theorem dX4_readValley_0 : decode cX4_readValley 0 = .ok (.aload_n 0, 1) := by decide +kernel
theorem dX4_readValley_1 : decode cX4_readValley 1 = .ok (.aload_n 1, 1) := by decide +kernel
theorem dX4_readValley_2 : decode cX4_readValley 2 = .ok (.putfield 18, 3) := by decide +kernel
theorem dX4_readValley_5 : decode cX4_readValley 5 = .ok (.aload_n 0, 1) := by decide +kernel
theorem dX4_readValley_6 : decode cX4_readValley 6 = .ok (.iload_n 2, 1) := by decide +kernel
theorem dX4_readValley_7 : decode cX4_readValley 7 = .ok (.putfield 22, 3) := by decide +kernel
theorem dX4_readValley_10 : decode cX4_readValley 10 = .ok (.aload_n 0, 1) := by decide +kernel
theorem dX4_readValley_11 : decode cX4_readValley 11 = .ok (.aload_n 3, 1) := by decide +kernel
theorem dX4_readValley_12 : decode cX4_readValley 12 = .ok (.putfield 26, 3) := by decide +kernel
theorem dX4_readValley_15 : decode cX4_readValley 15 = .ok (.aload_n 3, 1) := by decide +kernel
theorem dX4_readValley_16 : decode cX4_readValley 16 = .ok (.invokevirtual 30, 3) := by decide +kernel
theorem dX4_readValley_19 : decode cX4_readValley 19 = .ok (.aload_n 0, 1) := by decide +kernel
theorem dX4_readValley_20 : decode cX4_readValley 20 = .ok (.iconst 0, 1) := by decide +kernel
theorem dX4_readValley_21 : decode cX4_readValley 21 = .ok (.putfield 35, 3) := by decide +kernel
theorem dX4_readValley_24 : decode cX4_readValley 24 = .ok (.aload_n 0, 1) := by decide +kernel
theorem dX4_readValley_25 : decode cX4_readValley 25 = .ok (.iconst 0, 1) := by decide +kernel
theorem dX4_readValley_26 : decode cX4_readValley 26 = .ok (.putfield 39, 3) := by decide +kernel
theorem dX4_readValley_29 : decode cX4_readValley 29 = .ok (.aload_n 0, 1) := by decide +kernel
theorem dX4_readValley_30 : decode cX4_readValley 30 = .ok (.iconst 0, 1) := by decide +kernel
theorem dX4_readValley_31 : decode cX4_readValley 31 = .ok (.putfield 42, 3) := by decide +kernel
theorem dX4_readValley_34 : decode cX4_readValley 34 = .ok (.aload_n 0, 1) := by decide +kernel
theorem dX4_readValley_35 : decode cX4_readValley 35 = .ok (.iconst 0, 1) := by decide +kernel
theorem dX4_readValley_36 : decode cX4_readValley 36 = .ok (.putfield 45, 3) := by decide +kernel
theorem dX4_readValley_39 : decode cX4_readValley 39 = .ok (.aload_n 0, 1) := by decide +kernel
theorem dX4_readValley_40 : decode cX4_readValley 40 = .ok (.invokevirtual 48, 3) := by decide +kernel
theorem dX4_readValley_43 : decode cX4_readValley 43 = .ok (.aload_n 0, 1) := by decide +kernel
theorem dX4_readValley_44 : decode cX4_readValley 44 = .ok (.invokevirtual 51, 3) := by decide +kernel
theorem dX4_readValley_47 : decode cX4_readValley 47 = .ok (.istore 4, 2) := by decide +kernel
theorem dX4_readValley_49 : decode cX4_readValley 49 = .ok (.iconst 0, 1) := by decide +kernel
theorem dX4_readValley_50 : decode cX4_readValley 50 = .ok (.istore 5, 2) := by decide +kernel
theorem dX4_readValley_52 : decode cX4_readValley 52 = .ok (.iload 5, 2) := by decide +kernel
theorem dX4_readValley_54 : decode cX4_readValley 54 = .ok (.sipush 900, 3) := by decide +kernel
theorem dX4_readValley_57 : decode cX4_readValley 57 = .ok (.if_icmp .ge 32, 3) := by decide +kernel
theorem dX4_readValley_60 : decode cX4_readValley 60 = .ok (.iload 4, 2) := by decide +kernel
theorem dX4_readValley_62 : decode cX4_readValley 62 = .ok (.ifCond .eq 27, 3) := by decide +kernel
theorem dX4_readValley_65 : decode cX4_readValley 65 = .ok (.aload_n 0, 1) := by decide +kernel
theorem dX4_readValley_66 : decode cX4_readValley 66 = .ok (.getfield 55, 3) := by decide +kernel
theorem dX4_readValley_69 : decode cX4_readValley 69 = .ok (.iconst 3, 1) := by decide +kernel
theorem dX4_readValley_70 : decode cX4_readValley 70 = .ok (.if_icmp .ne 19, 3) := by decide +kernel
theorem dX4_readValley_73 : decode cX4_readValley 73 = .ok (.aload_n 0, 1) := by decide +kernel
theorem dX4_readValley_74 : decode cX4_readValley 74 = .ok (.invokevirtual 48, 3) := by decide +kernel
theorem dX4_readValley_77 : decode cX4_readValley 77 = .ok (.aload_n 0, 1) := by decide +kernel
theorem dX4_readValley_78 : decode cX4_readValley 78 = .ok (.invokevirtual 51, 3) := by decide +kernel
theorem dX4_readValley_81 : decode cX4_readValley 81 = .ok (.istore 4, 2) := by decide +kernel
theorem dX4_readValley_83 : decode cX4_readValley 83 = .ok (.iinc 5 1, 3) := by decide +kernel
theorem dX4_readValley_86 : decode cX4_readValley 86 = .ok (.goto (-34), 3) := by decide +kernel
theorem dX4_readValley_89 : decode cX4_readValley 89 = .ok (.iload 4, 2) := by decide +kernel
theorem dX4_readValley_91 : decode cX4_readValley 91 = .ok (.ifCond .eq 17, 3) := by decide +kernel
theorem dX4_readValley_94 : decode cX4_readValley 94 = .ok (.aload_n 0, 1) := by decide +kernel
theorem dX4_readValley_95 : decode cX4_readValley 95 = .ok (.getfield 55, 3) := by decide +kernel
theorem dX4_readValley_98 : decode cX4_readValley 98 = .ok (.ifCond .eq 10, 3) := by decide +kernel
theorem dX4_readValley_101 : decode cX4_readValley 101 = .ok (.aload_n 0, 1) := by decide +kernel
theorem dX4_readValley_102 : decode cX4_readValley 102 = .ok (.iconst 1, 1) := by decide +kernel
theorem dX4_readValley_103 : decode cX4_readValley 103 = .ok (.invokevirtual 58, 3) := by decide +kernel
theorem dX4_readValley_106 : decode cX4_readValley 106 = .ok (.istore 4, 2) := by decide +kernel
theorem dX4_readValley_108 : decode cX4_readValley 108 = .ok (.iload 4, 2) := by decide +kernel
theorem dX4_readValley_110 : decode cX4_readValley 110 = .ok (.ifCond .eq 21, 3) := by decide +kernel
theorem dX4_readValley_113 : decode cX4_readValley 113 = .ok (.aload_n 0, 1) := by decide +kernel
theorem dX4_readValley_114 : decode cX4_readValley 114 = .ok (.getfield 26, 3) := by decide +kernel
theorem dX4_readValley_117 : decode cX4_readValley 117 = .ok (.getfield 62, 3) := by decide +kernel
theorem dX4_readValley_120 : decode cX4_readValley 120 = .ok (.ifCond .ne 11, 3) := by decide +kernel
theorem dX4_readValley_123 : decode cX4_readValley 123 = .ok (.aload_n 0, 1) := by decide +kernel
theorem dX4_readValley_124 : decode cX4_readValley 124 = .ok (.bipush 6, 2) := by decide +kernel
theorem dX4_readValley_126 : decode cX4_readValley 126 = .ok (.invokevirtual 58, 3) := by decide +kernel
theorem dX4_readValley_129 : decode cX4_readValley 129 = .ok (.istore 4, 2) := by decide +kernel
theorem dX4_readValley_131 : decode cX4_readValley 131 = .ok (.iload 4, 2) := by decide +kernel
theorem dX4_readValley_133 : decode cX4_readValley 133 = .ok (.ireturn, 1) := by decide +kernel
def f_X4_readValley_l52 : am_F := am_th (i_il 5) (am_th (i_ic (900)) (am_br (b_2 (fun x y => decide (y ≤ x))) (am_to 89) (am_th (i_il 4) (am_br (b_1 (fun x => decide (x = 0))) (am_to 89) (am_th (i_al 0) (am_th (i_gi 4 6) (am_th (i_ic (3)) (am_br (b_2 (fun x y => decide (¬ x = y))) (am_to 89) (am_th (i_al 0) (am_th (i_cv 4 0 d_X4_readToken) (am_th (i_al 0) (am_th (i_cv 4 0 d_X4_takeLine) (am_th (i_is 4) (am_th (i_inc 5 (1)) (am_to 52)))))))))))))))
def f_X4_readValley : am_F := am_th (i_al 0) (am_th (i_al 1) (am_th (i_pr 4 2) (am_th (i_al 0) (am_th (i_il 2) (am_th (i_pi 4 3) (am_th (i_al 0) (am_th (i_al 3) (am_th (i_pr 4 4) (am_th (i_al 3) (am_th (i_cv 5 0 d_X5_empty) (am_th (i_al 0) (am_th (i_ic (0)) (am_th (i_pz 4 5) (am_th (i_al 0) (am_th (i_ic (0)) (am_th (i_pi 4 0) (am_th (i_al 0) (am_th (i_ic (0)) (am_th (i_pi 4 1) (am_th (i_al 0) (am_th (i_ic (0)) (am_th (i_pi 4 8) (am_th (i_al 0) (am_th (i_cv 4 0 d_X4_readToken) (am_th (i_al 0) (am_th (i_cv 4 0 d_X4_takeLine) (am_th (i_is 4) (am_th (i_ic (0)) (am_th (i_is 5) (am_sq 89 (am_lp 5000 52 f_X4_readValley_l52) (am_th (i_il 4) (am_br (b_1 (fun x => decide (x = 0))) (am_th (i_il 4) (am_br (b_1 (fun x => decide (x = 0))) (am_th (i_il 4) (r_z)) (am_th (i_al 0) (am_th (i_gr 4 4) (am_th (i_gi 5 3) (am_br (b_1 (fun x => decide (¬ x = 0))) (am_th (i_il 4) (r_z)) (am_th (i_al 0) (am_th (i_ic (6)) (am_th (i_cv 4 1 d_X4_fail) (am_th (i_is 4) (am_th (i_il 4) (r_z)))))))))))) (am_th (i_al 0) (am_th (i_gi 4 6) (am_br (b_1 (fun x => decide (x = 0))) (am_th (i_il 4) (am_br (b_1 (fun x => decide (x = 0))) (am_th (i_il 4) (r_z)) (am_th (i_al 0) (am_th (i_gr 4 4) (am_th (i_gi 5 3) (am_br (b_1 (fun x => decide (¬ x = 0))) (am_th (i_il 4) (r_z)) (am_th (i_al 0) (am_th (i_ic (6)) (am_th (i_cv 4 1 d_X4_fail) (am_th (i_is 4) (am_th (i_il 4) (r_z)))))))))))) (am_th (i_al 0) (am_th (i_ic (1)) (am_th (i_cv 4 1 d_X4_fail) (am_th (i_is 4) (am_th (i_il 4) (am_br (b_1 (fun x => decide (x = 0))) (am_th (i_il 4) (r_z)) (am_th (i_al 0) (am_th (i_gr 4 4) (am_th (i_gi 5 3) (am_br (b_1 (fun x => decide (¬ x = 0))) (am_th (i_il 4) (r_z)) (am_th (i_al 0) (am_th (i_ic (6)) (am_th (i_cv 4 1 d_X4_fail) (am_th (i_is 4) (am_th (i_il 4) (r_z)))))))))))))))))))))))))))))))))))))))))))))))))))
def d_X4_readValley : am_D := am_den 6 f_X4_readValley
set_option maxHeartbeats 4000000 in
set_option maxRecDepth 100000 in
theorem b_X4_readValley : am_Body yX4_readValley cX4_readValley 6 (some .boolean) 9 192 f_X4_readValley := by
  intro p l e R s m args below meth c g n0 z0 r0 u0 C hr hn
  have C : am_Cx p l e R s m args below meth c g RX4 cX4_readValley 6 n0 z0 (am_len u0) (am_wt u0) 9 192 := C
  have l52 : am_Snd (am_GM p l e R s m args below meth c g 6 n0 z0 r0 u0) (am_Rt r0 u0) 52 (f_X4_readValley_l52) := by
    unfold f_X4_readValley_l52
    exact (so_th (so_iload C dX4_readValley_52) (so_th (so_sipush C dX4_readValley_54 (by decide)) (so_br (so_icmp_ge C dX4_readValley_57 (by decide)) (so_to) (so_th (so_iload C dX4_readValley_60) (so_br (so_if_eq C dX4_readValley_62 (by decide)) (so_to) (so_th (so_aload_n C dX4_readValley_65 rfl) (so_th (so_geti C fl_RX4_55 (by decide) dX4_readValley_66) (so_th (so_iconst C dX4_readValley_69 (by decide)) (so_br (so_icmp_ne C dX4_readValley_70 (by decide)) (so_to) (so_th (so_aload_n C dX4_readValley_73 rfl) (so_th (so_cv C m_X4_readToken rfl k_171 k_173 k_172 k_174 k_150 ⟨by decide, by decide, by decide +kernel⟩ (by decide) dX4_readValley_74) (so_th (so_aload_n C dX4_readValley_77 rfl) (so_th (so_cv C m_X4_takeLine rfl k_260 k_262 k_261 k_263 k_150 ⟨by decide, by decide, by decide +kernel⟩ (by decide) dX4_readValley_78) (so_th (so_istore C dX4_readValley_81 (by decide)) (so_th (so_iinc C dX4_readValley_83 (by decide) (by decide)) (so_goto C dX4_readValley_86 (by decide) (so_to)))))))))))))))))
  unfold f_X4_readValley
  exact (so_th (so_aload_n C dX4_readValley_0 rfl) (so_th (so_aload_n C dX4_readValley_1 rfl) (so_th (so_putr C fl_RX4_18 (Or.inr ⟨_, rfl⟩) fp_4 (Or.inl rfl) dX4_readValley_2) (so_th (so_aload_n C dX4_readValley_5 rfl) (so_th (so_iload_n C dX4_readValley_6 rfl) (so_th (so_puti C fl_RX4_22 fp_4 (Or.inl rfl) dX4_readValley_7) (so_th (so_aload_n C dX4_readValley_10 rfl) (so_th (so_aload_n C dX4_readValley_11 rfl) (so_th (so_putr C fl_RX4_26 (Or.inl ⟨_, rfl⟩) fp_4 (Or.inl rfl) dX4_readValley_12) (so_th (so_aload_n C dX4_readValley_15 rfl) (so_th (so_cv C m_X5_empty rfl k_256 k_258 k_257 k_259 k_8 ⟨by decide, by decide, by decide +kernel⟩ (by decide) dX4_readValley_16) (so_th (so_aload_n C dX4_readValley_19 rfl) (so_th (so_iconst C dX4_readValley_20 (by decide)) (so_th (so_putz C fl_RX4_35 fp_4 (Or.inl rfl) dX4_readValley_21) (so_th (so_aload_n C dX4_readValley_24 rfl) (so_th (so_iconst C dX4_readValley_25 (by decide)) (so_th (so_puti C fl_RX4_39 fp_4 (Or.inl rfl) dX4_readValley_26) (so_th (so_aload_n C dX4_readValley_29 rfl) (so_th (so_iconst C dX4_readValley_30 (by decide)) (so_th (so_puti C fl_RX4_42 fp_4 (Or.inl rfl) dX4_readValley_31) (so_th (so_aload_n C dX4_readValley_34 rfl) (so_th (so_iconst C dX4_readValley_35 (by decide)) (so_th (so_puti C fl_RX4_45 fp_4 (Or.inl rfl) dX4_readValley_36) (so_th (so_aload_n C dX4_readValley_39 rfl) (so_th (so_cv C m_X4_readToken rfl k_171 k_173 k_172 k_174 k_150 ⟨by decide, by decide, by decide +kernel⟩ (by decide) dX4_readValley_40) (so_th (so_aload_n C dX4_readValley_43 rfl) (so_th (so_cv C m_X4_takeLine rfl k_260 k_262 k_261 k_263 k_150 ⟨by decide, by decide, by decide +kernel⟩ (by decide) dX4_readValley_44) (so_th (so_istore C dX4_readValley_47 (by decide)) (so_th (so_iconst C dX4_readValley_49 (by decide)) (so_th (so_istore C dX4_readValley_50 (by decide)) (so_sq (so_lp l52 5000) (so_th (so_iload C dX4_readValley_89) (so_br (so_if_eq C dX4_readValley_91 (by decide)) (so_th (so_iload C dX4_readValley_108) (so_br (so_if_eq C dX4_readValley_110 (by decide)) (so_th (so_iload C dX4_readValley_131) (so_rz C hr dX4_readValley_133)) (so_th (so_aload_n C dX4_readValley_113 rfl) (so_th (so_getr C fl_RX4_26 dX4_readValley_114) (so_th (so_geti C fl_RX4_62 (by decide) dX4_readValley_117) (so_br (so_if_ne C dX4_readValley_120 (by decide)) (so_th (so_iload C dX4_readValley_131) (so_rz C hr dX4_readValley_133)) (so_th (so_aload_n C dX4_readValley_123 rfl) (so_th (so_bipush C dX4_readValley_124 (by decide)) (so_th (so_cv C m_X4_fail rfl k_175 k_177 k_176 k_178 k_150 ⟨by decide, by decide, by decide +kernel⟩ (by decide) dX4_readValley_126) (so_th (so_istore C dX4_readValley_129 (by decide)) (so_th (so_iload C dX4_readValley_131) (so_rz C hr dX4_readValley_133)))))))))))) (so_th (so_aload_n C dX4_readValley_94 rfl) (so_th (so_geti C fl_RX4_55 (by decide) dX4_readValley_95) (so_br (so_if_eq C dX4_readValley_98 (by decide)) (so_th (so_iload C dX4_readValley_108) (so_br (so_if_eq C dX4_readValley_110 (by decide)) (so_th (so_iload C dX4_readValley_131) (so_rz C hr dX4_readValley_133)) (so_th (so_aload_n C dX4_readValley_113 rfl) (so_th (so_getr C fl_RX4_26 dX4_readValley_114) (so_th (so_geti C fl_RX4_62 (by decide) dX4_readValley_117) (so_br (so_if_ne C dX4_readValley_120 (by decide)) (so_th (so_iload C dX4_readValley_131) (so_rz C hr dX4_readValley_133)) (so_th (so_aload_n C dX4_readValley_123 rfl) (so_th (so_bipush C dX4_readValley_124 (by decide)) (so_th (so_cv C m_X4_fail rfl k_175 k_177 k_176 k_178 k_150 ⟨by decide, by decide, by decide +kernel⟩ (by decide) dX4_readValley_126) (so_th (so_istore C dX4_readValley_129 (by decide)) (so_th (so_iload C dX4_readValley_131) (so_rz C hr dX4_readValley_133)))))))))))) (so_th (so_aload_n C dX4_readValley_101 rfl) (so_th (so_iconst C dX4_readValley_102 (by decide)) (so_th (so_cv C m_X4_fail rfl k_175 k_177 k_176 k_178 k_150 ⟨by decide, by decide, by decide +kernel⟩ (by decide) dX4_readValley_103) (so_th (so_istore C dX4_readValley_106 (by decide)) (so_th (so_iload C dX4_readValley_108) (so_br (so_if_eq C dX4_readValley_110 (by decide)) (so_th (so_iload C dX4_readValley_131) (so_rz C hr dX4_readValley_133)) (so_th (so_aload_n C dX4_readValley_113 rfl) (so_th (so_getr C fl_RX4_26 dX4_readValley_114) (so_th (so_geti C fl_RX4_62 (by decide) dX4_readValley_117) (so_br (so_if_ne C dX4_readValley_120 (by decide)) (so_th (so_iload C dX4_readValley_131) (so_rz C hr dX4_readValley_133)) (so_th (so_aload_n C dX4_readValley_123 rfl) (so_th (so_bipush C dX4_readValley_124 (by decide)) (so_th (so_cv C m_X4_fail rfl k_175 k_177 k_176 k_178 k_150 ⟨by decide, by decide, by decide +kernel⟩ (by decide) dX4_readValley_126) (so_th (so_istore C dX4_readValley_129 (by decide)) (so_th (so_iload C dX4_readValley_131) (so_rz C hr dX4_readValley_133))))))))))))))))))))))))))))))))))))))))))))))))))))
theorem m_X4_readValley : am_M yX4_readValley cX4_readValley 6 (some .boolean) 9 192 d_X4_readValley := am_M_of (by decide +kernel) b_X4_readValley
theorem dX5_init_0 : decode cX5_init 0 = .ok (.aload_n 0, 1) := by decide +kernel
theorem dX5_init_1 : decode cX5_init 1 = .ok (.invokespecial 3, 3) := by decide +kernel
theorem dX5_init_4 : decode cX5_init 4 = .ok (.aload_n 0, 1) := by decide +kernel
theorem dX5_init_5 : decode cX5_init 5 = .ok (.iconst 4, 1) := by decide +kernel
theorem dX5_init_6 : decode cX5_init 6 = .ok (.newarray .int, 2) := by decide +kernel
theorem dX5_init_8 : decode cX5_init 8 = .ok (.putfield 9, 3) := by decide +kernel
theorem dX5_init_11 : decode cX5_init 11 = .ok (.aload_n 0, 1) := by decide +kernel
theorem dX5_init_12 : decode cX5_init 12 = .ok (.bipush 6, 2) := by decide +kernel
theorem dX5_init_14 : decode cX5_init 14 = .ok (.newarray .int, 2) := by decide +kernel
theorem dX5_init_16 : decode cX5_init 16 = .ok (.putfield 15, 3) := by decide +kernel
theorem dX5_init_19 : decode cX5_init 19 = .ok (.aload_n 0, 1) := by decide +kernel
theorem dX5_init_20 : decode cX5_init 20 = .ok (.bipush 6, 2) := by decide +kernel
theorem dX5_init_22 : decode cX5_init 22 = .ok (.newarray .int, 2) := by decide +kernel
theorem dX5_init_24 : decode cX5_init 24 = .ok (.putfield 18, 3) := by decide +kernel
theorem dX5_init_27 : decode cX5_init 27 = .ok (.aload_n 0, 1) := by decide +kernel
theorem dX5_init_28 : decode cX5_init 28 = .ok (.bipush 6, 2) := by decide +kernel
theorem dX5_init_30 : decode cX5_init 30 = .ok (.newarray .int, 2) := by decide +kernel
theorem dX5_init_32 : decode cX5_init 32 = .ok (.putfield 21, 3) := by decide +kernel
theorem dX5_init_35 : decode cX5_init 35 = .ok (.aload_n 0, 1) := by decide +kernel
theorem dX5_init_36 : decode cX5_init 36 = .ok (.bipush 6, 2) := by decide +kernel
theorem dX5_init_38 : decode cX5_init 38 = .ok (.newarray .int, 2) := by decide +kernel
theorem dX5_init_40 : decode cX5_init 40 = .ok (.putfield 24, 3) := by decide +kernel
theorem dX5_init_43 : decode cX5_init 43 = .ok (.aload_n 0, 1) := by decide +kernel
theorem dX5_init_44 : decode cX5_init 44 = .ok (.bipush 16, 2) := by decide +kernel
theorem dX5_init_46 : decode cX5_init 46 = .ok (.newarray .int, 2) := by decide +kernel
theorem dX5_init_48 : decode cX5_init 48 = .ok (.putfield 27, 3) := by decide +kernel
theorem dX5_init_51 : decode cX5_init 51 = .ok (.aload_n 0, 1) := by decide +kernel
theorem dX5_init_52 : decode cX5_init 52 = .ok (.sipush 144, 3) := by decide +kernel
theorem dX5_init_55 : decode cX5_init 55 = .ok (.newarray .int, 2) := by decide +kernel
theorem dX5_init_57 : decode cX5_init 57 = .ok (.putfield 30, 3) := by decide +kernel
theorem dX5_init_60 : decode cX5_init 60 = .ok (.aload_n 0, 1) := by decide +kernel
theorem dX5_init_61 : decode cX5_init 61 = .ok (.bipush 6, 2) := by decide +kernel
theorem dX5_init_63 : decode cX5_init 63 = .ok (.newarray .int, 2) := by decide +kernel
theorem dX5_init_65 : decode cX5_init 65 = .ok (.putfield 33, 3) := by decide +kernel
theorem dX5_init_68 : decode cX5_init 68 = .ok (.aload_n 0, 1) := by decide +kernel
theorem dX5_init_69 : decode cX5_init 69 = .ok (.bipush 6, 2) := by decide +kernel
theorem dX5_init_71 : decode cX5_init 71 = .ok (.newarray .int, 2) := by decide +kernel
theorem dX5_init_73 : decode cX5_init 73 = .ok (.putfield 36, 3) := by decide +kernel
theorem dX5_init_76 : decode cX5_init 76 = .ok (.return_, 1) := by decide +kernel
def f_X5_init : am_F := am_th (i_al 0) (am_th (i_oi) (am_th (i_al 0) (am_th (i_ic (4)) (am_th (i_na 0) (am_th (i_pr 5 8) (am_th (i_al 0) (am_th (i_ic (6)) (am_th (i_na 0) (am_th (i_pr 5 9) (am_th (i_al 0) (am_th (i_ic (6)) (am_th (i_na 0) (am_th (i_pr 5 10) (am_th (i_al 0) (am_th (i_ic (6)) (am_th (i_na 0) (am_th (i_pr 5 11) (am_th (i_al 0) (am_th (i_ic (6)) (am_th (i_na 0) (am_th (i_pr 5 12) (am_th (i_al 0) (am_th (i_ic (16)) (am_th (i_na 0) (am_th (i_pr 5 13) (am_th (i_al 0) (am_th (i_ic (144)) (am_th (i_na 0) (am_th (i_pr 5 14) (am_th (i_al 0) (am_th (i_ic (6)) (am_th (i_na 0) (am_th (i_pr 5 15) (am_th (i_al 0) (am_th (i_ic (6)) (am_th (i_na 0) (am_th (i_pr 5 16) (r_v))))))))))))))))))))))))))))))))))))))
def d_X5_init : am_D := am_den 1 f_X5_init
set_option maxHeartbeats 4000000 in
set_option maxRecDepth 100000 in
theorem b_X5_init : am_Body yX5_init cX5_init 1 none 1 20 f_X5_init := by
  intro p l e R s m args below meth c g n0 z0 r0 u0 C hr hn
  have C : am_Cx p l e R s m args below meth c g RX5 cX5_init 1 n0 z0 (am_len u0) (am_wt u0) 1 20 := C
  unfold f_X5_init
  exact (so_th (so_aload_n C dX5_init_0 rfl) (so_th (so_oinit C k_264 k_1 k_2 (by decide) dX5_init_1) (so_th (so_aload_n C dX5_init_4 rfl) (so_th (so_iconst C dX5_init_5 (by decide)) (so_th (so_newI C k_3 dX5_init_6) (so_th (so_putr C fl_RX5_9 (Or.inr ⟨_, rfl⟩) fp_5 (Or.inr ⟨rfl, hn, rfl⟩) dX5_init_8) (so_th (so_aload_n C dX5_init_11 rfl) (so_th (so_bipush C dX5_init_12 (by decide)) (so_th (so_newI C k_3 dX5_init_14) (so_th (so_putr C fl_RX5_15 (Or.inr ⟨_, rfl⟩) fp_5 (Or.inr ⟨rfl, hn, rfl⟩) dX5_init_16) (so_th (so_aload_n C dX5_init_19 rfl) (so_th (so_bipush C dX5_init_20 (by decide)) (so_th (so_newI C k_3 dX5_init_22) (so_th (so_putr C fl_RX5_18 (Or.inr ⟨_, rfl⟩) fp_5 (Or.inr ⟨rfl, hn, rfl⟩) dX5_init_24) (so_th (so_aload_n C dX5_init_27 rfl) (so_th (so_bipush C dX5_init_28 (by decide)) (so_th (so_newI C k_3 dX5_init_30) (so_th (so_putr C fl_RX5_21 (Or.inr ⟨_, rfl⟩) fp_5 (Or.inr ⟨rfl, hn, rfl⟩) dX5_init_32) (so_th (so_aload_n C dX5_init_35 rfl) (so_th (so_bipush C dX5_init_36 (by decide)) (so_th (so_newI C k_3 dX5_init_38) (so_th (so_putr C fl_RX5_24 (Or.inr ⟨_, rfl⟩) fp_5 (Or.inr ⟨rfl, hn, rfl⟩) dX5_init_40) (so_th (so_aload_n C dX5_init_43 rfl) (so_th (so_bipush C dX5_init_44 (by decide)) (so_th (so_newI C k_3 dX5_init_46) (so_th (so_putr C fl_RX5_27 (Or.inr ⟨_, rfl⟩) fp_5 (Or.inr ⟨rfl, hn, rfl⟩) dX5_init_48) (so_th (so_aload_n C dX5_init_51 rfl) (so_th (so_sipush C dX5_init_52 (by decide)) (so_th (so_newI C k_3 dX5_init_55) (so_th (so_putr C fl_RX5_30 (Or.inr ⟨_, rfl⟩) fp_5 (Or.inr ⟨rfl, hn, rfl⟩) dX5_init_57) (so_th (so_aload_n C dX5_init_60 rfl) (so_th (so_bipush C dX5_init_61 (by decide)) (so_th (so_newI C k_3 dX5_init_63) (so_th (so_putr C fl_RX5_33 (Or.inr ⟨_, rfl⟩) fp_5 (Or.inr ⟨rfl, hn, rfl⟩) dX5_init_65) (so_th (so_aload_n C dX5_init_68 rfl) (so_th (so_bipush C dX5_init_69 (by decide)) (so_th (so_newI C k_3 dX5_init_71) (so_th (so_putr C fl_RX5_36 (Or.inr ⟨_, rfl⟩) fp_5 (Or.inr ⟨rfl, hn, rfl⟩) dX5_init_73) (so_rv C hr dX5_init_76)))))))))))))))))))))))))))))))))))))))
theorem m_X5_init : am_M yX5_init cX5_init 1 none 1 20 d_X5_init := am_M_of (by decide +kernel) b_X5_init
theorem dX5_peopleOf_0 : decode cX5_peopleOf 0 = .ok (.iconst 0, 1) := by decide +kernel
theorem dX5_peopleOf_1 : decode cX5_peopleOf 1 = .ok (.istore_n 2, 1) := by decide +kernel
theorem dX5_peopleOf_2 : decode cX5_peopleOf 2 = .ok (.iconst 0, 1) := by decide +kernel
theorem dX5_peopleOf_3 : decode cX5_peopleOf 3 = .ok (.istore_n 3, 1) := by decide +kernel
theorem dX5_peopleOf_4 : decode cX5_peopleOf 4 = .ok (.iload_n 3, 1) := by decide +kernel
theorem dX5_peopleOf_5 : decode cX5_peopleOf 5 = .ok (.aload_n 0, 1) := by decide +kernel
theorem dX5_peopleOf_6 : decode cX5_peopleOf 6 = .ok (.getfield 46, 3) := by decide +kernel
theorem dX5_peopleOf_9 : decode cX5_peopleOf 9 = .ok (.if_icmp .ge 26, 3) := by decide +kernel
theorem dX5_peopleOf_12 : decode cX5_peopleOf 12 = .ok (.iload_n 1, 1) := by decide +kernel
theorem dX5_peopleOf_13 : decode cX5_peopleOf 13 = .ok (.iload_n 3, 1) := by decide +kernel
theorem dX5_peopleOf_14 : decode cX5_peopleOf 14 = .ok (.invokestatic 64, 3) := by decide +kernel
theorem dX5_peopleOf_17 : decode cX5_peopleOf 17 = .ok (.ifCond .eq 12, 3) := by decide +kernel
theorem dX5_peopleOf_20 : decode cX5_peopleOf 20 = .ok (.iload_n 2, 1) := by decide +kernel
theorem dX5_peopleOf_21 : decode cX5_peopleOf 21 = .ok (.aload_n 0, 1) := by decide +kernel
theorem dX5_peopleOf_22 : decode cX5_peopleOf 22 = .ok (.getfield 15, 3) := by decide +kernel
theorem dX5_peopleOf_25 : decode cX5_peopleOf 25 = .ok (.iload_n 3, 1) := by decide +kernel
theorem dX5_peopleOf_26 : decode cX5_peopleOf 26 = .ok (.iaload, 1) := by decide +kernel
theorem dX5_peopleOf_27 : decode cX5_peopleOf 27 = .ok (.iadd, 1) := by decide +kernel
theorem dX5_peopleOf_28 : decode cX5_peopleOf 28 = .ok (.istore_n 2, 1) := by decide +kernel
theorem dX5_peopleOf_29 : decode cX5_peopleOf 29 = .ok (.iinc 3 1, 3) := by decide +kernel
theorem dX5_peopleOf_32 : decode cX5_peopleOf 32 = .ok (.goto (-28), 3) := by decide +kernel
theorem dX5_peopleOf_35 : decode cX5_peopleOf 35 = .ok (.iload_n 2, 1) := by decide +kernel
theorem dX5_peopleOf_36 : decode cX5_peopleOf 36 = .ok (.ireturn, 1) := by decide +kernel
def f_X5_peopleOf_l4 : am_F := am_th (i_il 3) (am_th (i_al 0) (am_th (i_gi 5 2) (am_br (b_2 (fun x y => decide (y ≤ x))) (am_to 35) (am_th (i_il 1) (am_th (i_il 3) (am_th (i_cs 2 d_X6_has) (am_sq 29 (am_br (b_1 (fun x => decide (x = 0))) (am_to 29) (am_th (i_il 2) (am_th (i_al 0) (am_th (i_gr 5 9) (am_th (i_il 3) (am_th (i_ia 0) (am_th (i_2 (fun x y => x + y)) (am_th (i_is 2) (am_to 29))))))))) (am_th (i_inc 3 (1)) (am_to 4)))))))))
def f_X5_peopleOf : am_F := am_th (i_ic (0)) (am_th (i_is 2) (am_th (i_ic (0)) (am_th (i_is 3) (am_sq 35 (am_lp 5000 4 f_X5_peopleOf_l4) (am_th (i_il 2) (r_i))))))
def d_X5_peopleOf : am_D := am_den 4 f_X5_peopleOf
set_option maxHeartbeats 4000000 in
set_option maxRecDepth 100000 in
theorem b_X5_peopleOf : am_Body yX5_peopleOf cX5_peopleOf 4 (some .int) 1 21 f_X5_peopleOf := by
  intro p l e R s m args below meth c g n0 z0 r0 u0 C hr hn
  have C : am_Cx p l e R s m args below meth c g RX5 cX5_peopleOf 4 n0 z0 (am_len u0) (am_wt u0) 1 21 := C
  have l4 : am_Snd (am_GM p l e R s m args below meth c g 4 n0 z0 r0 u0) (am_Rt r0 u0) 4 (f_X5_peopleOf_l4) := by
    unfold f_X5_peopleOf_l4
    exact (so_th (so_iload_n C dX5_peopleOf_4 rfl) (so_th (so_aload_n C dX5_peopleOf_5 rfl) (so_th (so_geti C fl_RX5_46 (by decide) dX5_peopleOf_6) (so_br (so_icmp_ge C dX5_peopleOf_9 (by decide)) (so_to) (so_th (so_iload_n C dX5_peopleOf_12 rfl) (so_th (so_iload_n C dX5_peopleOf_13 rfl) (so_th (so_csN C m_X6_has k_4 (List.mem_of_getElem? (i := 7) rfl) k_6 k_5 ⟨by decide, by decide, by decide +kernel⟩ (by decide) dX5_peopleOf_14) (so_sq (so_br (so_if_eq C dX5_peopleOf_17 (by decide)) (so_to) (so_th (so_iload_n C dX5_peopleOf_20 rfl) (so_th (so_aload_n C dX5_peopleOf_21 rfl) (so_th (so_getr C fl_RX5_15 dX5_peopleOf_22) (so_th (so_iload_n C dX5_peopleOf_25 rfl) (so_th (so_iald C dX5_peopleOf_26) (so_th (so_iadd C dX5_peopleOf_27) (so_th (so_istore_n C dX5_peopleOf_28 rfl (by decide)) (so_to))))))))) (so_th (so_iinc C dX5_peopleOf_29 (by decide) (by decide)) (so_goto C dX5_peopleOf_32 (by decide) (so_to)))))))))))
  unfold f_X5_peopleOf
  exact (so_th (so_iconst C dX5_peopleOf_0 (by decide)) (so_th (so_istore_n C dX5_peopleOf_1 rfl (by decide)) (so_th (so_iconst C dX5_peopleOf_2 (by decide)) (so_th (so_istore_n C dX5_peopleOf_3 rfl (by decide)) (so_sq (so_lp l4 5000) (so_th (so_iload_n C dX5_peopleOf_35 rfl) (so_ri C hr dX5_peopleOf_36)))))))
theorem m_X5_peopleOf : am_M yX5_peopleOf cX5_peopleOf 4 (some .int) 1 21 d_X5_peopleOf := am_M_of (by decide +kernel) b_X5_peopleOf
theorem dX5_shareOf_0 : decode cX5_shareOf 0 = .ok (.aload_n 0, 1) := by decide +kernel
theorem dX5_shareOf_1 : decode cX5_shareOf 1 = .ok (.iload_n 1, 1) := by decide +kernel
theorem dX5_shareOf_2 : decode cX5_shareOf 2 = .ok (.invokevirtual 68, 3) := by decide +kernel
theorem dX5_shareOf_5 : decode cX5_shareOf 5 = .ok (.istore 4, 2) := by decide +kernel
theorem dX5_shareOf_7 : decode cX5_shareOf 7 = .ok (.iload_n 1, 1) := by decide +kernel
theorem dX5_shareOf_8 : decode cX5_shareOf 8 = .ok (.iload_n 2, 1) := by decide +kernel
theorem dX5_shareOf_9 : decode cX5_shareOf 9 = .ok (.invokestatic 64, 3) := by decide +kernel
theorem dX5_shareOf_12 : decode cX5_shareOf 12 = .ok (.ifCond .eq 9, 3) := by decide +kernel
theorem dX5_shareOf_15 : decode cX5_shareOf 15 = .ok (.iload 4, 2) := by decide +kernel
theorem dX5_shareOf_17 : decode cX5_shareOf 17 = .ok (.iconst 1, 1) := by decide +kernel
theorem dX5_shareOf_18 : decode cX5_shareOf 18 = .ok (.if_icmp .ge 5, 3) := by decide +kernel
theorem dX5_shareOf_21 : decode cX5_shareOf 21 = .ok (.iconst 0, 1) := by decide +kernel
theorem dX5_shareOf_22 : decode cX5_shareOf 22 = .ok (.ireturn, 1) := by decide +kernel
theorem dX5_shareOf_23 : decode cX5_shareOf 23 = .ok (.iload_n 3, 1) := by decide +kernel
theorem dX5_shareOf_24 : decode cX5_shareOf 24 = .ok (.istore 5, 2) := by decide +kernel
theorem dX5_shareOf_26 : decode cX5_shareOf 26 = .ok (.iconst 0, 1) := by decide +kernel
theorem dX5_shareOf_27 : decode cX5_shareOf 27 = .ok (.istore 6, 2) := by decide +kernel
theorem dX5_shareOf_29 : decode cX5_shareOf 29 = .ok (.iload_n 3, 1) := by decide +kernel
theorem dX5_shareOf_30 : decode cX5_shareOf 30 = .ok (.aload_n 0, 1) := by decide +kernel
theorem dX5_shareOf_31 : decode cX5_shareOf 31 = .ok (.getfield 15, 3) := by decide +kernel
theorem dX5_shareOf_34 : decode cX5_shareOf 34 = .ok (.iload_n 2, 1) := by decide +kernel
theorem dX5_shareOf_35 : decode cX5_shareOf 35 = .ok (.iaload, 1) := by decide +kernel
theorem dX5_shareOf_36 : decode cX5_shareOf 36 = .ok (.imul, 1) := by decide +kernel
theorem dX5_shareOf_37 : decode cX5_shareOf 37 = .ok (.iload 4, 2) := by decide +kernel
theorem dX5_shareOf_39 : decode cX5_shareOf 39 = .ok (.irem, 1) := by decide +kernel
theorem dX5_shareOf_40 : decode cX5_shareOf 40 = .ok (.istore 7, 2) := by decide +kernel
theorem dX5_shareOf_42 : decode cX5_shareOf 42 = .ok (.iconst 0, 1) := by decide +kernel
theorem dX5_shareOf_43 : decode cX5_shareOf 43 = .ok (.istore 8, 2) := by decide +kernel
theorem dX5_shareOf_45 : decode cX5_shareOf 45 = .ok (.iload 8, 2) := by decide +kernel
theorem dX5_shareOf_47 : decode cX5_shareOf 47 = .ok (.aload_n 0, 1) := by decide +kernel
theorem dX5_shareOf_48 : decode cX5_shareOf 48 = .ok (.getfield 46, 3) := by decide +kernel
theorem dX5_shareOf_51 : decode cX5_shareOf 51 = .ok (.if_icmp .ge 72, 3) := by decide +kernel
theorem dX5_shareOf_54 : decode cX5_shareOf 54 = .ok (.iload_n 1, 1) := by decide +kernel
theorem dX5_shareOf_55 : decode cX5_shareOf 55 = .ok (.iload 8, 2) := by decide +kernel
theorem dX5_shareOf_57 : decode cX5_shareOf 57 = .ok (.invokestatic 64, 3) := by decide +kernel
theorem dX5_shareOf_60 : decode cX5_shareOf 60 = .ok (.ifCond .eq 57, 3) := by decide +kernel
theorem dX5_shareOf_63 : decode cX5_shareOf 63 = .ok (.iload 5, 2) := by decide +kernel
theorem dX5_shareOf_65 : decode cX5_shareOf 65 = .ok (.iload_n 3, 1) := by decide +kernel
theorem dX5_shareOf_66 : decode cX5_shareOf 66 = .ok (.aload_n 0, 1) := by decide +kernel
theorem dX5_shareOf_67 : decode cX5_shareOf 67 = .ok (.getfield 15, 3) := by decide +kernel
theorem dX5_shareOf_70 : decode cX5_shareOf 70 = .ok (.iload 8, 2) := by decide +kernel
theorem dX5_shareOf_72 : decode cX5_shareOf 72 = .ok (.iaload, 1) := by decide +kernel
theorem dX5_shareOf_73 : decode cX5_shareOf 73 = .ok (.imul, 1) := by decide +kernel
theorem dX5_shareOf_74 : decode cX5_shareOf 74 = .ok (.iload 4, 2) := by decide +kernel
theorem dX5_shareOf_76 : decode cX5_shareOf 76 = .ok (.idiv, 1) := by decide +kernel
theorem dX5_shareOf_77 : decode cX5_shareOf 77 = .ok (.isub, 1) := by decide +kernel
theorem dX5_shareOf_78 : decode cX5_shareOf 78 = .ok (.istore 5, 2) := by decide +kernel
theorem dX5_shareOf_80 : decode cX5_shareOf 80 = .ok (.iload_n 3, 1) := by decide +kernel
theorem dX5_shareOf_81 : decode cX5_shareOf 81 = .ok (.aload_n 0, 1) := by decide +kernel
theorem dX5_shareOf_82 : decode cX5_shareOf 82 = .ok (.getfield 15, 3) := by decide +kernel
theorem dX5_shareOf_85 : decode cX5_shareOf 85 = .ok (.iload 8, 2) := by decide +kernel
theorem dX5_shareOf_87 : decode cX5_shareOf 87 = .ok (.iaload, 1) := by decide +kernel
theorem dX5_shareOf_88 : decode cX5_shareOf 88 = .ok (.imul, 1) := by decide +kernel
theorem dX5_shareOf_89 : decode cX5_shareOf 89 = .ok (.iload 4, 2) := by decide +kernel
theorem dX5_shareOf_91 : decode cX5_shareOf 91 = .ok (.irem, 1) := by decide +kernel
theorem dX5_shareOf_92 : decode cX5_shareOf 92 = .ok (.istore 9, 2) := by decide +kernel
theorem dX5_shareOf_94 : decode cX5_shareOf 94 = .ok (.iload 9, 2) := by decide +kernel
theorem dX5_shareOf_96 : decode cX5_shareOf 96 = .ok (.iload 7, 2) := by decide +kernel
theorem dX5_shareOf_98 : decode cX5_shareOf 98 = .ok (.if_icmp .gt 16, 3) := by decide +kernel
theorem dX5_shareOf_101 : decode cX5_shareOf 101 = .ok (.iload 9, 2) := by decide +kernel
theorem dX5_shareOf_103 : decode cX5_shareOf 103 = .ok (.iload 7, 2) := by decide +kernel
theorem dX5_shareOf_105 : decode cX5_shareOf 105 = .ok (.if_icmp .ne 12, 3) := by decide +kernel
theorem dX5_shareOf_108 : decode cX5_shareOf 108 = .ok (.iload 8, 2) := by decide +kernel
theorem dX5_shareOf_110 : decode cX5_shareOf 110 = .ok (.iload_n 2, 1) := by decide +kernel
theorem dX5_shareOf_111 : decode cX5_shareOf 111 = .ok (.if_icmp .ge 6, 3) := by decide +kernel
theorem dX5_shareOf_114 : decode cX5_shareOf 114 = .ok (.iinc 6 1, 3) := by decide +kernel
theorem dX5_shareOf_117 : decode cX5_shareOf 117 = .ok (.iinc 8 1, 3) := by decide +kernel
theorem dX5_shareOf_120 : decode cX5_shareOf 120 = .ok (.goto (-75), 3) := by decide +kernel
theorem dX5_shareOf_123 : decode cX5_shareOf 123 = .ok (.iload_n 3, 1) := by decide +kernel
theorem dX5_shareOf_124 : decode cX5_shareOf 124 = .ok (.aload_n 0, 1) := by decide +kernel
theorem dX5_shareOf_125 : decode cX5_shareOf 125 = .ok (.getfield 15, 3) := by decide +kernel
theorem dX5_shareOf_128 : decode cX5_shareOf 128 = .ok (.iload_n 2, 1) := by decide +kernel
theorem dX5_shareOf_129 : decode cX5_shareOf 129 = .ok (.iaload, 1) := by decide +kernel
theorem dX5_shareOf_130 : decode cX5_shareOf 130 = .ok (.imul, 1) := by decide +kernel
theorem dX5_shareOf_131 : decode cX5_shareOf 131 = .ok (.iload 4, 2) := by decide +kernel
theorem dX5_shareOf_133 : decode cX5_shareOf 133 = .ok (.idiv, 1) := by decide +kernel
theorem dX5_shareOf_134 : decode cX5_shareOf 134 = .ok (.iload 6, 2) := by decide +kernel
theorem dX5_shareOf_136 : decode cX5_shareOf 136 = .ok (.iload 5, 2) := by decide +kernel
theorem dX5_shareOf_138 : decode cX5_shareOf 138 = .ok (.if_icmp .ge 7, 3) := by decide +kernel
theorem dX5_shareOf_141 : decode cX5_shareOf 141 = .ok (.iconst 1, 1) := by decide +kernel
theorem dX5_shareOf_142 : decode cX5_shareOf 142 = .ok (.goto 4, 3) := by decide +kernel
theorem dX5_shareOf_145 : decode cX5_shareOf 145 = .ok (.iconst 0, 1) := by decide +kernel
theorem dX5_shareOf_146 : decode cX5_shareOf 146 = .ok (.iadd, 1) := by decide +kernel
theorem dX5_shareOf_147 : decode cX5_shareOf 147 = .ok (.ireturn, 1) := by decide +kernel
def f_X5_shareOf_l45 : am_F := am_th (i_il 8) (am_th (i_al 0) (am_th (i_gi 5 2) (am_br (b_2 (fun x y => decide (y ≤ x))) (am_to 123) (am_th (i_il 1) (am_th (i_il 8) (am_th (i_cs 2 d_X6_has) (am_sq 117 (am_br (b_1 (fun x => decide (x = 0))) (am_to 117) (am_th (i_il 5) (am_th (i_il 3) (am_th (i_al 0) (am_th (i_gr 5 9) (am_th (i_il 8) (am_th (i_ia 0) (am_th (i_2 (fun x y => x * y)) (am_th (i_il 4) (am_th (i_2n (fun x y => x / y)) (am_th (i_2 (fun x y => x - y)) (am_th (i_is 5) (am_th (i_il 3) (am_th (i_al 0) (am_th (i_gr 5 9) (am_th (i_il 8) (am_th (i_ia 0) (am_th (i_2 (fun x y => x * y)) (am_th (i_il 4) (am_th (i_2n (fun x y => x - x / y * y)) (am_th (i_is 9) (am_th (i_il 9) (am_th (i_il 7) (am_br (b_2 (fun x y => decide (y < x))) (am_th (i_inc 6 (1)) (am_to 117)) (am_th (i_il 9) (am_th (i_il 7) (am_br (b_2 (fun x y => decide (¬ x = y))) (am_to 117) (am_th (i_il 8) (am_th (i_il 2) (am_br (b_2 (fun x y => decide (y ≤ x))) (am_to 117) (am_th (i_inc 6 (1)) (am_to 117)))))))))))))))))))))))))))))))) (am_th (i_inc 8 (1)) (am_to 45)))))))))
def f_X5_shareOf : am_F := am_th (i_al 0) (am_th (i_il 1) (am_th (i_cv 5 1 d_X5_peopleOf) (am_th (i_is 4) (am_th (i_il 1) (am_th (i_il 2) (am_th (i_cs 2 d_X6_has) (am_br (b_1 (fun x => decide (x = 0))) (am_th (i_ic (0)) (r_i)) (am_th (i_il 4) (am_th (i_ic (1)) (am_br (b_2 (fun x y => decide (y ≤ x))) (am_th (i_il 3) (am_th (i_is 5) (am_th (i_ic (0)) (am_th (i_is 6) (am_th (i_il 3) (am_th (i_al 0) (am_th (i_gr 5 9) (am_th (i_il 2) (am_th (i_ia 0) (am_th (i_2 (fun x y => x * y)) (am_th (i_il 4) (am_th (i_2n (fun x y => x - x / y * y)) (am_th (i_is 7) (am_th (i_ic (0)) (am_th (i_is 8) (am_sq 123 (am_lp 5000 45 f_X5_shareOf_l45) (am_th (i_il 3) (am_th (i_al 0) (am_th (i_gr 5 9) (am_th (i_il 2) (am_th (i_ia 0) (am_th (i_2 (fun x y => x * y)) (am_th (i_il 4) (am_th (i_2n (fun x y => x / y)) (am_th (i_il 6) (am_th (i_il 5) (am_br (b_2 (fun x y => decide (y ≤ x))) (am_th (i_ic (0)) (am_th (i_2 (fun x y => x + y)) (r_i))) (am_th (i_ic (1)) (am_th (i_2 (fun x y => x + y)) (r_i)))))))))))))))))))))))))))))) (am_th (i_ic (0)) (r_i))))))))))))
def d_X5_shareOf : am_D := am_den 10 f_X5_shareOf
set_option maxHeartbeats 4000000 in
set_option maxRecDepth 100000 in
theorem b_X5_shareOf : am_Body yX5_shareOf cX5_shareOf 10 (some .int) 2 44 f_X5_shareOf := by
  intro p l e R s m args below meth c g n0 z0 r0 u0 C hr hn
  have C : am_Cx p l e R s m args below meth c g RX5 cX5_shareOf 10 n0 z0 (am_len u0) (am_wt u0) 2 44 := C
  have l45 : am_Snd (am_GM p l e R s m args below meth c g 10 n0 z0 r0 u0) (am_Rt r0 u0) 45 (f_X5_shareOf_l45) := by
    unfold f_X5_shareOf_l45
    exact (so_th (so_iload C dX5_shareOf_45) (so_th (so_aload_n C dX5_shareOf_47 rfl) (so_th (so_geti C fl_RX5_46 (by decide) dX5_shareOf_48) (so_br (so_icmp_ge C dX5_shareOf_51 (by decide)) (so_to) (so_th (so_iload_n C dX5_shareOf_54 rfl) (so_th (so_iload C dX5_shareOf_55) (so_th (so_csN C m_X6_has k_4 (List.mem_of_getElem? (i := 7) rfl) k_6 k_5 ⟨by decide, by decide, by decide +kernel⟩ (by decide) dX5_shareOf_57) (so_sq (so_br (so_if_eq C dX5_shareOf_60 (by decide)) (so_to) (so_th (so_iload C dX5_shareOf_63) (so_th (so_iload_n C dX5_shareOf_65 rfl) (so_th (so_aload_n C dX5_shareOf_66 rfl) (so_th (so_getr C fl_RX5_15 dX5_shareOf_67) (so_th (so_iload C dX5_shareOf_70) (so_th (so_iald C dX5_shareOf_72) (so_th (so_imul C dX5_shareOf_73) (so_th (so_iload C dX5_shareOf_74) (so_th (so_idiv C dX5_shareOf_76) (so_th (so_isub C dX5_shareOf_77) (so_th (so_istore C dX5_shareOf_78 (by decide)) (so_th (so_iload_n C dX5_shareOf_80 rfl) (so_th (so_aload_n C dX5_shareOf_81 rfl) (so_th (so_getr C fl_RX5_15 dX5_shareOf_82) (so_th (so_iload C dX5_shareOf_85) (so_th (so_iald C dX5_shareOf_87) (so_th (so_imul C dX5_shareOf_88) (so_th (so_iload C dX5_shareOf_89) (so_th (so_irem C dX5_shareOf_91) (so_th (so_istore C dX5_shareOf_92 (by decide)) (so_th (so_iload C dX5_shareOf_94) (so_th (so_iload C dX5_shareOf_96) (so_br (so_icmp_gt C dX5_shareOf_98 (by decide)) (so_th (so_iinc C dX5_shareOf_114 (by decide) (by decide)) (so_to)) (so_th (so_iload C dX5_shareOf_101) (so_th (so_iload C dX5_shareOf_103) (so_br (so_icmp_ne C dX5_shareOf_105 (by decide)) (so_to) (so_th (so_iload C dX5_shareOf_108) (so_th (so_iload_n C dX5_shareOf_110 rfl) (so_br (so_icmp_ge C dX5_shareOf_111 (by decide)) (so_to) (so_th (so_iinc C dX5_shareOf_114 (by decide) (by decide)) (so_to)))))))))))))))))))))))))))))))) (so_th (so_iinc C dX5_shareOf_117 (by decide) (by decide)) (so_goto C dX5_shareOf_120 (by decide) (so_to)))))))))))
  unfold f_X5_shareOf
  exact (so_th (so_aload_n C dX5_shareOf_0 rfl) (so_th (so_iload_n C dX5_shareOf_1 rfl) (so_th (so_cv C m_X5_peopleOf rfl k_265 k_267 k_266 k_268 k_8 ⟨by decide, by decide, by decide +kernel⟩ (by decide) dX5_shareOf_2) (so_th (so_istore C dX5_shareOf_5 (by decide)) (so_th (so_iload_n C dX5_shareOf_7 rfl) (so_th (so_iload_n C dX5_shareOf_8 rfl) (so_th (so_csN C m_X6_has k_4 (List.mem_of_getElem? (i := 7) rfl) k_6 k_5 ⟨by decide, by decide, by decide +kernel⟩ (by decide) dX5_shareOf_9) (so_br (so_if_eq C dX5_shareOf_12 (by decide)) (so_th (so_iconst C dX5_shareOf_21 (by decide)) (so_ri C hr dX5_shareOf_22)) (so_th (so_iload C dX5_shareOf_15) (so_th (so_iconst C dX5_shareOf_17 (by decide)) (so_br (so_icmp_ge C dX5_shareOf_18 (by decide)) (so_th (so_iload_n C dX5_shareOf_23 rfl) (so_th (so_istore C dX5_shareOf_24 (by decide)) (so_th (so_iconst C dX5_shareOf_26 (by decide)) (so_th (so_istore C dX5_shareOf_27 (by decide)) (so_th (so_iload_n C dX5_shareOf_29 rfl) (so_th (so_aload_n C dX5_shareOf_30 rfl) (so_th (so_getr C fl_RX5_15 dX5_shareOf_31) (so_th (so_iload_n C dX5_shareOf_34 rfl) (so_th (so_iald C dX5_shareOf_35) (so_th (so_imul C dX5_shareOf_36) (so_th (so_iload C dX5_shareOf_37) (so_th (so_irem C dX5_shareOf_39) (so_th (so_istore C dX5_shareOf_40 (by decide)) (so_th (so_iconst C dX5_shareOf_42 (by decide)) (so_th (so_istore C dX5_shareOf_43 (by decide)) (so_sq (so_lp l45 5000) (so_th (so_iload_n C dX5_shareOf_123 rfl) (so_th (so_aload_n C dX5_shareOf_124 rfl) (so_th (so_getr C fl_RX5_15 dX5_shareOf_125) (so_th (so_iload_n C dX5_shareOf_128 rfl) (so_th (so_iald C dX5_shareOf_129) (so_th (so_imul C dX5_shareOf_130) (so_th (so_iload C dX5_shareOf_131) (so_th (so_idiv C dX5_shareOf_133) (so_th (so_iload C dX5_shareOf_134) (so_th (so_iload C dX5_shareOf_136) (so_br (so_icmp_ge C dX5_shareOf_138 (by decide)) (so_th (so_iconst C dX5_shareOf_145 (by decide)) (so_th (so_iadd C dX5_shareOf_146) (so_ri C hr dX5_shareOf_147))) (so_th (so_iconst C dX5_shareOf_141 (by decide)) (so_goto C dX5_shareOf_142 (by decide) (so_th (so_iadd C dX5_shareOf_146) (so_ri C hr dX5_shareOf_147))))))))))))))))))))))))))))))) (so_th (so_iconst C dX5_shareOf_21 (by decide)) (so_ri C hr dX5_shareOf_22)))))))))))))
theorem m_X5_shareOf : am_M yX5_shareOf cX5_shareOf 10 (some .int) 2 44 d_X5_shareOf := am_M_of (by decide +kernel) b_X5_shareOf
theorem dX5_sizeOf_0 : decode cX5_sizeOf 0 = .ok (.iload_n 1, 1) := by decide +kernel
theorem dX5_sizeOf_1 : decode cX5_sizeOf 1 = .ok (.tableswitch 78 0 6 #[43, 48, 53, 58, 63, 68, 73], 43) := by decide +kernel
theorem dX5_sizeOf_44 : decode cX5_sizeOf 44 = .ok (.aload_n 0, 1) := by decide +kernel
theorem dX5_sizeOf_45 : decode cX5_sizeOf 45 = .ok (.getfield 39, 3) := by decide +kernel
theorem dX5_sizeOf_48 : decode cX5_sizeOf 48 = .ok (.ireturn, 1) := by decide +kernel
theorem dX5_sizeOf_49 : decode cX5_sizeOf 49 = .ok (.aload_n 0, 1) := by decide +kernel
theorem dX5_sizeOf_50 : decode cX5_sizeOf 50 = .ok (.getfield 43, 3) := by decide +kernel
theorem dX5_sizeOf_53 : decode cX5_sizeOf 53 = .ok (.ireturn, 1) := by decide +kernel
theorem dX5_sizeOf_54 : decode cX5_sizeOf 54 = .ok (.aload_n 0, 1) := by decide +kernel
theorem dX5_sizeOf_55 : decode cX5_sizeOf 55 = .ok (.getfield 46, 3) := by decide +kernel
theorem dX5_sizeOf_58 : decode cX5_sizeOf 58 = .ok (.ireturn, 1) := by decide +kernel
theorem dX5_sizeOf_59 : decode cX5_sizeOf 59 = .ok (.aload_n 0, 1) := by decide +kernel
theorem dX5_sizeOf_60 : decode cX5_sizeOf 60 = .ok (.getfield 49, 3) := by decide +kernel
theorem dX5_sizeOf_63 : decode cX5_sizeOf 63 = .ok (.ireturn, 1) := by decide +kernel
theorem dX5_sizeOf_64 : decode cX5_sizeOf 64 = .ok (.aload_n 0, 1) := by decide +kernel
theorem dX5_sizeOf_65 : decode cX5_sizeOf 65 = .ok (.getfield 52, 3) := by decide +kernel
theorem dX5_sizeOf_68 : decode cX5_sizeOf 68 = .ok (.ireturn, 1) := by decide +kernel
theorem dX5_sizeOf_69 : decode cX5_sizeOf 69 = .ok (.aload_n 0, 1) := by decide +kernel
theorem dX5_sizeOf_70 : decode cX5_sizeOf 70 = .ok (.getfield 55, 3) := by decide +kernel
theorem dX5_sizeOf_73 : decode cX5_sizeOf 73 = .ok (.ireturn, 1) := by decide +kernel
theorem dX5_sizeOf_74 : decode cX5_sizeOf 74 = .ok (.aload_n 0, 1) := by decide +kernel
theorem dX5_sizeOf_75 : decode cX5_sizeOf 75 = .ok (.getfield 58, 3) := by decide +kernel
theorem dX5_sizeOf_78 : decode cX5_sizeOf 78 = .ok (.ireturn, 1) := by decide +kernel
theorem dX5_sizeOf_79 : decode cX5_sizeOf 79 = .ok (.aload_n 0, 1) := by decide +kernel
theorem dX5_sizeOf_80 : decode cX5_sizeOf 80 = .ok (.getfield 61, 3) := by decide +kernel
theorem dX5_sizeOf_83 : decode cX5_sizeOf 83 = .ok (.invokestatic 72, 3) := by decide +kernel
theorem dX5_sizeOf_86 : decode cX5_sizeOf 86 = .ok (.ireturn, 1) := by decide +kernel
def f_X5_sizeOf : am_F := am_th (i_il 1) (am_sw (0) [am_th (i_al 0) (am_th (i_gi 5 0) (r_i)), am_th (i_al 0) (am_th (i_gi 5 1) (r_i)), am_th (i_al 0) (am_th (i_gi 5 2) (r_i)), am_th (i_al 0) (am_th (i_gi 5 3) (r_i)), am_th (i_al 0) (am_th (i_gi 5 4) (r_i)), am_th (i_al 0) (am_th (i_gi 5 5) (r_i)), am_th (i_al 0) (am_th (i_gi 5 6) (r_i))] (am_th (i_al 0) (am_th (i_gi 5 7) (am_th (i_cs 1 d_J6_bitCount_0f7a4) (r_i)))))
def d_X5_sizeOf : am_D := am_den 2 f_X5_sizeOf
set_option maxHeartbeats 4000000 in
set_option maxRecDepth 100000 in
theorem b_X5_sizeOf : am_Body yX5_sizeOf cX5_sizeOf 2 (some .int) 1 20 f_X5_sizeOf := by
  intro p l e R s m args below meth c g n0 z0 r0 u0 C hr hn
  have C : am_Cx p l e R s m args below meth c g RX5 cX5_sizeOf 2 n0 z0 (am_len u0) (am_wt u0) 1 20 := C
  unfold f_X5_sizeOf
  exact (so_th (so_iload_n C dX5_sizeOf_0 rfl) (so_sw C dX5_sizeOf_1 rfl (by decide) (td := 79) (by decide) (so_th (so_aload_n C dX5_sizeOf_79 rfl) (so_th (so_geti C fl_RX5_61 (by decide) dX5_sizeOf_80) (so_th (so_cs C m_J6_bitCount_0f7a4 k_107 k_269 k_109 k_108 ⟨by decide, by decide, by decide +kernel⟩ (by decide) dX5_sizeOf_83) (so_ri C hr dX5_sizeOf_86)))) (fun k f hk => match k, hk with
      | 0, hk => ⟨(43), 44, rfl, by decide, (Option.some.inj hk) ▸ (so_th (so_aload_n C dX5_sizeOf_44 rfl) (so_th (so_geti C fl_RX5_39 (by decide) dX5_sizeOf_45) (so_ri C hr dX5_sizeOf_48)))⟩
      | 1, hk => ⟨(48), 49, rfl, by decide, (Option.some.inj hk) ▸ (so_th (so_aload_n C dX5_sizeOf_49 rfl) (so_th (so_geti C fl_RX5_43 (by decide) dX5_sizeOf_50) (so_ri C hr dX5_sizeOf_53)))⟩
      | 2, hk => ⟨(53), 54, rfl, by decide, (Option.some.inj hk) ▸ (so_th (so_aload_n C dX5_sizeOf_54 rfl) (so_th (so_geti C fl_RX5_46 (by decide) dX5_sizeOf_55) (so_ri C hr dX5_sizeOf_58)))⟩
      | 3, hk => ⟨(58), 59, rfl, by decide, (Option.some.inj hk) ▸ (so_th (so_aload_n C dX5_sizeOf_59 rfl) (so_th (so_geti C fl_RX5_49 (by decide) dX5_sizeOf_60) (so_ri C hr dX5_sizeOf_63)))⟩
      | 4, hk => ⟨(63), 64, rfl, by decide, (Option.some.inj hk) ▸ (so_th (so_aload_n C dX5_sizeOf_64 rfl) (so_th (so_geti C fl_RX5_52 (by decide) dX5_sizeOf_65) (so_ri C hr dX5_sizeOf_68)))⟩
      | 5, hk => ⟨(68), 69, rfl, by decide, (Option.some.inj hk) ▸ (so_th (so_aload_n C dX5_sizeOf_69 rfl) (so_th (so_geti C fl_RX5_55 (by decide) dX5_sizeOf_70) (so_ri C hr dX5_sizeOf_73)))⟩
      | 6, hk => ⟨(73), 74, rfl, by decide, (Option.some.inj hk) ▸ (so_th (so_aload_n C dX5_sizeOf_74 rfl) (so_th (so_geti C fl_RX5_58 (by decide) dX5_sizeOf_75) (so_ri C hr dX5_sizeOf_78)))⟩
      | k + 7, hk => by simp at hk)))
theorem m_X5_sizeOf : am_M yX5_sizeOf cX5_sizeOf 2 (some .int) 1 20 d_X5_sizeOf := am_M_of (by decide +kernel) b_X5_sizeOf
theorem dX6_init_0 : decode cX6_init 0 = .ok (.aload_n 0, 1) := by decide +kernel
theorem dX6_init_1 : decode cX6_init 1 = .ok (.invokespecial 1, 3) := by decide +kernel
theorem dX6_init_4 : decode cX6_init 4 = .ok (.aload_n 0, 1) := by decide +kernel
theorem dX6_init_5 : decode cX6_init 5 = .ok (.sipush 900, 3) := by decide +kernel
theorem dX6_init_8 : decode cX6_init 8 = .ok (.newarray .byte, 2) := by decide +kernel
theorem dX6_init_10 : decode cX6_init 10 = .ok (.putfield 9, 3) := by decide +kernel
theorem dX6_init_13 : decode cX6_init 13 = .ok (.aload_n 0, 1) := by decide +kernel
theorem dX6_init_14 : decode cX6_init 14 = .ok (.iconst 0, 1) := by decide +kernel
theorem dX6_init_15 : decode cX6_init 15 = .ok (.putfield 13, 3) := by decide +kernel
theorem dX6_init_18 : decode cX6_init 18 = .ok (.aload_n 0, 1) := by decide +kernel
theorem dX6_init_19 : decode cX6_init 19 = .ok (.new 17, 3) := by decide +kernel
theorem dX6_init_22 : decode cX6_init 22 = .ok (.dup, 1) := by decide +kernel
theorem dX6_init_23 : decode cX6_init 23 = .ok (.invokespecial 19, 3) := by decide +kernel
theorem dX6_init_26 : decode cX6_init 26 = .ok (.putfield 20, 3) := by decide +kernel
theorem dX6_init_29 : decode cX6_init 29 = .ok (.aload_n 0, 1) := by decide +kernel
theorem dX6_init_30 : decode cX6_init 30 = .ok (.new 24, 3) := by decide +kernel
theorem dX6_init_33 : decode cX6_init 33 = .ok (.dup, 1) := by decide +kernel
theorem dX6_init_34 : decode cX6_init 34 = .ok (.invokespecial 26, 3) := by decide +kernel
theorem dX6_init_37 : decode cX6_init 37 = .ok (.putfield 27, 3) := by decide +kernel
theorem dX6_init_40 : decode cX6_init 40 = .ok (.aload_n 0, 1) := by decide +kernel
theorem dX6_init_41 : decode cX6_init 41 = .ok (.new 24, 3) := by decide +kernel
theorem dX6_init_44 : decode cX6_init 44 = .ok (.dup, 1) := by decide +kernel
theorem dX6_init_45 : decode cX6_init 45 = .ok (.invokespecial 26, 3) := by decide +kernel
theorem dX6_init_48 : decode cX6_init 48 = .ok (.putfield 31, 3) := by decide +kernel
theorem dX6_init_51 : decode cX6_init 51 = .ok (.aload_n 0, 1) := by decide +kernel
theorem dX6_init_52 : decode cX6_init 52 = .ok (.iconst 0, 1) := by decide +kernel
theorem dX6_init_53 : decode cX6_init 53 = .ok (.putfield 34, 3) := by decide +kernel
theorem dX6_init_56 : decode cX6_init 56 = .ok (.aload_n 0, 1) := by decide +kernel
theorem dX6_init_57 : decode cX6_init 57 = .ok (.new 38, 3) := by decide +kernel
theorem dX6_init_60 : decode cX6_init 60 = .ok (.dup, 1) := by decide +kernel
theorem dX6_init_61 : decode cX6_init 61 = .ok (.invokespecial 40, 3) := by decide +kernel
theorem dX6_init_64 : decode cX6_init 64 = .ok (.putfield 41, 3) := by decide +kernel
theorem dX6_init_67 : decode cX6_init 67 = .ok (.aload_n 0, 1) := by decide +kernel
theorem dX6_init_68 : decode cX6_init 68 = .ok (.new 38, 3) := by decide +kernel
theorem dX6_init_71 : decode cX6_init 71 = .ok (.dup, 1) := by decide +kernel
theorem dX6_init_72 : decode cX6_init 72 = .ok (.invokespecial 40, 3) := by decide +kernel
theorem dX6_init_75 : decode cX6_init 75 = .ok (.putfield 45, 3) := by decide +kernel
theorem dX6_init_78 : decode cX6_init 78 = .ok (.aload_n 0, 1) := by decide +kernel
theorem dX6_init_79 : decode cX6_init 79 = .ok (.bipush 16, 2) := by decide +kernel
theorem dX6_init_81 : decode cX6_init 81 = .ok (.anewarray 38, 3) := by decide +kernel
theorem dX6_init_84 : decode cX6_init 84 = .ok (.putfield 48, 3) := by decide +kernel
theorem dX6_init_87 : decode cX6_init 87 = .ok (.aload_n 0, 1) := by decide +kernel
theorem dX6_init_88 : decode cX6_init 88 = .ok (.iconst 0, 1) := by decide +kernel
theorem dX6_init_89 : decode cX6_init 89 = .ok (.putfield 52, 3) := by decide +kernel
theorem dX6_init_92 : decode cX6_init 92 = .ok (.aload_n 0, 1) := by decide +kernel
theorem dX6_init_93 : decode cX6_init 93 = .ok (.iconst 3, 1) := by decide +kernel
theorem dX6_init_94 : decode cX6_init 94 = .ok (.anewarray 38, 3) := by decide +kernel
theorem dX6_init_97 : decode cX6_init 97 = .ok (.putfield 55, 3) := by decide +kernel
theorem dX6_init_100 : decode cX6_init 100 = .ok (.aload_n 0, 1) := by decide +kernel
theorem dX6_init_101 : decode cX6_init 101 = .ok (.iconst 0, 1) := by decide +kernel
theorem dX6_init_102 : decode cX6_init 102 = .ok (.putfield 58, 3) := by decide +kernel
theorem dX6_init_105 : decode cX6_init 105 = .ok (.aload_n 0, 1) := by decide +kernel
theorem dX6_init_106 : decode cX6_init 106 = .ok (.new 61, 3) := by decide +kernel
theorem dX6_init_109 : decode cX6_init 109 = .ok (.dup, 1) := by decide +kernel
theorem dX6_init_110 : decode cX6_init 110 = .ok (.invokespecial 63, 3) := by decide +kernel
theorem dX6_init_113 : decode cX6_init 113 = .ok (.putfield 64, 3) := by decide +kernel
theorem dX6_init_116 : decode cX6_init 116 = .ok (.aload_n 0, 1) := by decide +kernel
theorem dX6_init_117 : decode cX6_init 117 = .ok (.new 68, 3) := by decide +kernel
theorem dX6_init_120 : decode cX6_init 120 = .ok (.dup, 1) := by decide +kernel
theorem dX6_init_121 : decode cX6_init 121 = .ok (.invokespecial 70, 3) := by decide +kernel
theorem dX6_init_124 : decode cX6_init 124 = .ok (.putfield 71, 3) := by decide +kernel
theorem dX6_init_127 : decode cX6_init 127 = .ok (.aload_n 0, 1) := by decide +kernel
theorem dX6_init_128 : decode cX6_init 128 = .ok (.iconst 0, 1) := by decide +kernel
theorem dX6_init_129 : decode cX6_init 129 = .ok (.putfield 75, 3) := by decide +kernel
theorem dX6_init_132 : decode cX6_init 132 = .ok (.aload_n 0, 1) := by decide +kernel
theorem dX6_init_133 : decode cX6_init 133 = .ok (.new 78, 3) := by decide +kernel
theorem dX6_init_136 : decode cX6_init 136 = .ok (.dup, 1) := by decide +kernel
theorem dX6_init_137 : decode cX6_init 137 = .ok (.invokespecial 80, 3) := by decide +kernel
theorem dX6_init_140 : decode cX6_init 140 = .ok (.putfield 81, 3) := by decide +kernel
theorem dX6_init_143 : decode cX6_init 143 = .ok (.aload_n 0, 1) := by decide +kernel
theorem dX6_init_144 : decode cX6_init 144 = .ok (.iconst 0, 1) := by decide +kernel
theorem dX6_init_145 : decode cX6_init 145 = .ok (.putfield 85, 3) := by decide +kernel
theorem dX6_init_148 : decode cX6_init 148 = .ok (.iconst 0, 1) := by decide +kernel
theorem dX6_init_149 : decode cX6_init 149 = .ok (.istore_n 1, 1) := by decide +kernel
theorem dX6_init_150 : decode cX6_init 150 = .ok (.iload_n 1, 1) := by decide +kernel
theorem dX6_init_151 : decode cX6_init 151 = .ok (.bipush 16, 2) := by decide +kernel
theorem dX6_init_153 : decode cX6_init 153 = .ok (.if_icmp .ge 22, 3) := by decide +kernel
theorem dX6_init_156 : decode cX6_init 156 = .ok (.aload_n 0, 1) := by decide +kernel
theorem dX6_init_157 : decode cX6_init 157 = .ok (.getfield 48, 3) := by decide +kernel
theorem dX6_init_160 : decode cX6_init 160 = .ok (.iload_n 1, 1) := by decide +kernel
theorem dX6_init_161 : decode cX6_init 161 = .ok (.new 38, 3) := by decide +kernel
theorem dX6_init_164 : decode cX6_init 164 = .ok (.dup, 1) := by decide +kernel
theorem dX6_init_165 : decode cX6_init 165 = .ok (.invokespecial 40, 3) := by decide +kernel
theorem dX6_init_168 : decode cX6_init 168 = .ok (.aastore, 1) := by decide +kernel
theorem dX6_init_169 : decode cX6_init 169 = .ok (.iinc 1 1, 3) := by decide +kernel
theorem dX6_init_172 : decode cX6_init 172 = .ok (.goto (-22), 3) := by decide +kernel
theorem dX6_init_175 : decode cX6_init 175 = .ok (.iconst 0, 1) := by decide +kernel
theorem dX6_init_176 : decode cX6_init 176 = .ok (.istore_n 1, 1) := by decide +kernel
theorem dX6_init_177 : decode cX6_init 177 = .ok (.iload_n 1, 1) := by decide +kernel
theorem dX6_init_178 : decode cX6_init 178 = .ok (.iconst 3, 1) := by decide +kernel
theorem dX6_init_179 : decode cX6_init 179 = .ok (.if_icmp .ge 22, 3) := by decide +kernel
theorem dX6_init_182 : decode cX6_init 182 = .ok (.aload_n 0, 1) := by decide +kernel
theorem dX6_init_183 : decode cX6_init 183 = .ok (.getfield 55, 3) := by decide +kernel
theorem dX6_init_186 : decode cX6_init 186 = .ok (.iload_n 1, 1) := by decide +kernel
theorem dX6_init_187 : decode cX6_init 187 = .ok (.new 38, 3) := by decide +kernel
theorem dX6_init_190 : decode cX6_init 190 = .ok (.dup, 1) := by decide +kernel
theorem dX6_init_191 : decode cX6_init 191 = .ok (.invokespecial 40, 3) := by decide +kernel
theorem dX6_init_194 : decode cX6_init 194 = .ok (.aastore, 1) := by decide +kernel
theorem dX6_init_195 : decode cX6_init 195 = .ok (.iinc 1 1, 3) := by decide +kernel
theorem dX6_init_198 : decode cX6_init 198 = .ok (.goto (-21), 3) := by decide +kernel
theorem dX6_init_201 : decode cX6_init 201 = .ok (.return_, 1) := by decide +kernel
def f_X6_init_l150 : am_F := am_th (i_il 1) (am_th (i_ic (16)) (am_br (b_2 (fun x y => decide (y ≤ x))) (am_to 175) (am_th (i_al 0) (am_th (i_gr 6 8) (am_th (i_il 1) (am_th (i_new 2 6) (am_th (i_dup) (am_th (i_cv 2 0 d_X2_init) (am_th (i_aS) (am_th (i_inc 1 (1)) (am_to 150)))))))))))
def f_X6_init_l177 : am_F := am_th (i_il 1) (am_th (i_ic (3)) (am_br (b_2 (fun x y => decide (y ≤ x))) (am_to 201) (am_th (i_al 0) (am_th (i_gr 6 10) (am_th (i_il 1) (am_th (i_new 2 6) (am_th (i_dup) (am_th (i_cv 2 0 d_X2_init) (am_th (i_aS) (am_th (i_inc 1 (1)) (am_to 177)))))))))))
def f_X6_init : am_F := am_th (i_al 0) (am_th (i_oi) (am_th (i_al 0) (am_th (i_ic (900)) (am_th (i_na 1) (am_th (i_pr 6 0) (am_th (i_al 0) (am_th (i_ic (0)) (am_th (i_pi 6 1) (am_th (i_al 0) (am_th (i_new 4 14) (am_th (i_dup) (am_th (i_cv 4 0 d_X4_init) (am_th (i_pr 6 2) (am_th (i_al 0) (am_th (i_new 5 17) (am_th (i_dup) (am_th (i_cv 5 0 d_X5_init) (am_th (i_pr 6 3) (am_th (i_al 0) (am_th (i_new 5 17) (am_th (i_dup) (am_th (i_cv 5 0 d_X5_init) (am_th (i_pr 6 4) (am_th (i_al 0) (am_th (i_ic (0)) (am_th (i_pz 6 5) (am_th (i_al 0) (am_th (i_new 2 6) (am_th (i_dup) (am_th (i_cv 2 0 d_X2_init) (am_th (i_pr 6 6) (am_th (i_al 0) (am_th (i_new 2 6) (am_th (i_dup) (am_th (i_cv 2 0 d_X2_init) (am_th (i_pr 6 7) (am_th (i_al 0) (am_th (i_ic (16)) (am_th (i_na 3) (am_th (i_pr 6 8) (am_th (i_al 0) (am_th (i_ic (0)) (am_th (i_pi 6 9) (am_th (i_al 0) (am_th (i_ic (3)) (am_th (i_na 3) (am_th (i_pr 6 10) (am_th (i_al 0) (am_th (i_ic (0)) (am_th (i_pi 6 11) (am_th (i_al 0) (am_th (i_new 0 8) (am_th (i_dup) (am_th (i_cv 0 0 d_X0_init) (am_th (i_pr 6 12) (am_th (i_al 0) (am_th (i_new 3 10) (am_th (i_dup) (am_th (i_cv 3 0 d_X3_init) (am_th (i_pr 6 13) (am_th (i_al 0) (am_th (i_ic (0)) (am_th (i_pz 6 14) (am_th (i_al 0) (am_th (i_new 1 4) (am_th (i_dup) (am_th (i_cv 1 0 d_X1_init) (am_th (i_pr 6 15) (am_th (i_al 0) (am_th (i_ic (0)) (am_th (i_pi 6 16) (am_th (i_ic (0)) (am_th (i_is 1) (am_sq 175 (am_lp 5000 150 f_X6_init_l150) (am_th (i_ic (0)) (am_th (i_is 1) (am_sq 201 (am_lp 5000 177 f_X6_init_l177) (r_v))))))))))))))))))))))))))))))))))))))))))))))))))))))))))))))))))))))))))))))
def d_X6_init : am_D := am_den 2 f_X6_init
set_option maxHeartbeats 4000000 in
set_option maxRecDepth 100000 in
theorem b_X6_init : am_Body yX6_init cX6_init 2 none 3 60 f_X6_init := by
  intro p l e R s m args below meth c g n0 z0 r0 u0 C hr hn
  have C : am_Cx p l e R s m args below meth c g RX6 cX6_init 2 n0 z0 (am_len u0) (am_wt u0) 3 60 := C
  have l150 : am_Snd (am_GM p l e R s m args below meth c g 2 n0 z0 r0 u0) (am_Rt r0 u0) 150 (f_X6_init_l150) := by
    unfold f_X6_init_l150
    exact (so_th (so_iload_n C dX6_init_150 rfl) (so_th (so_bipush C dX6_init_151 (by decide)) (so_br (so_icmp_ge C dX6_init_153 (by decide)) (so_to) (so_th (so_aload_n C dX6_init_156 rfl) (so_th (so_getr C fl_RX6_48 dX6_init_157) (so_th (so_iload_n C dX6_init_160 rfl) (so_th (so_new C rfl iw_2 fb_2 k_280 k_39 k_40 dX6_init_161) (so_th (so_dup C dX6_init_164) (so_th (so_ciN C m_X2_init k_41 (List.mem_of_getElem? (i := 2) rfl) k_42 k_40 ⟨rfl, by decide, by decide, by decide +kernel⟩ (by decide) dX6_init_165) (so_th (so_aast C dX6_init_168) (so_th (so_iinc C dX6_init_169 (by decide) (by decide)) (so_goto C dX6_init_172 (by decide) (so_to)))))))))))))
  have l177 : am_Snd (am_GM p l e R s m args below meth c g 2 n0 z0 r0 u0) (am_Rt r0 u0) 177 (f_X6_init_l177) := by
    unfold f_X6_init_l177
    exact (so_th (so_iload_n C dX6_init_177 rfl) (so_th (so_iconst C dX6_init_178 (by decide)) (so_br (so_icmp_ge C dX6_init_179 (by decide)) (so_to) (so_th (so_aload_n C dX6_init_182 rfl) (so_th (so_getr C fl_RX6_55 dX6_init_183) (so_th (so_iload_n C dX6_init_186 rfl) (so_th (so_new C rfl iw_2 fb_2 k_280 k_39 k_40 dX6_init_187) (so_th (so_dup C dX6_init_190) (so_th (so_ciN C m_X2_init k_41 (List.mem_of_getElem? (i := 2) rfl) k_42 k_40 ⟨rfl, by decide, by decide, by decide +kernel⟩ (by decide) dX6_init_191) (so_th (so_aast C dX6_init_194) (so_th (so_iinc C dX6_init_195 (by decide) (by decide)) (so_goto C dX6_init_198 (by decide) (so_to)))))))))))))
  unfold f_X6_init
  exact (so_th (so_aload_n C dX6_init_0 rfl) (so_th (so_oinit C k_270 k_1 k_2 (by decide) dX6_init_1) (so_th (so_aload_n C dX6_init_4 rfl) (so_th (so_sipush C dX6_init_5 (by decide)) (so_th (so_newB C k_271 dX6_init_8) (so_th (so_putr C fl_RX6_9 (Or.inr ⟨_, rfl⟩) fp_6 (Or.inr ⟨rfl, hn, rfl⟩) dX6_init_10) (so_th (so_aload_n C dX6_init_13 rfl) (so_th (so_iconst C dX6_init_14 (by decide)) (so_th (so_puti C fl_RX6_13 fp_6 (Or.inl rfl) dX6_init_15) (so_th (so_aload_n C dX6_init_18 rfl) (so_th (so_new C rfl iw_4 fb_4 k_272 k_273 k_150 dX6_init_19) (so_th (so_dup C dX6_init_22) (so_th (so_ciN C m_X4_init k_274 (List.mem_of_getElem? (i := 0) rfl) k_275 k_150 ⟨rfl, by decide, by decide, by decide +kernel⟩ (by decide) dX6_init_23) (so_th (so_putr C fl_RX6_20 (Or.inl ⟨_, rfl⟩) fp_6 (Or.inr ⟨rfl, hn, rfl⟩) dX6_init_26) (so_th (so_aload_n C dX6_init_29 rfl) (so_th (so_new C rfl iw_5 fb_5 k_276 k_277 k_8 dX6_init_30) (so_th (so_dup C dX6_init_33) (so_th (so_ciN C m_X5_init k_278 (List.mem_of_getElem? (i := 1) rfl) k_279 k_8 ⟨rfl, by decide, by decide, by decide +kernel⟩ (by decide) dX6_init_34) (so_th (so_putr C fl_RX6_27 (Or.inl ⟨_, rfl⟩) fp_6 (Or.inl rfl) dX6_init_37) (so_th (so_aload_n C dX6_init_40 rfl) (so_th (so_new C rfl iw_5 fb_5 k_276 k_277 k_8 dX6_init_41) (so_th (so_dup C dX6_init_44) (so_th (so_ciN C m_X5_init k_278 (List.mem_of_getElem? (i := 1) rfl) k_279 k_8 ⟨rfl, by decide, by decide, by decide +kernel⟩ (by decide) dX6_init_45) (so_th (so_putr C fl_RX6_31 (Or.inl ⟨_, rfl⟩) fp_6 (Or.inl rfl) dX6_init_48) (so_th (so_aload_n C dX6_init_51 rfl) (so_th (so_iconst C dX6_init_52 (by decide)) (so_th (so_putz C fl_RX6_34 fp_6 (Or.inl rfl) dX6_init_53) (so_th (so_aload_n C dX6_init_56 rfl) (so_th (so_new C rfl iw_2 fb_2 k_280 k_39 k_40 dX6_init_57) (so_th (so_dup C dX6_init_60) (so_th (so_ciN C m_X2_init k_41 (List.mem_of_getElem? (i := 2) rfl) k_42 k_40 ⟨rfl, by decide, by decide, by decide +kernel⟩ (by decide) dX6_init_61) (so_th (so_putr C fl_RX6_41 (Or.inl ⟨_, rfl⟩) fp_6 (Or.inr ⟨rfl, hn, rfl⟩) dX6_init_64) (so_th (so_aload_n C dX6_init_67 rfl) (so_th (so_new C rfl iw_2 fb_2 k_280 k_39 k_40 dX6_init_68) (so_th (so_dup C dX6_init_71) (so_th (so_ciN C m_X2_init k_41 (List.mem_of_getElem? (i := 2) rfl) k_42 k_40 ⟨rfl, by decide, by decide, by decide +kernel⟩ (by decide) dX6_init_72) (so_th (so_putr C fl_RX6_45 (Or.inl ⟨_, rfl⟩) fp_6 (Or.inr ⟨rfl, hn, rfl⟩) dX6_init_75) (so_th (so_aload_n C dX6_init_78 rfl) (so_th (so_bipush C dX6_init_79 (by decide)) (so_th (so_newG C k_280 dX6_init_81) (so_th (so_putr C fl_RX6_48 (Or.inr ⟨_, rfl⟩) fp_6 (Or.inr ⟨rfl, hn, rfl⟩) dX6_init_84) (so_th (so_aload_n C dX6_init_87 rfl) (so_th (so_iconst C dX6_init_88 (by decide)) (so_th (so_puti C fl_RX6_52 fp_6 (Or.inl rfl) dX6_init_89) (so_th (so_aload_n C dX6_init_92 rfl) (so_th (so_iconst C dX6_init_93 (by decide)) (so_th (so_newG C k_280 dX6_init_94) (so_th (so_putr C fl_RX6_55 (Or.inr ⟨_, rfl⟩) fp_6 (Or.inr ⟨rfl, hn, rfl⟩) dX6_init_97) (so_th (so_aload_n C dX6_init_100 rfl) (so_th (so_iconst C dX6_init_101 (by decide)) (so_th (so_puti C fl_RX6_58 fp_6 (Or.inl rfl) dX6_init_102) (so_th (so_aload_n C dX6_init_105 rfl) (so_th (so_new C rfl iw_0 fb_0 k_281 k_282 k_21 dX6_init_106) (so_th (so_dup C dX6_init_109) (so_th (so_ciN C m_X0_init k_283 (List.mem_of_getElem? (i := 3) rfl) k_284 k_21 ⟨rfl, by decide, by decide, by decide +kernel⟩ (by decide) dX6_init_110) (so_th (so_putr C fl_RX6_64 (Or.inl ⟨_, rfl⟩) fp_6 (Or.inr ⟨rfl, hn, rfl⟩) dX6_init_113) (so_th (so_aload_n C dX6_init_116 rfl) (so_th (so_new C rfl iw_3 fb_3 k_285 k_286 k_113 dX6_init_117) (so_th (so_dup C dX6_init_120) (so_th (so_ciN C m_X3_init k_287 (List.mem_of_getElem? (i := 4) rfl) k_288 k_113 ⟨rfl, by decide, by decide, by decide +kernel⟩ (by decide) dX6_init_121) (so_th (so_putr C fl_RX6_71 (Or.inl ⟨_, rfl⟩) fp_6 (Or.inr ⟨rfl, hn, rfl⟩) dX6_init_124) (so_th (so_aload_n C dX6_init_127 rfl) (so_th (so_iconst C dX6_init_128 (by decide)) (so_th (so_putz C fl_RX6_75 fp_6 (Or.inl rfl) dX6_init_129) (so_th (so_aload_n C dX6_init_132 rfl) (so_th (so_new C rfl iw_1 fb_1 k_289 k_290 k_59 dX6_init_133) (so_th (so_dup C dX6_init_136) (so_th (so_ciN C m_X1_init k_291 (List.mem_of_getElem? (i := 5) rfl) k_292 k_59 ⟨rfl, by decide, by decide, by decide +kernel⟩ (by decide) dX6_init_137) (so_th (so_putr C fl_RX6_81 (Or.inl ⟨_, rfl⟩) fp_6 (Or.inr ⟨rfl, hn, rfl⟩) dX6_init_140) (so_th (so_aload_n C dX6_init_143 rfl) (so_th (so_iconst C dX6_init_144 (by decide)) (so_th (so_puti C fl_RX6_85 fp_6 (Or.inl rfl) dX6_init_145) (so_th (so_iconst C dX6_init_148 (by decide)) (so_th (so_istore_n C dX6_init_149 rfl (by decide)) (so_sq (so_lp l150 5000) (so_th (so_iconst C dX6_init_175 (by decide)) (so_th (so_istore_n C dX6_init_176 rfl (by decide)) (so_sq (so_lp l177 5000) (so_rv C hr dX6_init_201)))))))))))))))))))))))))))))))))))))))))))))))))))))))))))))))))))))))))))))))
theorem m_X6_init : am_M yX6_init cX6_init 2 none 3 60 d_X6_init := am_M_of (by decide +kernel) b_X6_init
theorem dX6_putFourBytes_0 : decode cX6_putFourBytes 0 = .ok (.bipush 24, 2) := by decide +kernel
theorem dX6_putFourBytes_2 : decode cX6_putFourBytes 2 = .ok (.istore_n 2, 1) := by decide +kernel
theorem dX6_putFourBytes_3 : decode cX6_putFourBytes 3 = .ok (.iload_n 2, 1) := by decide +kernel
theorem dX6_putFourBytes_4 : decode cX6_putFourBytes 4 = .ok (.ifCond .lt 42, 3) := by decide +kernel
theorem dX6_putFourBytes_7 : decode cX6_putFourBytes 7 = .ok (.aload_n 0, 1) := by decide +kernel
theorem dX6_putFourBytes_8 : decode cX6_putFourBytes 8 = .ok (.getfield 13, 3) := by decide +kernel
theorem dX6_putFourBytes_11 : decode cX6_putFourBytes 11 = .ok (.sipush 900, 3) := by decide +kernel
theorem dX6_putFourBytes_14 : decode cX6_putFourBytes 14 = .ok (.if_icmp .ge 26, 3) := by decide +kernel
theorem dX6_putFourBytes_17 : decode cX6_putFourBytes 17 = .ok (.aload_n 0, 1) := by decide +kernel
theorem dX6_putFourBytes_18 : decode cX6_putFourBytes 18 = .ok (.getfield 9, 3) := by decide +kernel
theorem dX6_putFourBytes_21 : decode cX6_putFourBytes 21 = .ok (.aload_n 0, 1) := by decide +kernel
theorem dX6_putFourBytes_22 : decode cX6_putFourBytes 22 = .ok (.getfield 13, 3) := by decide +kernel
theorem dX6_putFourBytes_25 : decode cX6_putFourBytes 25 = .ok (.iload_n 1, 1) := by decide +kernel
theorem dX6_putFourBytes_26 : decode cX6_putFourBytes 26 = .ok (.iload_n 2, 1) := by decide +kernel
theorem dX6_putFourBytes_27 : decode cX6_putFourBytes 27 = .ok (.ishr, 1) := by decide +kernel
theorem dX6_putFourBytes_28 : decode cX6_putFourBytes 28 = .ok (.i2b, 1) := by decide +kernel
theorem dX6_putFourBytes_29 : decode cX6_putFourBytes 29 = .ok (.bastore, 1) := by decide +kernel
theorem dX6_putFourBytes_30 : decode cX6_putFourBytes 30 = .ok (.aload_n 0, 1) := by decide +kernel
theorem dX6_putFourBytes_31 : decode cX6_putFourBytes 31 = .ok (.dup, 1) := by decide +kernel
theorem dX6_putFourBytes_32 : decode cX6_putFourBytes 32 = .ok (.getfield 13, 3) := by decide +kernel
theorem dX6_putFourBytes_35 : decode cX6_putFourBytes 35 = .ok (.iconst 1, 1) := by decide +kernel
theorem dX6_putFourBytes_36 : decode cX6_putFourBytes 36 = .ok (.iadd, 1) := by decide +kernel
theorem dX6_putFourBytes_37 : decode cX6_putFourBytes 37 = .ok (.putfield 13, 3) := by decide +kernel
theorem dX6_putFourBytes_40 : decode cX6_putFourBytes 40 = .ok (.iinc 2 (-8), 3) := by decide +kernel
theorem dX6_putFourBytes_43 : decode cX6_putFourBytes 43 = .ok (.goto (-40), 3) := by decide +kernel
theorem dX6_putFourBytes_46 : decode cX6_putFourBytes 46 = .ok (.return_, 1) := by decide +kernel
def f_X6_putFourBytes_l3 : am_F := am_th (i_il 2) (am_br (b_1 (fun x => decide (x < 0))) (am_to 46) (am_th (i_al 0) (am_th (i_gi 6 1) (am_th (i_ic (900)) (am_sq 40 (am_br (b_2 (fun x y => decide (y ≤ x))) (am_to 40) (am_th (i_al 0) (am_th (i_gr 6 0) (am_th (i_al 0) (am_th (i_gi 6 1) (am_th (i_il 1) (am_th (i_il 2) (am_th (i_2 (fun x y => x >>> (y &&& 31))) (am_th (i_1 (fun x => x.toInt8.toInt32)) (am_th (i_bS) (am_th (i_al 0) (am_th (i_dup) (am_th (i_gi 6 1) (am_th (i_ic (1)) (am_th (i_2 (fun x y => x + y)) (am_th (i_pi 6 1) (am_to 40))))))))))))))))) (am_th (i_inc 2 (-8)) (am_to 3)))))))
def f_X6_putFourBytes : am_F := am_th (i_ic (24)) (am_th (i_is 2) (am_sq 46 (am_lp 5000 3 f_X6_putFourBytes_l3) (r_v)))
def d_X6_putFourBytes : am_D := am_den 3 f_X6_putFourBytes
set_option maxHeartbeats 4000000 in
set_option maxRecDepth 100000 in
theorem b_X6_putFourBytes : am_Body yX6_putFourBytes cX6_putFourBytes 3 none 0 0 f_X6_putFourBytes := by
  intro p l e R s m args below meth c g n0 z0 r0 u0 C hr hn
  have C : am_Cx p l e R s m args below meth c g RX6 cX6_putFourBytes 3 n0 z0 (am_len u0) (am_wt u0) 0 0 := C
  have l3 : am_Snd (am_GM p l e R s m args below meth c g 3 n0 z0 r0 u0) (am_Rt r0 u0) 3 (f_X6_putFourBytes_l3) := by
    unfold f_X6_putFourBytes_l3
    exact (so_th (so_iload_n C dX6_putFourBytes_3 rfl) (so_br (so_if_lt C dX6_putFourBytes_4 (by decide)) (so_to) (so_th (so_aload_n C dX6_putFourBytes_7 rfl) (so_th (so_geti C fl_RX6_13 (by decide) dX6_putFourBytes_8) (so_th (so_sipush C dX6_putFourBytes_11 (by decide)) (so_sq (so_br (so_icmp_ge C dX6_putFourBytes_14 (by decide)) (so_to) (so_th (so_aload_n C dX6_putFourBytes_17 rfl) (so_th (so_getr C fl_RX6_9 dX6_putFourBytes_18) (so_th (so_aload_n C dX6_putFourBytes_21 rfl) (so_th (so_geti C fl_RX6_13 (by decide) dX6_putFourBytes_22) (so_th (so_iload_n C dX6_putFourBytes_25 rfl) (so_th (so_iload_n C dX6_putFourBytes_26 rfl) (so_th (so_ishr C dX6_putFourBytes_27) (so_th (so_i2b C dX6_putFourBytes_28) (so_th (so_bast C dX6_putFourBytes_29) (so_th (so_aload_n C dX6_putFourBytes_30 rfl) (so_th (so_dup C dX6_putFourBytes_31) (so_th (so_geti C fl_RX6_13 (by decide) dX6_putFourBytes_32) (so_th (so_iconst C dX6_putFourBytes_35 (by decide)) (so_th (so_iadd C dX6_putFourBytes_36) (so_th (so_puti C fl_RX6_13 fp_6 (Or.inl rfl) dX6_putFourBytes_37) (so_to))))))))))))))))) (so_th (so_iinc C dX6_putFourBytes_40 (by decide) (by decide)) (so_goto C dX6_putFourBytes_43 (by decide) (so_to)))))))))
  unfold f_X6_putFourBytes
  exact (so_th (so_bipush C dX6_putFourBytes_0 (by decide)) (so_th (so_istore_n C dX6_putFourBytes_2 rfl (by decide)) (so_sq (so_lp l3 5000) (so_rv C hr dX6_putFourBytes_46))))
theorem m_X6_putFourBytes : am_M yX6_putFourBytes cX6_putFourBytes 3 none 0 0 d_X6_putFourBytes := am_M_of (by decide +kernel) b_X6_putFourBytes
theorem dX6_feed_0 : decode cX6_feed 0 = .ok (.aload_n 0, 1) := by decide +kernel
theorem dX6_feed_1 : decode cX6_feed 1 = .ok (.getfield 13, 3) := by decide +kernel
theorem dX6_feed_4 : decode cX6_feed 4 = .ok (.bipush 20, 2) := by decide +kernel
theorem dX6_feed_6 : decode cX6_feed 6 = .ok (.iadd, 1) := by decide +kernel
theorem dX6_feed_7 : decode cX6_feed 7 = .ok (.sipush 900, 3) := by decide +kernel
theorem dX6_feed_10 : decode cX6_feed 10 = .ok (.if_icmp .le 5, 3) := by decide +kernel
theorem dX6_feed_13 : decode cX6_feed 13 = .ok (.iconst (-1), 1) := by decide +kernel
theorem dX6_feed_14 : decode cX6_feed 14 = .ok (.ireturn, 1) := by decide +kernel
theorem dX6_feed_15 : decode cX6_feed 15 = .ok (.aload_n 0, 1) := by decide +kernel
theorem dX6_feed_16 : decode cX6_feed 16 = .ok (.iload_n 1, 1) := by decide +kernel
theorem dX6_feed_17 : decode cX6_feed 17 = .ok (.invokevirtual 88, 3) := by decide +kernel
theorem dX6_feed_20 : decode cX6_feed 20 = .ok (.aload_n 0, 1) := by decide +kernel
theorem dX6_feed_21 : decode cX6_feed 21 = .ok (.iload_n 2, 1) := by decide +kernel
theorem dX6_feed_22 : decode cX6_feed 22 = .ok (.invokevirtual 88, 3) := by decide +kernel
theorem dX6_feed_25 : decode cX6_feed 25 = .ok (.aload_n 0, 1) := by decide +kernel
theorem dX6_feed_26 : decode cX6_feed 26 = .ok (.iload_n 3, 1) := by decide +kernel
theorem dX6_feed_27 : decode cX6_feed 27 = .ok (.invokevirtual 88, 3) := by decide +kernel
theorem dX6_feed_30 : decode cX6_feed 30 = .ok (.aload_n 0, 1) := by decide +kernel
theorem dX6_feed_31 : decode cX6_feed 31 = .ok (.iload 4, 2) := by decide +kernel
theorem dX6_feed_33 : decode cX6_feed 33 = .ok (.invokevirtual 88, 3) := by decide +kernel
theorem dX6_feed_36 : decode cX6_feed 36 = .ok (.aload_n 0, 1) := by decide +kernel
theorem dX6_feed_37 : decode cX6_feed 37 = .ok (.iload 5, 2) := by decide +kernel
theorem dX6_feed_39 : decode cX6_feed 39 = .ok (.invokevirtual 88, 3) := by decide +kernel
theorem dX6_feed_42 : decode cX6_feed 42 = .ok (.aload_n 0, 1) := by decide +kernel
theorem dX6_feed_43 : decode cX6_feed 43 = .ok (.getfield 13, 3) := by decide +kernel
theorem dX6_feed_46 : decode cX6_feed 46 = .ok (.ireturn, 1) := by decide +kernel
def f_X6_feed : am_F := am_th (i_al 0) (am_th (i_gi 6 1) (am_th (i_ic (20)) (am_th (i_2 (fun x y => x + y)) (am_th (i_ic (900)) (am_br (b_2 (fun x y => decide (x ≤ y))) (am_th (i_al 0) (am_th (i_il 1) (am_th (i_cv 6 1 d_X6_putFourBytes) (am_th (i_al 0) (am_th (i_il 2) (am_th (i_cv 6 1 d_X6_putFourBytes) (am_th (i_al 0) (am_th (i_il 3) (am_th (i_cv 6 1 d_X6_putFourBytes) (am_th (i_al 0) (am_th (i_il 4) (am_th (i_cv 6 1 d_X6_putFourBytes) (am_th (i_al 0) (am_th (i_il 5) (am_th (i_cv 6 1 d_X6_putFourBytes) (am_th (i_al 0) (am_th (i_gi 6 1) (r_i)))))))))))))))))) (am_th (i_ic (-1)) (r_i)))))))
def d_X6_feed : am_D := am_den 6 f_X6_feed
set_option maxHeartbeats 4000000 in
set_option maxRecDepth 100000 in
theorem b_X6_feed : am_Body yX6_feed cX6_feed 6 (some .int) 1 22 f_X6_feed := by
  intro p l e R s m args below meth c g n0 z0 r0 u0 C hr hn
  have C : am_Cx p l e R s m args below meth c g RX6 cX6_feed 6 n0 z0 (am_len u0) (am_wt u0) 1 22 := C
  unfold f_X6_feed
  exact (so_th (so_aload_n C dX6_feed_0 rfl) (so_th (so_geti C fl_RX6_13 (by decide) dX6_feed_1) (so_th (so_bipush C dX6_feed_4 (by decide)) (so_th (so_iadd C dX6_feed_6) (so_th (so_sipush C dX6_feed_7 (by decide)) (so_br (so_icmp_le C dX6_feed_10 (by decide)) (so_th (so_aload_n C dX6_feed_15 rfl) (so_th (so_iload_n C dX6_feed_16 rfl) (so_th (so_cv C m_X6_putFourBytes rfl k_293 k_295 k_294 k_296 k_5 ⟨by decide, by decide, by decide +kernel⟩ (by decide) dX6_feed_17) (so_th (so_aload_n C dX6_feed_20 rfl) (so_th (so_iload_n C dX6_feed_21 rfl) (so_th (so_cv C m_X6_putFourBytes rfl k_293 k_295 k_294 k_296 k_5 ⟨by decide, by decide, by decide +kernel⟩ (by decide) dX6_feed_22) (so_th (so_aload_n C dX6_feed_25 rfl) (so_th (so_iload_n C dX6_feed_26 rfl) (so_th (so_cv C m_X6_putFourBytes rfl k_293 k_295 k_294 k_296 k_5 ⟨by decide, by decide, by decide +kernel⟩ (by decide) dX6_feed_27) (so_th (so_aload_n C dX6_feed_30 rfl) (so_th (so_iload C dX6_feed_31) (so_th (so_cv C m_X6_putFourBytes rfl k_293 k_295 k_294 k_296 k_5 ⟨by decide, by decide, by decide +kernel⟩ (by decide) dX6_feed_33) (so_th (so_aload_n C dX6_feed_36 rfl) (so_th (so_iload C dX6_feed_37) (so_th (so_cv C m_X6_putFourBytes rfl k_293 k_295 k_294 k_296 k_5 ⟨by decide, by decide, by decide +kernel⟩ (by decide) dX6_feed_39) (so_th (so_aload_n C dX6_feed_42 rfl) (so_th (so_geti C fl_RX6_13 (by decide) dX6_feed_43) (so_ri C hr dX6_feed_46)))))))))))))))))) (so_th (so_iconst C dX6_feed_13 (by decide)) (so_ri C hr dX6_feed_14))))))))
theorem m_X6_feed : am_M yX6_feed cX6_feed 6 (some .int) 1 22 d_X6_feed := am_M_of (by decide +kernel) b_X6_feed
theorem dX6_refuse_0 : decode cX6_refuse 0 = .ok (.aload_n 0, 1) := by decide +kernel
theorem dX6_refuse_1 : decode cX6_refuse 1 = .ok (.iload_n 1, 1) := by decide +kernel
theorem dX6_refuse_2 : decode cX6_refuse 2 = .ok (.putfield 85, 3) := by decide +kernel
theorem dX6_refuse_5 : decode cX6_refuse 5 = .ok (.iconst (-1), 1) := by decide +kernel
theorem dX6_refuse_6 : decode cX6_refuse 6 = .ok (.ireturn, 1) := by decide +kernel
def f_X6_refuse : am_F := am_th (i_al 0) (am_th (i_il 1) (am_th (i_pi 6 16) (am_th (i_ic (-1)) (r_i))))
def d_X6_refuse : am_D := am_den 2 f_X6_refuse
set_option maxHeartbeats 4000000 in
set_option maxRecDepth 100000 in
theorem b_X6_refuse : am_Body yX6_refuse cX6_refuse 2 (some .int) 0 0 f_X6_refuse := by
  intro p l e R s m args below meth c g n0 z0 r0 u0 C hr hn
  have C : am_Cx p l e R s m args below meth c g RX6 cX6_refuse 2 n0 z0 (am_len u0) (am_wt u0) 0 0 := C
  unfold f_X6_refuse
  exact (so_th (so_aload_n C dX6_refuse_0 rfl) (so_th (so_iload_n C dX6_refuse_1 rfl) (so_th (so_puti C fl_RX6_85 fp_6 (Or.inl rfl) dX6_refuse_2) (so_th (so_iconst C dX6_refuse_5 (by decide)) (so_ri C hr dX6_refuse_6)))))
theorem m_X6_refuse : am_M yX6_refuse cX6_refuse 2 (some .int) 0 0 d_X6_refuse := am_M_of (by decide +kernel) b_X6_refuse
theorem dX6_answer_0 : decode cX6_answer 0 = .ok (.aload_n 0, 1) := by decide +kernel
theorem dX6_answer_1 : decode cX6_answer 1 = .ok (.iconst 0, 1) := by decide +kernel
theorem dX6_answer_2 : decode cX6_answer 2 = .ok (.putfield 85, 3) := by decide +kernel
theorem dX6_answer_5 : decode cX6_answer 5 = .ok (.iload_n 1, 1) := by decide +kernel
theorem dX6_answer_6 : decode cX6_answer 6 = .ok (.ireturn, 1) := by decide +kernel
def f_X6_answer : am_F := am_th (i_al 0) (am_th (i_ic (0)) (am_th (i_pi 6 16) (am_th (i_il 1) (r_i))))
def d_X6_answer : am_D := am_den 2 f_X6_answer
set_option maxHeartbeats 4000000 in
set_option maxRecDepth 100000 in
theorem b_X6_answer : am_Body yX6_answer cX6_answer 2 (some .int) 0 0 f_X6_answer := by
  intro p l e R s m args below meth c g n0 z0 r0 u0 C hr hn
  have C : am_Cx p l e R s m args below meth c g RX6 cX6_answer 2 n0 z0 (am_len u0) (am_wt u0) 0 0 := C
  unfold f_X6_answer
  exact (so_th (so_aload_n C dX6_answer_0 rfl) (so_th (so_iconst C dX6_answer_1 (by decide)) (so_th (so_puti C fl_RX6_85 fp_6 (Or.inl rfl) dX6_answer_2) (so_th (so_iload_n C dX6_answer_5 rfl) (so_ri C hr dX6_answer_6)))))
theorem m_X6_answer : am_M yX6_answer cX6_answer 2 (some .int) 0 0 d_X6_answer := am_M_of (by decide +kernel) b_X6_answer
theorem dX6_valley_0 : decode cX6_valley 0 = .ok (.iload_n 1, 1) := by decide +kernel
theorem dX6_valley_1 : decode cX6_valley 1 = .ok (.ifCond .lt 11, 3) := by decide +kernel
theorem dX6_valley_4 : decode cX6_valley 4 = .ok (.iload_n 1, 1) := by decide +kernel
theorem dX6_valley_5 : decode cX6_valley 5 = .ok (.aload_n 0, 1) := by decide +kernel
theorem dX6_valley_6 : decode cX6_valley 6 = .ok (.getfield 13, 3) := by decide +kernel
theorem dX6_valley_9 : decode cX6_valley 9 = .ok (.if_icmp .le 9, 3) := by decide +kernel
theorem dX6_valley_12 : decode cX6_valley 12 = .ok (.aload_n 0, 1) := by decide +kernel
theorem dX6_valley_13 : decode cX6_valley 13 = .ok (.iconst 2, 1) := by decide +kernel
theorem dX6_valley_14 : decode cX6_valley 14 = .ok (.invokevirtual 92, 3) := by decide +kernel
theorem dX6_valley_17 : decode cX6_valley 17 = .ok (.ireturn, 1) := by decide +kernel
theorem dX6_valley_18 : decode cX6_valley 18 = .ok (.aload_n 0, 1) := by decide +kernel
theorem dX6_valley_19 : decode cX6_valley 19 = .ok (.iconst 0, 1) := by decide +kernel
theorem dX6_valley_20 : decode cX6_valley 20 = .ok (.putfield 13, 3) := by decide +kernel
theorem dX6_valley_23 : decode cX6_valley 23 = .ok (.aload_n 0, 1) := by decide +kernel
theorem dX6_valley_24 : decode cX6_valley 24 = .ok (.getfield 20, 3) := by decide +kernel
theorem dX6_valley_27 : decode cX6_valley 27 = .ok (.aload_n 0, 1) := by decide +kernel
theorem dX6_valley_28 : decode cX6_valley 28 = .ok (.getfield 9, 3) := by decide +kernel
theorem dX6_valley_31 : decode cX6_valley 31 = .ok (.iload_n 1, 1) := by decide +kernel
theorem dX6_valley_32 : decode cX6_valley 32 = .ok (.aload_n 0, 1) := by decide +kernel
theorem dX6_valley_33 : decode cX6_valley 33 = .ok (.getfield 31, 3) := by decide +kernel
theorem dX6_valley_36 : decode cX6_valley 36 = .ok (.invokevirtual 96, 3) := by decide +kernel
theorem dX6_valley_39 : decode cX6_valley 39 = .ok (.ifCond .ne 9, 3) := by decide +kernel
theorem dX6_valley_42 : decode cX6_valley 42 = .ok (.aload_n 0, 1) := by decide +kernel
theorem dX6_valley_43 : decode cX6_valley 43 = .ok (.iconst 4, 1) := by decide +kernel
theorem dX6_valley_44 : decode cX6_valley 44 = .ok (.invokevirtual 92, 3) := by decide +kernel
theorem dX6_valley_47 : decode cX6_valley 47 = .ok (.ireturn, 1) := by decide +kernel
theorem dX6_valley_48 : decode cX6_valley 48 = .ok (.aload_n 0, 1) := by decide +kernel
theorem dX6_valley_49 : decode cX6_valley 49 = .ok (.getfield 27, 3) := by decide +kernel
theorem dX6_valley_52 : decode cX6_valley 52 = .ok (.astore_n 2, 1) := by decide +kernel
theorem dX6_valley_53 : decode cX6_valley 53 = .ok (.aload_n 0, 1) := by decide +kernel
theorem dX6_valley_54 : decode cX6_valley 54 = .ok (.aload_n 0, 1) := by decide +kernel
theorem dX6_valley_55 : decode cX6_valley 55 = .ok (.getfield 31, 3) := by decide +kernel
theorem dX6_valley_58 : decode cX6_valley 58 = .ok (.putfield 27, 3) := by decide +kernel
theorem dX6_valley_61 : decode cX6_valley 61 = .ok (.aload_n 0, 1) := by decide +kernel
theorem dX6_valley_62 : decode cX6_valley 62 = .ok (.aload_n 2, 1) := by decide +kernel
theorem dX6_valley_63 : decode cX6_valley 63 = .ok (.putfield 31, 3) := by decide +kernel
theorem dX6_valley_66 : decode cX6_valley 66 = .ok (.aload_n 0, 1) := by decide +kernel
theorem dX6_valley_67 : decode cX6_valley 67 = .ok (.iconst 1, 1) := by decide +kernel
theorem dX6_valley_68 : decode cX6_valley 68 = .ok (.putfield 34, 3) := by decide +kernel
theorem dX6_valley_71 : decode cX6_valley 71 = .ok (.aload_n 0, 1) := by decide +kernel
theorem dX6_valley_72 : decode cX6_valley 72 = .ok (.getfield 41, 3) := by decide +kernel
theorem dX6_valley_75 : decode cX6_valley 75 = .ok (.aload_n 0, 1) := by decide +kernel
theorem dX6_valley_76 : decode cX6_valley 76 = .ok (.getfield 27, 3) := by decide +kernel
theorem dX6_valley_79 : decode cX6_valley 79 = .ok (.invokevirtual 100, 3) := by decide +kernel
theorem dX6_valley_82 : decode cX6_valley 82 = .ok (.aload_n 0, 1) := by decide +kernel
theorem dX6_valley_83 : decode cX6_valley 83 = .ok (.iconst 0, 1) := by decide +kernel
theorem dX6_valley_84 : decode cX6_valley 84 = .ok (.putfield 52, 3) := by decide +kernel
theorem dX6_valley_87 : decode cX6_valley 87 = .ok (.aload_n 0, 1) := by decide +kernel
theorem dX6_valley_88 : decode cX6_valley 88 = .ok (.iconst 0, 1) := by decide +kernel
theorem dX6_valley_89 : decode cX6_valley 89 = .ok (.putfield 58, 3) := by decide +kernel
theorem dX6_valley_92 : decode cX6_valley 92 = .ok (.aload_n 0, 1) := by decide +kernel
theorem dX6_valley_93 : decode cX6_valley 93 = .ok (.iconst 0, 1) := by decide +kernel
theorem dX6_valley_94 : decode cX6_valley 94 = .ok (.putfield 75, 3) := by decide +kernel
theorem dX6_valley_97 : decode cX6_valley 97 = .ok (.aload_n 0, 1) := by decide +kernel
theorem dX6_valley_98 : decode cX6_valley 98 = .ok (.aload_n 0, 1) := by decide +kernel
theorem dX6_valley_99 : decode cX6_valley 99 = .ok (.getfield 27, 3) := by decide +kernel
theorem dX6_valley_102 : decode cX6_valley 102 = .ok (.getfield 104, 3) := by decide +kernel
theorem dX6_valley_105 : decode cX6_valley 105 = .ok (.invokevirtual 107, 3) := by decide +kernel
theorem dX6_valley_108 : decode cX6_valley 108 = .ok (.ireturn, 1) := by decide +kernel
def f_X6_valley : am_F := am_th (i_il 1) (am_br (b_1 (fun x => decide (x < 0))) (am_th (i_al 0) (am_th (i_ic (2)) (am_th (i_cv 6 1 d_X6_refuse) (r_i)))) (am_th (i_il 1) (am_th (i_al 0) (am_th (i_gi 6 1) (am_br (b_2 (fun x y => decide (x ≤ y))) (am_th (i_al 0) (am_th (i_ic (0)) (am_th (i_pi 6 1) (am_th (i_al 0) (am_th (i_gr 6 2) (am_th (i_al 0) (am_th (i_gr 6 0) (am_th (i_il 1) (am_th (i_al 0) (am_th (i_gr 6 4) (am_th (i_cv 4 3 d_X4_readValley) (am_br (b_1 (fun x => decide (¬ x = 0))) (am_th (i_al 0) (am_th (i_gr 6 3) (am_th (i_as 2) (am_th (i_al 0) (am_th (i_al 0) (am_th (i_gr 6 4) (am_th (i_pr 6 3) (am_th (i_al 0) (am_th (i_al 2) (am_th (i_pr 6 4) (am_th (i_al 0) (am_th (i_ic (1)) (am_th (i_pz 6 5) (am_th (i_al 0) (am_th (i_gr 6 6) (am_th (i_al 0) (am_th (i_gr 6 3) (am_th (i_cv 2 1 d_X2_plant) (am_th (i_al 0) (am_th (i_ic (0)) (am_th (i_pi 6 9) (am_th (i_al 0) (am_th (i_ic (0)) (am_th (i_pi 6 11) (am_th (i_al 0) (am_th (i_ic (0)) (am_th (i_pz 6 14) (am_th (i_al 0) (am_th (i_al 0) (am_th (i_gr 6 3) (am_th (i_gi 5 3) (am_th (i_cv 6 1 d_X6_answer) (r_i))))))))))))))))))))))))))))))))) (am_th (i_al 0) (am_th (i_ic (4)) (am_th (i_cv 6 1 d_X6_refuse) (r_i)))))))))))))))) (am_th (i_al 0) (am_th (i_ic (2)) (am_th (i_cv 6 1 d_X6_refuse) (r_i)))))))))
def d_X6_valley : am_D := am_den 3 f_X6_valley
set_option maxHeartbeats 4000000 in
set_option maxRecDepth 100000 in
theorem b_X6_valley : am_Body yX6_valley cX6_valley 3 (some .int) 10 217 f_X6_valley := by
  intro p l e R s m args below meth c g n0 z0 r0 u0 C hr hn
  have C : am_Cx p l e R s m args below meth c g RX6 cX6_valley 3 n0 z0 (am_len u0) (am_wt u0) 10 217 := C
  unfold f_X6_valley
  exact (so_th (so_iload_n C dX6_valley_0 rfl) (so_br (so_if_lt C dX6_valley_1 (by decide)) (so_th (so_aload_n C dX6_valley_12 rfl) (so_th (so_iconst C dX6_valley_13 (by decide)) (so_th (so_cv C m_X6_refuse rfl k_297 k_299 k_298 k_300 k_5 ⟨by decide, by decide, by decide +kernel⟩ (by decide) dX6_valley_14) (so_ri C hr dX6_valley_17)))) (so_th (so_iload_n C dX6_valley_4 rfl) (so_th (so_aload_n C dX6_valley_5 rfl) (so_th (so_geti C fl_RX6_13 (by decide) dX6_valley_6) (so_br (so_icmp_le C dX6_valley_9 (by decide)) (so_th (so_aload_n C dX6_valley_18 rfl) (so_th (so_iconst C dX6_valley_19 (by decide)) (so_th (so_puti C fl_RX6_13 fp_6 (Or.inl rfl) dX6_valley_20) (so_th (so_aload_n C dX6_valley_23 rfl) (so_th (so_getr C fl_RX6_20 dX6_valley_24) (so_th (so_aload_n C dX6_valley_27 rfl) (so_th (so_getr C fl_RX6_9 dX6_valley_28) (so_th (so_iload_n C dX6_valley_31 rfl) (so_th (so_aload_n C dX6_valley_32 rfl) (so_th (so_getr C fl_RX6_31 dX6_valley_33) (so_th (so_cv C m_X4_readValley rfl k_301 k_303 k_302 k_304 k_150 ⟨by decide, by decide, by decide +kernel⟩ (by decide) dX6_valley_36) (so_br (so_if_ne C dX6_valley_39 (by decide)) (so_th (so_aload_n C dX6_valley_48 rfl) (so_th (so_getr C fl_RX6_27 dX6_valley_49) (so_th (so_astore_n C dX6_valley_52 rfl (by decide)) (so_th (so_aload_n C dX6_valley_53 rfl) (so_th (so_aload_n C dX6_valley_54 rfl) (so_th (so_getr C fl_RX6_31 dX6_valley_55) (so_th (so_putr C fl_RX6_27 (Or.inl ⟨_, rfl⟩) fp_6 (Or.inl rfl) dX6_valley_58) (so_th (so_aload_n C dX6_valley_61 rfl) (so_th (so_aload_n C dX6_valley_62 rfl) (so_th (so_putr C fl_RX6_31 (Or.inl ⟨_, rfl⟩) fp_6 (Or.inl rfl) dX6_valley_63) (so_th (so_aload_n C dX6_valley_66 rfl) (so_th (so_iconst C dX6_valley_67 (by decide)) (so_th (so_putz C fl_RX6_34 fp_6 (Or.inl rfl) dX6_valley_68) (so_th (so_aload_n C dX6_valley_71 rfl) (so_th (so_getr C fl_RX6_41 dX6_valley_72) (so_th (so_aload_n C dX6_valley_75 rfl) (so_th (so_getr C fl_RX6_27 dX6_valley_76) (so_th (so_cv C m_X2_plant rfl k_79 k_305 k_80 k_82 k_40 ⟨by decide, by decide, by decide +kernel⟩ (by decide) dX6_valley_79) (so_th (so_aload_n C dX6_valley_82 rfl) (so_th (so_iconst C dX6_valley_83 (by decide)) (so_th (so_puti C fl_RX6_52 fp_6 (Or.inl rfl) dX6_valley_84) (so_th (so_aload_n C dX6_valley_87 rfl) (so_th (so_iconst C dX6_valley_88 (by decide)) (so_th (so_puti C fl_RX6_58 fp_6 (Or.inl rfl) dX6_valley_89) (so_th (so_aload_n C dX6_valley_92 rfl) (so_th (so_iconst C dX6_valley_93 (by decide)) (so_th (so_putz C fl_RX6_75 fp_6 (Or.inl rfl) dX6_valley_94) (so_th (so_aload_n C dX6_valley_97 rfl) (so_th (so_aload_n C dX6_valley_98 rfl) (so_th (so_getr C fl_RX6_27 dX6_valley_99) (so_th (so_geti C fl_RX6_104 (by decide) dX6_valley_102) (so_th (so_cv C m_X6_answer rfl k_306 k_308 k_307 k_309 k_5 ⟨by decide, by decide, by decide +kernel⟩ (by decide) dX6_valley_105) (so_ri C hr dX6_valley_108))))))))))))))))))))))))))))))))) (so_th (so_aload_n C dX6_valley_42 rfl) (so_th (so_iconst C dX6_valley_43 (by decide)) (so_th (so_cv C m_X6_refuse rfl k_297 k_299 k_298 k_300 k_5 ⟨by decide, by decide, by decide +kernel⟩ (by decide) dX6_valley_44) (so_ri C hr dX6_valley_47)))))))))))))))) (so_th (so_aload_n C dX6_valley_12 rfl) (so_th (so_iconst C dX6_valley_13 (by decide)) (so_th (so_cv C m_X6_refuse rfl k_297 k_299 k_298 k_300 k_5 ⟨by decide, by decide, by decide +kernel⟩ (by decide) dX6_valley_14) (so_ri C hr dX6_valley_17))))))))))
theorem m_X6_valley : am_M yX6_valley cX6_valley 3 (some .int) 10 217 d_X6_valley := am_M_of (by decide +kernel) b_X6_valley
theorem dX6_fault_0 : decode cX6_fault 0 = .ok (.aload_n 0, 1) := by decide +kernel
theorem dX6_fault_1 : decode cX6_fault 1 = .ok (.getfield 20, 3) := by decide +kernel
theorem dX6_fault_4 : decode cX6_fault 4 = .ok (.getfield 110, 3) := by decide +kernel
theorem dX6_fault_7 : decode cX6_fault 7 = .ok (.ireturn, 1) := by decide +kernel
def f_X6_fault : am_F := am_th (i_al 0) (am_th (i_gr 6 2) (am_th (i_gi 4 0) (r_i)))
def d_X6_fault : am_D := am_den 1 f_X6_fault
set_option maxHeartbeats 4000000 in
set_option maxRecDepth 100000 in
theorem b_X6_fault : am_Body yX6_fault cX6_fault 1 (some .int) 0 0 f_X6_fault := by
  intro p l e R s m args below meth c g n0 z0 r0 u0 C hr hn
  have C : am_Cx p l e R s m args below meth c g RX6 cX6_fault 1 n0 z0 (am_len u0) (am_wt u0) 0 0 := C
  unfold f_X6_fault
  exact (so_th (so_aload_n C dX6_fault_0 rfl) (so_th (so_getr C fl_RX6_20 dX6_fault_1) (so_th (so_geti C fl_RX6_110 (by decide) dX6_fault_4) (so_ri C hr dX6_fault_7))))
theorem m_X6_fault : am_M yX6_fault cX6_fault 1 (some .int) 0 0 d_X6_fault := am_M_of (by decide +kernel) b_X6_fault
theorem dX6_where_0 : decode cX6_where 0 = .ok (.aload_n 0, 1) := by decide +kernel
theorem dX6_where_1 : decode cX6_where 1 = .ok (.getfield 85, 3) := by decide +kernel
theorem dX6_where_4 : decode cX6_where 4 = .ok (.iconst 4, 1) := by decide +kernel
theorem dX6_where_5 : decode cX6_where 5 = .ok (.if_icmp .ne 13, 3) := by decide +kernel
theorem dX6_where_8 : decode cX6_where 8 = .ok (.aload_n 0, 1) := by decide +kernel
theorem dX6_where_9 : decode cX6_where 9 = .ok (.getfield 20, 3) := by decide +kernel
theorem dX6_where_12 : decode cX6_where 12 = .ok (.getfield 113, 3) := by decide +kernel
theorem dX6_where_15 : decode cX6_where 15 = .ok (.goto 4, 3) := by decide +kernel
theorem dX6_where_18 : decode cX6_where 18 = .ok (.iconst (-1), 1) := by decide +kernel
theorem dX6_where_19 : decode cX6_where 19 = .ok (.ireturn, 1) := by decide +kernel
def f_X6_where : am_F := am_th (i_al 0) (am_th (i_gi 6 16) (am_th (i_ic (4)) (am_br (b_2 (fun x y => decide (¬ x = y))) (am_th (i_ic (-1)) (r_i)) (am_th (i_al 0) (am_th (i_gr 6 2) (am_th (i_gi 4 1) (r_i)))))))
def d_X6_where : am_D := am_den 1 f_X6_where
set_option maxHeartbeats 4000000 in
set_option maxRecDepth 100000 in
theorem b_X6_where : am_Body yX6_where cX6_where 1 (some .int) 0 0 f_X6_where := by
  intro p l e R s m args below meth c g n0 z0 r0 u0 C hr hn
  have C : am_Cx p l e R s m args below meth c g RX6 cX6_where 1 n0 z0 (am_len u0) (am_wt u0) 0 0 := C
  unfold f_X6_where
  exact (so_th (so_aload_n C dX6_where_0 rfl) (so_th (so_geti C fl_RX6_85 (by decide) dX6_where_1) (so_th (so_iconst C dX6_where_4 (by decide)) (so_br (so_icmp_ne C dX6_where_5 (by decide)) (so_th (so_iconst C dX6_where_18 (by decide)) (so_ri C hr dX6_where_19)) (so_th (so_aload_n C dX6_where_8 rfl) (so_th (so_getr C fl_RX6_20 dX6_where_9) (so_th (so_geti C fl_RX6_113 (by decide) dX6_where_12) (so_goto C dX6_where_15 (by decide) (so_ri C hr dX6_where_19)))))))))
theorem m_X6_where : am_M yX6_where cX6_where 1 (some .int) 0 0 d_X6_where := am_M_of (by decide +kernel) b_X6_where
theorem dX6_isQuarrel_0 : decode cX6_isQuarrel 0 = .ok (.aload_n 0, 1) := by decide +kernel
theorem dX6_isQuarrel_1 : decode cX6_isQuarrel 1 = .ok (.getfield 34, 3) := by decide +kernel
theorem dX6_isQuarrel_4 : decode cX6_isQuarrel 4 = .ok (.ifCond .eq 22, 3) := by decide +kernel
theorem dX6_isQuarrel_7 : decode cX6_isQuarrel 7 = .ok (.iload_n 1, 1) := by decide +kernel
theorem dX6_isQuarrel_8 : decode cX6_isQuarrel 8 = .ok (.ifCond .lt 18, 3) := by decide +kernel
theorem dX6_isQuarrel_11 : decode cX6_isQuarrel 11 = .ok (.iload_n 1, 1) := by decide +kernel
theorem dX6_isQuarrel_12 : decode cX6_isQuarrel 12 = .ok (.aload_n 0, 1) := by decide +kernel
theorem dX6_isQuarrel_13 : decode cX6_isQuarrel 13 = .ok (.getfield 27, 3) := by decide +kernel
theorem dX6_isQuarrel_16 : decode cX6_isQuarrel 16 = .ok (.getfield 104, 3) := by decide +kernel
theorem dX6_isQuarrel_19 : decode cX6_isQuarrel 19 = .ok (.if_icmp .ge 7, 3) := by decide +kernel
theorem dX6_isQuarrel_22 : decode cX6_isQuarrel 22 = .ok (.iconst 1, 1) := by decide +kernel
theorem dX6_isQuarrel_23 : decode cX6_isQuarrel 23 = .ok (.goto 4, 3) := by decide +kernel
theorem dX6_isQuarrel_26 : decode cX6_isQuarrel 26 = .ok (.iconst 0, 1) := by decide +kernel
theorem dX6_isQuarrel_27 : decode cX6_isQuarrel 27 = .ok (.ireturn, 1) := by decide +kernel
def f_X6_isQuarrel : am_F := am_th (i_al 0) (am_th (i_gi 6 5) (am_br (b_1 (fun x => decide (x = 0))) (am_th (i_ic (0)) (r_z)) (am_th (i_il 1) (am_br (b_1 (fun x => decide (x < 0))) (am_th (i_ic (0)) (r_z)) (am_th (i_il 1) (am_th (i_al 0) (am_th (i_gr 6 3) (am_th (i_gi 5 3) (am_br (b_2 (fun x y => decide (y ≤ x))) (am_th (i_ic (0)) (r_z)) (am_th (i_ic (1)) (r_z)))))))))))
def d_X6_isQuarrel : am_D := am_den 2 f_X6_isQuarrel
set_option maxHeartbeats 4000000 in
set_option maxRecDepth 100000 in
theorem b_X6_isQuarrel : am_Body yX6_isQuarrel cX6_isQuarrel 2 (some .boolean) 0 0 f_X6_isQuarrel := by
  intro p l e R s m args below meth c g n0 z0 r0 u0 C hr hn
  have C : am_Cx p l e R s m args below meth c g RX6 cX6_isQuarrel 2 n0 z0 (am_len u0) (am_wt u0) 0 0 := C
  unfold f_X6_isQuarrel
  exact (so_th (so_aload_n C dX6_isQuarrel_0 rfl) (so_th (so_geti C fl_RX6_34 (by decide) dX6_isQuarrel_1) (so_br (so_if_eq C dX6_isQuarrel_4 (by decide)) (so_th (so_iconst C dX6_isQuarrel_26 (by decide)) (so_rz C hr dX6_isQuarrel_27)) (so_th (so_iload_n C dX6_isQuarrel_7 rfl) (so_br (so_if_lt C dX6_isQuarrel_8 (by decide)) (so_th (so_iconst C dX6_isQuarrel_26 (by decide)) (so_rz C hr dX6_isQuarrel_27)) (so_th (so_iload_n C dX6_isQuarrel_11 rfl) (so_th (so_aload_n C dX6_isQuarrel_12 rfl) (so_th (so_getr C fl_RX6_27 dX6_isQuarrel_13) (so_th (so_geti C fl_RX6_104 (by decide) dX6_isQuarrel_16) (so_br (so_icmp_ge C dX6_isQuarrel_19 (by decide)) (so_th (so_iconst C dX6_isQuarrel_26 (by decide)) (so_rz C hr dX6_isQuarrel_27)) (so_th (so_iconst C dX6_isQuarrel_22 (by decide)) (so_goto C dX6_isQuarrel_23 (by decide) (so_rz C hr dX6_isQuarrel_27)))))))))))))
theorem m_X6_isQuarrel : am_M yX6_isQuarrel cX6_isQuarrel 2 (some .boolean) 0 0 d_X6_isQuarrel := am_M_of (by decide +kernel) b_X6_isQuarrel
theorem dX6_factOf_0 : decode cX6_factOf 0 = .ok (.iload_n 2, 1) := by decide +kernel
theorem dX6_factOf_1 : decode cX6_factOf 1 = .ok (.tableswitch 124 0 5 #[39, 49, 58, 84, 97, 114], 39) := by decide +kernel
theorem dX6_factOf_40 : decode cX6_factOf 40 = .ok (.aload_n 0, 1) := by decide +kernel
theorem dX6_factOf_41 : decode cX6_factOf 41 = .ok (.getfield 27, 3) := by decide +kernel
theorem dX6_factOf_44 : decode cX6_factOf 44 = .ok (.getfield 301, 3) := by decide +kernel
theorem dX6_factOf_47 : decode cX6_factOf 47 = .ok (.iload_n 1, 1) := by decide +kernel
theorem dX6_factOf_48 : decode cX6_factOf 48 = .ok (.iaload, 1) := by decide +kernel
theorem dX6_factOf_49 : decode cX6_factOf 49 = .ok (.ireturn, 1) := by decide +kernel
theorem dX6_factOf_50 : decode cX6_factOf 50 = .ok (.aload_n 0, 1) := by decide +kernel
theorem dX6_factOf_51 : decode cX6_factOf 51 = .ok (.getfield 41, 3) := by decide +kernel
theorem dX6_factOf_54 : decode cX6_factOf 54 = .ok (.iload_n 1, 1) := by decide +kernel
theorem dX6_factOf_55 : decode cX6_factOf 55 = .ok (.invokevirtual 148, 3) := by decide +kernel
theorem dX6_factOf_58 : decode cX6_factOf 58 = .ok (.ireturn, 1) := by decide +kernel
theorem dX6_factOf_59 : decode cX6_factOf 59 = .ok (.aload_n 0, 1) := by decide +kernel
theorem dX6_factOf_60 : decode cX6_factOf 60 = .ok (.getfield 41, 3) := by decide +kernel
theorem dX6_factOf_63 : decode cX6_factOf 63 = .ok (.iload_n 1, 1) := by decide +kernel
theorem dX6_factOf_64 : decode cX6_factOf 64 = .ok (.invokevirtual 269, 3) := by decide +kernel
theorem dX6_factOf_67 : decode cX6_factOf 67 = .ok (.ifCond .eq 8, 3) := by decide +kernel
theorem dX6_factOf_70 : decode cX6_factOf 70 = .ok (.bipush (-2), 2) := by decide +kernel
theorem dX6_factOf_72 : decode cX6_factOf 72 = .ok (.goto 12, 3) := by decide +kernel
theorem dX6_factOf_75 : decode cX6_factOf 75 = .ok (.aload_n 0, 1) := by decide +kernel
theorem dX6_factOf_76 : decode cX6_factOf 76 = .ok (.getfield 41, 3) := by decide +kernel
theorem dX6_factOf_79 : decode cX6_factOf 79 = .ok (.getfield 304, 3) := by decide +kernel
theorem dX6_factOf_82 : decode cX6_factOf 82 = .ok (.iload_n 1, 1) := by decide +kernel
theorem dX6_factOf_83 : decode cX6_factOf 83 = .ok (.iaload, 1) := by decide +kernel
theorem dX6_factOf_84 : decode cX6_factOf 84 = .ok (.ireturn, 1) := by decide +kernel
theorem dX6_factOf_85 : decode cX6_factOf 85 = .ok (.aload_n 0, 1) := by decide +kernel
theorem dX6_factOf_86 : decode cX6_factOf 86 = .ok (.getfield 41, 3) := by decide +kernel
theorem dX6_factOf_89 : decode cX6_factOf 89 = .ok (.aload_n 0, 1) := by decide +kernel
theorem dX6_factOf_90 : decode cX6_factOf 90 = .ok (.getfield 27, 3) := by decide +kernel
theorem dX6_factOf_93 : decode cX6_factOf 93 = .ok (.iload_n 1, 1) := by decide +kernel
theorem dX6_factOf_94 : decode cX6_factOf 94 = .ok (.invokevirtual 307, 3) := by decide +kernel
theorem dX6_factOf_97 : decode cX6_factOf 97 = .ok (.ireturn, 1) := by decide +kernel
theorem dX6_factOf_98 : decode cX6_factOf 98 = .ok (.aload_n 0, 1) := by decide +kernel
theorem dX6_factOf_99 : decode cX6_factOf 99 = .ok (.getfield 27, 3) := by decide +kernel
theorem dX6_factOf_102 : decode cX6_factOf 102 = .ok (.iload_n 1, 1) := by decide +kernel
theorem dX6_factOf_103 : decode cX6_factOf 103 = .ok (.invokevirtual 310, 3) := by decide +kernel
theorem dX6_factOf_106 : decode cX6_factOf 106 = .ok (.ifCond .eq 7, 3) := by decide +kernel
theorem dX6_factOf_109 : decode cX6_factOf 109 = .ok (.iconst 1, 1) := by decide +kernel
theorem dX6_factOf_110 : decode cX6_factOf 110 = .ok (.goto 4, 3) := by decide +kernel
theorem dX6_factOf_113 : decode cX6_factOf 113 = .ok (.iconst 0, 1) := by decide +kernel
theorem dX6_factOf_114 : decode cX6_factOf 114 = .ok (.ireturn, 1) := by decide +kernel
theorem dX6_factOf_115 : decode cX6_factOf 115 = .ok (.aload_n 0, 1) := by decide +kernel
theorem dX6_factOf_116 : decode cX6_factOf 116 = .ok (.getfield 41, 3) := by decide +kernel
theorem dX6_factOf_119 : decode cX6_factOf 119 = .ok (.getfield 151, 3) := by decide +kernel
theorem dX6_factOf_122 : decode cX6_factOf 122 = .ok (.iload_n 1, 1) := by decide +kernel
theorem dX6_factOf_123 : decode cX6_factOf 123 = .ok (.iaload, 1) := by decide +kernel
theorem dX6_factOf_124 : decode cX6_factOf 124 = .ok (.ireturn, 1) := by decide +kernel
theorem dX6_factOf_125 : decode cX6_factOf 125 = .ok (.aload_n 0, 1) := by decide +kernel
theorem dX6_factOf_126 : decode cX6_factOf 126 = .ok (.getfield 41, 3) := by decide +kernel
theorem dX6_factOf_129 : decode cX6_factOf 129 = .ok (.getfield 313, 3) := by decide +kernel
theorem dX6_factOf_132 : decode cX6_factOf 132 = .ok (.iload_n 1, 1) := by decide +kernel
theorem dX6_factOf_133 : decode cX6_factOf 133 = .ok (.iaload, 1) := by decide +kernel
theorem dX6_factOf_134 : decode cX6_factOf 134 = .ok (.ireturn, 1) := by decide +kernel
def f_X6_factOf : am_F := am_th (i_il 2) (am_sw (0) [am_th (i_al 0) (am_th (i_gr 6 3) (am_th (i_gr 5 10) (am_th (i_il 1) (am_th (i_ia 0) (r_i))))), am_th (i_al 0) (am_th (i_gr 6 6) (am_th (i_il 1) (am_th (i_cv 2 1 d_X2_vigourOf) (r_i)))), am_th (i_al 0) (am_th (i_gr 6 6) (am_th (i_il 1) (am_th (i_cv 2 1 d_X2_stands) (am_br (b_1 (fun x => decide (x = 0))) (am_th (i_al 0) (am_th (i_gr 6 6) (am_th (i_gr 2 3) (am_th (i_il 1) (am_th (i_ia 0) (r_i)))))) (am_th (i_ic (-2)) (r_i)))))), am_th (i_al 0) (am_th (i_gr 6 6) (am_th (i_al 0) (am_th (i_gr 6 3) (am_th (i_il 1) (am_th (i_cv 2 2 d_X2_kindsOf) (r_i)))))), am_th (i_al 0) (am_th (i_gr 6 3) (am_th (i_il 1) (am_th (i_cv 5 1 d_X5_isPotted) (am_br (b_1 (fun x => decide (x = 0))) (am_th (i_ic (0)) (r_i)) (am_th (i_ic (1)) (r_i)))))), am_th (i_al 0) (am_th (i_gr 6 6) (am_th (i_gr 2 4) (am_th (i_il 1) (am_th (i_ia 0) (r_i)))))] (am_th (i_al 0) (am_th (i_gr 6 6) (am_th (i_gr 2 5) (am_th (i_il 1) (am_th (i_ia 0) (r_i)))))))
def d_X6_factOf : am_D := am_den 3 f_X6_factOf
set_option maxHeartbeats 4000000 in
set_option maxRecDepth 100000 in
theorem b_X6_factOf : am_Body yX6_factOf cX6_factOf 3 (some .int) 2 42 f_X6_factOf := by
  intro p l e R s m args below meth c g n0 z0 r0 u0 C hr hn
  have C : am_Cx p l e R s m args below meth c g RX6 cX6_factOf 3 n0 z0 (am_len u0) (am_wt u0) 2 42 := C
  unfold f_X6_factOf
  exact (so_th (so_iload_n C dX6_factOf_0 rfl) (so_sw C dX6_factOf_1 rfl (by decide) (td := 125) (by decide) (so_th (so_aload_n C dX6_factOf_125 rfl) (so_th (so_getr C fl_RX6_41 dX6_factOf_126) (so_th (so_getr C fl_RX6_313 dX6_factOf_129) (so_th (so_iload_n C dX6_factOf_132 rfl) (so_th (so_iald C dX6_factOf_133) (so_ri C hr dX6_factOf_134)))))) (fun k f hk => match k, hk with
      | 0, hk => ⟨(39), 40, rfl, by decide, (Option.some.inj hk) ▸ (so_th (so_aload_n C dX6_factOf_40 rfl) (so_th (so_getr C fl_RX6_27 dX6_factOf_41) (so_th (so_getr C fl_RX6_301 dX6_factOf_44) (so_th (so_iload_n C dX6_factOf_47 rfl) (so_th (so_iald C dX6_factOf_48) (so_ri C hr dX6_factOf_49))))))⟩
      | 1, hk => ⟨(49), 50, rfl, by decide, (Option.some.inj hk) ▸ (so_th (so_aload_n C dX6_factOf_50 rfl) (so_th (so_getr C fl_RX6_41 dX6_factOf_51) (so_th (so_iload_n C dX6_factOf_54 rfl) (so_th (so_cv C m_X2_vigourOf rfl k_310 k_312 k_311 k_313 k_40 ⟨by decide, by decide, by decide +kernel⟩ (by decide) dX6_factOf_55) (so_ri C hr dX6_factOf_58)))))⟩
      | 2, hk => ⟨(58), 59, rfl, by decide, (Option.some.inj hk) ▸ (so_th (so_aload_n C dX6_factOf_59 rfl) (so_th (so_getr C fl_RX6_41 dX6_factOf_60) (so_th (so_iload_n C dX6_factOf_63 rfl) (so_th (so_cv C m_X2_stands rfl k_43 k_314 k_44 k_46 k_40 ⟨by decide, by decide, by decide +kernel⟩ (by decide) dX6_factOf_64) (so_br (so_if_eq C dX6_factOf_67 (by decide)) (so_th (so_aload_n C dX6_factOf_75 rfl) (so_th (so_getr C fl_RX6_41 dX6_factOf_76) (so_th (so_getr C fl_RX6_304 dX6_factOf_79) (so_th (so_iload_n C dX6_factOf_82 rfl) (so_th (so_iald C dX6_factOf_83) (so_ri C hr dX6_factOf_84)))))) (so_th (so_bipush C dX6_factOf_70 (by decide)) (so_goto C dX6_factOf_72 (by decide) (so_ri C hr dX6_factOf_84))))))))⟩
      | 3, hk => ⟨(84), 85, rfl, by decide, (Option.some.inj hk) ▸ (so_th (so_aload_n C dX6_factOf_85 rfl) (so_th (so_getr C fl_RX6_41 dX6_factOf_86) (so_th (so_aload_n C dX6_factOf_89 rfl) (so_th (so_getr C fl_RX6_27 dX6_factOf_90) (so_th (so_iload_n C dX6_factOf_93 rfl) (so_th (so_cv C m_X2_kindsOf rfl k_71 k_315 k_72 k_74 k_40 ⟨by decide, by decide, by decide +kernel⟩ (by decide) dX6_factOf_94) (so_ri C hr dX6_factOf_97)))))))⟩
      | 4, hk => ⟨(97), 98, rfl, by decide, (Option.some.inj hk) ▸ (so_th (so_aload_n C dX6_factOf_98 rfl) (so_th (so_getr C fl_RX6_27 dX6_factOf_99) (so_th (so_iload_n C dX6_factOf_102 rfl) (so_th (so_cv C m_X5_isPotted rfl k_7 k_316 k_9 k_11 k_8 ⟨by decide, by decide, by decide +kernel⟩ (by decide) dX6_factOf_103) (so_br (so_if_eq C dX6_factOf_106 (by decide)) (so_th (so_iconst C dX6_factOf_113 (by decide)) (so_ri C hr dX6_factOf_114)) (so_th (so_iconst C dX6_factOf_109 (by decide)) (so_goto C dX6_factOf_110 (by decide) (so_ri C hr dX6_factOf_114))))))))⟩
      | 5, hk => ⟨(114), 115, rfl, by decide, (Option.some.inj hk) ▸ (so_th (so_aload_n C dX6_factOf_115 rfl) (so_th (so_getr C fl_RX6_41 dX6_factOf_116) (so_th (so_getr C fl_RX6_151 dX6_factOf_119) (so_th (so_iload_n C dX6_factOf_122 rfl) (so_th (so_iald C dX6_factOf_123) (so_ri C hr dX6_factOf_124))))))⟩
      | k + 6, hk => by simp at hk)))
theorem m_X6_factOf : am_M yX6_factOf cX6_factOf 3 (some .int) 2 42 d_X6_factOf := am_M_of (by decide +kernel) b_X6_factOf
theorem dX6_quarrel_0 : decode cX6_quarrel 0 = .ok (.aload_n 0, 1) := by decide +kernel
theorem dX6_quarrel_1 : decode cX6_quarrel 1 = .ok (.iload_n 1, 1) := by decide +kernel
theorem dX6_quarrel_2 : decode cX6_quarrel 2 = .ok (.invokevirtual 116, 3) := by decide +kernel
theorem dX6_quarrel_5 : decode cX6_quarrel 5 = .ok (.ifCond .eq 13, 3) := by decide +kernel
theorem dX6_quarrel_8 : decode cX6_quarrel 8 = .ok (.iload_n 2, 1) := by decide +kernel
theorem dX6_quarrel_9 : decode cX6_quarrel 9 = .ok (.ifCond .lt 9, 3) := by decide +kernel
theorem dX6_quarrel_12 : decode cX6_quarrel 12 = .ok (.iload_n 2, 1) := by decide +kernel
theorem dX6_quarrel_13 : decode cX6_quarrel 13 = .ok (.bipush 6, 2) := by decide +kernel
theorem dX6_quarrel_15 : decode cX6_quarrel 15 = .ok (.if_icmp .le 9, 3) := by decide +kernel
theorem dX6_quarrel_18 : decode cX6_quarrel 18 = .ok (.aload_n 0, 1) := by decide +kernel
theorem dX6_quarrel_19 : decode cX6_quarrel 19 = .ok (.iconst 1, 1) := by decide +kernel
theorem dX6_quarrel_20 : decode cX6_quarrel 20 = .ok (.invokevirtual 92, 3) := by decide +kernel
theorem dX6_quarrel_23 : decode cX6_quarrel 23 = .ok (.ireturn, 1) := by decide +kernel
theorem dX6_quarrel_24 : decode cX6_quarrel 24 = .ok (.aload_n 0, 1) := by decide +kernel
theorem dX6_quarrel_25 : decode cX6_quarrel 25 = .ok (.aload_n 0, 1) := by decide +kernel
theorem dX6_quarrel_26 : decode cX6_quarrel 26 = .ok (.iload_n 1, 1) := by decide +kernel
theorem dX6_quarrel_27 : decode cX6_quarrel 27 = .ok (.iload_n 2, 1) := by decide +kernel
theorem dX6_quarrel_28 : decode cX6_quarrel 28 = .ok (.invokevirtual 120, 3) := by decide +kernel
theorem dX6_quarrel_31 : decode cX6_quarrel 31 = .ok (.invokevirtual 107, 3) := by decide +kernel
theorem dX6_quarrel_34 : decode cX6_quarrel 34 = .ok (.ireturn, 1) := by decide +kernel
def f_X6_quarrel : am_F := am_th (i_al 0) (am_th (i_il 1) (am_th (i_cv 6 1 d_X6_isQuarrel) (am_br (b_1 (fun x => decide (x = 0))) (am_th (i_al 0) (am_th (i_ic (1)) (am_th (i_cv 6 1 d_X6_refuse) (r_i)))) (am_th (i_il 2) (am_br (b_1 (fun x => decide (x < 0))) (am_th (i_al 0) (am_th (i_ic (1)) (am_th (i_cv 6 1 d_X6_refuse) (r_i)))) (am_th (i_il 2) (am_th (i_ic (6)) (am_br (b_2 (fun x y => decide (x ≤ y))) (am_th (i_al 0) (am_th (i_al 0) (am_th (i_il 1) (am_th (i_il 2) (am_th (i_cv 6 2 d_X6_factOf) (am_th (i_cv 6 1 d_X6_answer) (r_i))))))) (am_th (i_al 0) (am_th (i_ic (1)) (am_th (i_cv 6 1 d_X6_refuse) (r_i))))))))))))
def d_X6_quarrel : am_D := am_den 3 f_X6_quarrel
set_option maxHeartbeats 4000000 in
set_option maxRecDepth 100000 in
theorem b_X6_quarrel : am_Body yX6_quarrel cX6_quarrel 3 (some .int) 3 64 f_X6_quarrel := by
  intro p l e R s m args below meth c g n0 z0 r0 u0 C hr hn
  have C : am_Cx p l e R s m args below meth c g RX6 cX6_quarrel 3 n0 z0 (am_len u0) (am_wt u0) 3 64 := C
  unfold f_X6_quarrel
  exact (so_th (so_aload_n C dX6_quarrel_0 rfl) (so_th (so_iload_n C dX6_quarrel_1 rfl) (so_th (so_cv C m_X6_isQuarrel rfl k_317 k_319 k_318 k_320 k_5 ⟨by decide, by decide, by decide +kernel⟩ (by decide) dX6_quarrel_2) (so_br (so_if_eq C dX6_quarrel_5 (by decide)) (so_th (so_aload_n C dX6_quarrel_18 rfl) (so_th (so_iconst C dX6_quarrel_19 (by decide)) (so_th (so_cv C m_X6_refuse rfl k_297 k_299 k_298 k_300 k_5 ⟨by decide, by decide, by decide +kernel⟩ (by decide) dX6_quarrel_20) (so_ri C hr dX6_quarrel_23)))) (so_th (so_iload_n C dX6_quarrel_8 rfl) (so_br (so_if_lt C dX6_quarrel_9 (by decide)) (so_th (so_aload_n C dX6_quarrel_18 rfl) (so_th (so_iconst C dX6_quarrel_19 (by decide)) (so_th (so_cv C m_X6_refuse rfl k_297 k_299 k_298 k_300 k_5 ⟨by decide, by decide, by decide +kernel⟩ (by decide) dX6_quarrel_20) (so_ri C hr dX6_quarrel_23)))) (so_th (so_iload_n C dX6_quarrel_12 rfl) (so_th (so_bipush C dX6_quarrel_13 (by decide)) (so_br (so_icmp_le C dX6_quarrel_15 (by decide)) (so_th (so_aload_n C dX6_quarrel_24 rfl) (so_th (so_aload_n C dX6_quarrel_25 rfl) (so_th (so_iload_n C dX6_quarrel_26 rfl) (so_th (so_iload_n C dX6_quarrel_27 rfl) (so_th (so_cv C m_X6_factOf rfl k_321 k_323 k_322 k_324 k_5 ⟨by decide, by decide, by decide +kernel⟩ (by decide) dX6_quarrel_28) (so_th (so_cv C m_X6_answer rfl k_306 k_308 k_307 k_309 k_5 ⟨by decide, by decide, by decide +kernel⟩ (by decide) dX6_quarrel_31) (so_ri C hr dX6_quarrel_34))))))) (so_th (so_aload_n C dX6_quarrel_18 rfl) (so_th (so_iconst C dX6_quarrel_19 (by decide)) (so_th (so_cv C m_X6_refuse rfl k_297 k_299 k_298 k_300 k_5 ⟨by decide, by decide, by decide +kernel⟩ (by decide) dX6_quarrel_20) (so_ri C hr dX6_quarrel_23)))))))))))))
theorem m_X6_quarrel : am_M yX6_quarrel cX6_quarrel 3 (some .int) 3 64 d_X6_quarrel := am_M_of (by decide +kernel) b_X6_quarrel
theorem dX6_parties_0 : decode cX6_parties 0 = .ok (.aload_n 0, 1) := by decide +kernel
theorem dX6_parties_1 : decode cX6_parties 1 = .ok (.iload_n 1, 1) := by decide +kernel
theorem dX6_parties_2 : decode cX6_parties 2 = .ok (.invokevirtual 116, 3) := by decide +kernel
theorem dX6_parties_5 : decode cX6_parties 5 = .ok (.ifCond .ne 9, 3) := by decide +kernel
theorem dX6_parties_8 : decode cX6_parties 8 = .ok (.aload_n 0, 1) := by decide +kernel
theorem dX6_parties_9 : decode cX6_parties 9 = .ok (.iconst 1, 1) := by decide +kernel
theorem dX6_parties_10 : decode cX6_parties 10 = .ok (.invokevirtual 92, 3) := by decide +kernel
theorem dX6_parties_13 : decode cX6_parties 13 = .ok (.ireturn, 1) := by decide +kernel
theorem dX6_parties_14 : decode cX6_parties 14 = .ok (.aload_n 0, 1) := by decide +kernel
theorem dX6_parties_15 : decode cX6_parties 15 = .ok (.aload_n 0, 1) := by decide +kernel
theorem dX6_parties_16 : decode cX6_parties 16 = .ok (.getfield 41, 3) := by decide +kernel
theorem dX6_parties_19 : decode cX6_parties 19 = .ok (.aload_n 0, 1) := by decide +kernel
theorem dX6_parties_20 : decode cX6_parties 20 = .ok (.getfield 27, 3) := by decide +kernel
theorem dX6_parties_23 : decode cX6_parties 23 = .ok (.iload_n 1, 1) := by decide +kernel
theorem dX6_parties_24 : decode cX6_parties 24 = .ok (.invokevirtual 124, 3) := by decide +kernel
theorem dX6_parties_27 : decode cX6_parties 27 = .ok (.invokevirtual 107, 3) := by decide +kernel
theorem dX6_parties_30 : decode cX6_parties 30 = .ok (.ireturn, 1) := by decide +kernel
def f_X6_parties : am_F := am_th (i_al 0) (am_th (i_il 1) (am_th (i_cv 6 1 d_X6_isQuarrel) (am_br (b_1 (fun x => decide (¬ x = 0))) (am_th (i_al 0) (am_th (i_al 0) (am_th (i_gr 6 6) (am_th (i_al 0) (am_th (i_gr 6 3) (am_th (i_il 1) (am_th (i_cv 2 2 d_X2_partiesOf) (am_th (i_cv 6 1 d_X6_answer) (r_i))))))))) (am_th (i_al 0) (am_th (i_ic (1)) (am_th (i_cv 6 1 d_X6_refuse) (r_i)))))))
def d_X6_parties : am_D := am_den 2 f_X6_parties
set_option maxHeartbeats 4000000 in
set_option maxRecDepth 100000 in
theorem b_X6_parties : am_Body yX6_parties cX6_parties 2 (some .int) 1 24 f_X6_parties := by
  intro p l e R s m args below meth c g n0 z0 r0 u0 C hr hn
  have C : am_Cx p l e R s m args below meth c g RX6 cX6_parties 2 n0 z0 (am_len u0) (am_wt u0) 1 24 := C
  unfold f_X6_parties
  exact (so_th (so_aload_n C dX6_parties_0 rfl) (so_th (so_iload_n C dX6_parties_1 rfl) (so_th (so_cv C m_X6_isQuarrel rfl k_317 k_319 k_318 k_320 k_5 ⟨by decide, by decide, by decide +kernel⟩ (by decide) dX6_parties_2) (so_br (so_if_ne C dX6_parties_5 (by decide)) (so_th (so_aload_n C dX6_parties_14 rfl) (so_th (so_aload_n C dX6_parties_15 rfl) (so_th (so_getr C fl_RX6_41 dX6_parties_16) (so_th (so_aload_n C dX6_parties_19 rfl) (so_th (so_getr C fl_RX6_27 dX6_parties_20) (so_th (so_iload_n C dX6_parties_23 rfl) (so_th (so_cv C m_X2_partiesOf rfl k_67 k_325 k_68 k_70 k_40 ⟨by decide, by decide, by decide +kernel⟩ (by decide) dX6_parties_24) (so_th (so_cv C m_X6_answer rfl k_306 k_308 k_307 k_309 k_5 ⟨by decide, by decide, by decide +kernel⟩ (by decide) dX6_parties_27) (so_ri C hr dX6_parties_30))))))))) (so_th (so_aload_n C dX6_parties_8 rfl) (so_th (so_iconst C dX6_parties_9 (by decide)) (so_th (so_cv C m_X6_refuse rfl k_297 k_299 k_298 k_300 k_5 ⟨by decide, by decide, by decide +kernel⟩ (by decide) dX6_parties_10) (so_ri C hr dX6_parties_13))))))))
theorem m_X6_parties : am_M yX6_parties cX6_parties 2 (some .int) 1 24 d_X6_parties := am_M_of (by decide +kernel) b_X6_parties
theorem dX6_isFamily_0 : decode cX6_isFamily 0 = .ok (.aload_n 0, 1) := by decide +kernel
theorem dX6_isFamily_1 : decode cX6_isFamily 1 = .ok (.getfield 34, 3) := by decide +kernel
theorem dX6_isFamily_4 : decode cX6_isFamily 4 = .ok (.ifCond .eq 22, 3) := by decide +kernel
theorem dX6_isFamily_7 : decode cX6_isFamily 7 = .ok (.iload_n 1, 1) := by decide +kernel
theorem dX6_isFamily_8 : decode cX6_isFamily 8 = .ok (.ifCond .lt 18, 3) := by decide +kernel
theorem dX6_isFamily_11 : decode cX6_isFamily 11 = .ok (.iload_n 1, 1) := by decide +kernel
theorem dX6_isFamily_12 : decode cX6_isFamily 12 = .ok (.aload_n 0, 1) := by decide +kernel
theorem dX6_isFamily_13 : decode cX6_isFamily 13 = .ok (.getfield 27, 3) := by decide +kernel
theorem dX6_isFamily_16 : decode cX6_isFamily 16 = .ok (.getfield 298, 3) := by decide +kernel
theorem dX6_isFamily_19 : decode cX6_isFamily 19 = .ok (.if_icmp .ge 7, 3) := by decide +kernel
theorem dX6_isFamily_22 : decode cX6_isFamily 22 = .ok (.iconst 1, 1) := by decide +kernel
theorem dX6_isFamily_23 : decode cX6_isFamily 23 = .ok (.goto 4, 3) := by decide +kernel
theorem dX6_isFamily_26 : decode cX6_isFamily 26 = .ok (.iconst 0, 1) := by decide +kernel
theorem dX6_isFamily_27 : decode cX6_isFamily 27 = .ok (.ireturn, 1) := by decide +kernel
def f_X6_isFamily : am_F := am_th (i_al 0) (am_th (i_gi 6 5) (am_br (b_1 (fun x => decide (x = 0))) (am_th (i_ic (0)) (r_z)) (am_th (i_il 1) (am_br (b_1 (fun x => decide (x < 0))) (am_th (i_ic (0)) (r_z)) (am_th (i_il 1) (am_th (i_al 0) (am_th (i_gr 6 3) (am_th (i_gi 5 2) (am_br (b_2 (fun x y => decide (y ≤ x))) (am_th (i_ic (0)) (r_z)) (am_th (i_ic (1)) (r_z)))))))))))
def d_X6_isFamily : am_D := am_den 2 f_X6_isFamily
set_option maxHeartbeats 4000000 in
set_option maxRecDepth 100000 in
theorem b_X6_isFamily : am_Body yX6_isFamily cX6_isFamily 2 (some .boolean) 0 0 f_X6_isFamily := by
  intro p l e R s m args below meth c g n0 z0 r0 u0 C hr hn
  have C : am_Cx p l e R s m args below meth c g RX6 cX6_isFamily 2 n0 z0 (am_len u0) (am_wt u0) 0 0 := C
  unfold f_X6_isFamily
  exact (so_th (so_aload_n C dX6_isFamily_0 rfl) (so_th (so_geti C fl_RX6_34 (by decide) dX6_isFamily_1) (so_br (so_if_eq C dX6_isFamily_4 (by decide)) (so_th (so_iconst C dX6_isFamily_26 (by decide)) (so_rz C hr dX6_isFamily_27)) (so_th (so_iload_n C dX6_isFamily_7 rfl) (so_br (so_if_lt C dX6_isFamily_8 (by decide)) (so_th (so_iconst C dX6_isFamily_26 (by decide)) (so_rz C hr dX6_isFamily_27)) (so_th (so_iload_n C dX6_isFamily_11 rfl) (so_th (so_aload_n C dX6_isFamily_12 rfl) (so_th (so_getr C fl_RX6_27 dX6_isFamily_13) (so_th (so_geti C fl_RX6_298 (by decide) dX6_isFamily_16) (so_br (so_icmp_ge C dX6_isFamily_19 (by decide)) (so_th (so_iconst C dX6_isFamily_26 (by decide)) (so_rz C hr dX6_isFamily_27)) (so_th (so_iconst C dX6_isFamily_22 (by decide)) (so_goto C dX6_isFamily_23 (by decide) (so_rz C hr dX6_isFamily_27)))))))))))))
theorem m_X6_isFamily : am_M yX6_isFamily cX6_isFamily 2 (some .boolean) 0 0 d_X6_isFamily := am_M_of (by decide +kernel) b_X6_isFamily
theorem dX6_bound_0 : decode cX6_bound 0 = .ok (.aload_n 0, 1) := by decide +kernel
theorem dX6_bound_1 : decode cX6_bound 1 = .ok (.iload_n 1, 1) := by decide +kernel
theorem dX6_bound_2 : decode cX6_bound 2 = .ok (.invokevirtual 128, 3) := by decide +kernel
theorem dX6_bound_5 : decode cX6_bound 5 = .ok (.ifCond .ne 9, 3) := by decide +kernel
theorem dX6_bound_8 : decode cX6_bound 8 = .ok (.aload_n 0, 1) := by decide +kernel
theorem dX6_bound_9 : decode cX6_bound 9 = .ok (.iconst 1, 1) := by decide +kernel
theorem dX6_bound_10 : decode cX6_bound 10 = .ok (.invokevirtual 92, 3) := by decide +kernel
theorem dX6_bound_13 : decode cX6_bound 13 = .ok (.ireturn, 1) := by decide +kernel
theorem dX6_bound_14 : decode cX6_bound 14 = .ok (.iconst 0, 1) := by decide +kernel
theorem dX6_bound_15 : decode cX6_bound 15 = .ok (.istore_n 2, 1) := by decide +kernel
theorem dX6_bound_16 : decode cX6_bound 16 = .ok (.iconst 0, 1) := by decide +kernel
theorem dX6_bound_17 : decode cX6_bound 17 = .ok (.istore_n 3, 1) := by decide +kernel
theorem dX6_bound_18 : decode cX6_bound 18 = .ok (.iload_n 3, 1) := by decide +kernel
theorem dX6_bound_19 : decode cX6_bound 19 = .ok (.aload_n 0, 1) := by decide +kernel
theorem dX6_bound_20 : decode cX6_bound 20 = .ok (.getfield 27, 3) := by decide +kernel
theorem dX6_bound_23 : decode cX6_bound 23 = .ok (.getfield 104, 3) := by decide +kernel
theorem dX6_bound_26 : decode cX6_bound 26 = .ok (.if_icmp .ge 34, 3) := by decide +kernel
theorem dX6_bound_29 : decode cX6_bound 29 = .ok (.aload_n 0, 1) := by decide +kernel
theorem dX6_bound_30 : decode cX6_bound 30 = .ok (.getfield 41, 3) := by decide +kernel
theorem dX6_bound_33 : decode cX6_bound 33 = .ok (.aload_n 0, 1) := by decide +kernel
theorem dX6_bound_34 : decode cX6_bound 34 = .ok (.getfield 27, 3) := by decide +kernel
theorem dX6_bound_37 : decode cX6_bound 37 = .ok (.iload_n 3, 1) := by decide +kernel
theorem dX6_bound_38 : decode cX6_bound 38 = .ok (.invokevirtual 124, 3) := by decide +kernel
theorem dX6_bound_41 : decode cX6_bound 41 = .ok (.iload_n 1, 1) := by decide +kernel
theorem dX6_bound_42 : decode cX6_bound 42 = .ok (.invokestatic 131, 3) := by decide +kernel
theorem dX6_bound_45 : decode cX6_bound 45 = .ok (.ifCond .eq 9, 3) := by decide +kernel
theorem dX6_bound_48 : decode cX6_bound 48 = .ok (.iload_n 2, 1) := by decide +kernel
theorem dX6_bound_49 : decode cX6_bound 49 = .ok (.iconst 1, 1) := by decide +kernel
theorem dX6_bound_50 : decode cX6_bound 50 = .ok (.iload_n 3, 1) := by decide +kernel
theorem dX6_bound_51 : decode cX6_bound 51 = .ok (.ishl, 1) := by decide +kernel
theorem dX6_bound_52 : decode cX6_bound 52 = .ok (.ior, 1) := by decide +kernel
theorem dX6_bound_53 : decode cX6_bound 53 = .ok (.istore_n 2, 1) := by decide +kernel
theorem dX6_bound_54 : decode cX6_bound 54 = .ok (.iinc 3 1, 3) := by decide +kernel
theorem dX6_bound_57 : decode cX6_bound 57 = .ok (.goto (-39), 3) := by decide +kernel
theorem dX6_bound_60 : decode cX6_bound 60 = .ok (.aload_n 0, 1) := by decide +kernel
theorem dX6_bound_61 : decode cX6_bound 61 = .ok (.iload_n 2, 1) := by decide +kernel
theorem dX6_bound_62 : decode cX6_bound 62 = .ok (.invokevirtual 107, 3) := by decide +kernel
theorem dX6_bound_65 : decode cX6_bound 65 = .ok (.ireturn, 1) := by decide +kernel
def f_X6_bound_l18 : am_F := am_th (i_il 3) (am_th (i_al 0) (am_th (i_gr 6 3) (am_th (i_gi 5 3) (am_br (b_2 (fun x y => decide (y ≤ x))) (am_to 60) (am_th (i_al 0) (am_th (i_gr 6 6) (am_th (i_al 0) (am_th (i_gr 6 3) (am_th (i_il 3) (am_th (i_cv 2 2 d_X2_partiesOf) (am_th (i_il 1) (am_th (i_cs 2 d_X6_has) (am_sq 54 (am_br (b_1 (fun x => decide (x = 0))) (am_to 54) (am_th (i_il 2) (am_th (i_ic (1)) (am_th (i_il 3) (am_th (i_2 (fun x y => x <<< (y &&& 31))) (am_th (i_2 (fun x y => x ||| y)) (am_th (i_is 2) (am_to 54)))))))) (am_th (i_inc 3 (1)) (am_to 18)))))))))))))))
def f_X6_bound : am_F := am_th (i_al 0) (am_th (i_il 1) (am_th (i_cv 6 1 d_X6_isFamily) (am_br (b_1 (fun x => decide (¬ x = 0))) (am_th (i_ic (0)) (am_th (i_is 2) (am_th (i_ic (0)) (am_th (i_is 3) (am_sq 60 (am_lp 5000 18 f_X6_bound_l18) (am_th (i_al 0) (am_th (i_il 2) (am_th (i_cv 6 1 d_X6_answer) (r_i))))))))) (am_th (i_al 0) (am_th (i_ic (1)) (am_th (i_cv 6 1 d_X6_refuse) (r_i)))))))
def d_X6_bound : am_D := am_den 4 f_X6_bound
set_option maxHeartbeats 4000000 in
set_option maxRecDepth 100000 in
theorem b_X6_bound : am_Body yX6_bound cX6_bound 4 (some .int) 1 24 f_X6_bound := by
  intro p l e R s m args below meth c g n0 z0 r0 u0 C hr hn
  have C : am_Cx p l e R s m args below meth c g RX6 cX6_bound 4 n0 z0 (am_len u0) (am_wt u0) 1 24 := C
  have l18 : am_Snd (am_GM p l e R s m args below meth c g 4 n0 z0 r0 u0) (am_Rt r0 u0) 18 (f_X6_bound_l18) := by
    unfold f_X6_bound_l18
    exact (so_th (so_iload_n C dX6_bound_18 rfl) (so_th (so_aload_n C dX6_bound_19 rfl) (so_th (so_getr C fl_RX6_27 dX6_bound_20) (so_th (so_geti C fl_RX6_104 (by decide) dX6_bound_23) (so_br (so_icmp_ge C dX6_bound_26 (by decide)) (so_to) (so_th (so_aload_n C dX6_bound_29 rfl) (so_th (so_getr C fl_RX6_41 dX6_bound_30) (so_th (so_aload_n C dX6_bound_33 rfl) (so_th (so_getr C fl_RX6_27 dX6_bound_34) (so_th (so_iload_n C dX6_bound_37 rfl) (so_th (so_cv C m_X2_partiesOf rfl k_67 k_325 k_68 k_70 k_40 ⟨by decide, by decide, by decide +kernel⟩ (by decide) dX6_bound_38) (so_th (so_iload_n C dX6_bound_41 rfl) (so_th (so_cs C m_X6_has k_4 k_330 k_6 k_5 ⟨by decide, by decide, by decide +kernel⟩ (by decide) dX6_bound_42) (so_sq (so_br (so_if_eq C dX6_bound_45 (by decide)) (so_to) (so_th (so_iload_n C dX6_bound_48 rfl) (so_th (so_iconst C dX6_bound_49 (by decide)) (so_th (so_iload_n C dX6_bound_50 rfl) (so_th (so_ishl C dX6_bound_51) (so_th (so_ior C dX6_bound_52) (so_th (so_istore_n C dX6_bound_53 rfl (by decide)) (so_to)))))))) (so_th (so_iinc C dX6_bound_54 (by decide) (by decide)) (so_goto C dX6_bound_57 (by decide) (so_to)))))))))))))))))
  unfold f_X6_bound
  exact (so_th (so_aload_n C dX6_bound_0 rfl) (so_th (so_iload_n C dX6_bound_1 rfl) (so_th (so_cv C m_X6_isFamily rfl k_326 k_328 k_327 k_329 k_5 ⟨by decide, by decide, by decide +kernel⟩ (by decide) dX6_bound_2) (so_br (so_if_ne C dX6_bound_5 (by decide)) (so_th (so_iconst C dX6_bound_14 (by decide)) (so_th (so_istore_n C dX6_bound_15 rfl (by decide)) (so_th (so_iconst C dX6_bound_16 (by decide)) (so_th (so_istore_n C dX6_bound_17 rfl (by decide)) (so_sq (so_lp l18 5000) (so_th (so_aload_n C dX6_bound_60 rfl) (so_th (so_iload_n C dX6_bound_61 rfl) (so_th (so_cv C m_X6_answer rfl k_306 k_308 k_307 k_309 k_5 ⟨by decide, by decide, by decide +kernel⟩ (by decide) dX6_bound_62) (so_ri C hr dX6_bound_65))))))))) (so_th (so_aload_n C dX6_bound_8 rfl) (so_th (so_iconst C dX6_bound_9 (by decide)) (so_th (so_cv C m_X6_refuse rfl k_297 k_299 k_298 k_300 k_5 ⟨by decide, by decide, by decide +kernel⟩ (by decide) dX6_bound_10) (so_ri C hr dX6_bound_13))))))))
theorem m_X6_bound : am_M yX6_bound cX6_bound 4 (some .int) 1 24 d_X6_bound := am_M_of (by decide +kernel) b_X6_bound
theorem dX6_peace_0 : decode cX6_peace 0 = .ok (.aload_n 0, 1) := by decide +kernel
theorem dX6_peace_1 : decode cX6_peace 1 = .ok (.getfield 34, 3) := by decide +kernel
theorem dX6_peace_4 : decode cX6_peace 4 = .ok (.ifCond .ne 9, 3) := by decide +kernel
theorem dX6_peace_7 : decode cX6_peace 7 = .ok (.aload_n 0, 1) := by decide +kernel
theorem dX6_peace_8 : decode cX6_peace 8 = .ok (.iconst 1, 1) := by decide +kernel
theorem dX6_peace_9 : decode cX6_peace 9 = .ok (.invokevirtual 92, 3) := by decide +kernel
theorem dX6_peace_12 : decode cX6_peace 12 = .ok (.ireturn, 1) := by decide +kernel
theorem dX6_peace_13 : decode cX6_peace 13 = .ok (.aload_n 0, 1) := by decide +kernel
theorem dX6_peace_14 : decode cX6_peace 14 = .ok (.aload_n 0, 1) := by decide +kernel
theorem dX6_peace_15 : decode cX6_peace 15 = .ok (.getfield 41, 3) := by decide +kernel
theorem dX6_peace_18 : decode cX6_peace 18 = .ok (.aload_n 0, 1) := by decide +kernel
theorem dX6_peace_19 : decode cX6_peace 19 = .ok (.getfield 27, 3) := by decide +kernel
theorem dX6_peace_22 : decode cX6_peace 22 = .ok (.invokevirtual 135, 3) := by decide +kernel
theorem dX6_peace_25 : decode cX6_peace 25 = .ok (.invokevirtual 107, 3) := by decide +kernel
theorem dX6_peace_28 : decode cX6_peace 28 = .ok (.ireturn, 1) := by decide +kernel
def f_X6_peace : am_F := am_th (i_al 0) (am_th (i_gi 6 5) (am_br (b_1 (fun x => decide (¬ x = 0))) (am_th (i_al 0) (am_th (i_al 0) (am_th (i_gr 6 6) (am_th (i_al 0) (am_th (i_gr 6 3) (am_th (i_cv 2 1 d_X2_familiesAtPeace) (am_th (i_cv 6 1 d_X6_answer) (r_i)))))))) (am_th (i_al 0) (am_th (i_ic (1)) (am_th (i_cv 6 1 d_X6_refuse) (r_i))))))
def d_X6_peace : am_D := am_den 1 f_X6_peace
set_option maxHeartbeats 4000000 in
set_option maxRecDepth 100000 in
theorem b_X6_peace : am_Body yX6_peace cX6_peace 1 (some .int) 1 23 f_X6_peace := by
  intro p l e R s m args below meth c g n0 z0 r0 u0 C hr hn
  have C : am_Cx p l e R s m args below meth c g RX6 cX6_peace 1 n0 z0 (am_len u0) (am_wt u0) 1 23 := C
  unfold f_X6_peace
  exact (so_th (so_aload_n C dX6_peace_0 rfl) (so_th (so_geti C fl_RX6_34 (by decide) dX6_peace_1) (so_br (so_if_ne C dX6_peace_4 (by decide)) (so_th (so_aload_n C dX6_peace_13 rfl) (so_th (so_aload_n C dX6_peace_14 rfl) (so_th (so_getr C fl_RX6_41 dX6_peace_15) (so_th (so_aload_n C dX6_peace_18 rfl) (so_th (so_getr C fl_RX6_27 dX6_peace_19) (so_th (so_cv C m_X2_familiesAtPeace rfl k_99 k_331 k_100 k_102 k_40 ⟨by decide, by decide, by decide +kernel⟩ (by decide) dX6_peace_22) (so_th (so_cv C m_X6_answer rfl k_306 k_308 k_307 k_309 k_5 ⟨by decide, by decide, by decide +kernel⟩ (by decide) dX6_peace_25) (so_ri C hr dX6_peace_28)))))))) (so_th (so_aload_n C dX6_peace_7 rfl) (so_th (so_iconst C dX6_peace_8 (by decide)) (so_th (so_cv C m_X6_refuse rfl k_297 k_299 k_298 k_300 k_5 ⟨by decide, by decide, by decide +kernel⟩ (by decide) dX6_peace_9) (so_ri C hr dX6_peace_12)))))))
theorem m_X6_peace : am_M yX6_peace cX6_peace 1 (some .int) 1 23 d_X6_peace := am_M_of (by decide +kernel) b_X6_peace
theorem dX6_stand_0 : decode cX6_stand 0 = .ok (.aload_n 0, 1) := by decide +kernel
theorem dX6_stand_1 : decode cX6_stand 1 = .ok (.getfield 34, 3) := by decide +kernel
theorem dX6_stand_4 : decode cX6_stand 4 = .ok (.ifCond .ne 9, 3) := by decide +kernel
theorem dX6_stand_7 : decode cX6_stand 7 = .ok (.aload_n 0, 1) := by decide +kernel
theorem dX6_stand_8 : decode cX6_stand 8 = .ok (.iconst 1, 1) := by decide +kernel
theorem dX6_stand_9 : decode cX6_stand 9 = .ok (.invokevirtual 92, 3) := by decide +kernel
theorem dX6_stand_12 : decode cX6_stand 12 = .ok (.ireturn, 1) := by decide +kernel
theorem dX6_stand_13 : decode cX6_stand 13 = .ok (.aload_n 0, 1) := by decide +kernel
theorem dX6_stand_14 : decode cX6_stand 14 = .ok (.aload_n 0, 1) := by decide +kernel
theorem dX6_stand_15 : decode cX6_stand 15 = .ok (.getfield 41, 3) := by decide +kernel
theorem dX6_stand_18 : decode cX6_stand 18 = .ok (.aload_n 0, 1) := by decide +kernel
theorem dX6_stand_19 : decode cX6_stand 19 = .ok (.getfield 27, 3) := by decide +kernel
theorem dX6_stand_22 : decode cX6_stand 22 = .ok (.invokevirtual 139, 3) := by decide +kernel
theorem dX6_stand_25 : decode cX6_stand 25 = .ok (.invokevirtual 107, 3) := by decide +kernel
theorem dX6_stand_28 : decode cX6_stand 28 = .ok (.ireturn, 1) := by decide +kernel
def f_X6_stand : am_F := am_th (i_al 0) (am_th (i_gi 6 5) (am_br (b_1 (fun x => decide (¬ x = 0))) (am_th (i_al 0) (am_th (i_al 0) (am_th (i_gr 6 6) (am_th (i_al 0) (am_th (i_gr 6 3) (am_th (i_cv 2 1 d_X2_standing) (am_th (i_cv 6 1 d_X6_answer) (r_i)))))))) (am_th (i_al 0) (am_th (i_ic (1)) (am_th (i_cv 6 1 d_X6_refuse) (r_i))))))
def d_X6_stand : am_D := am_den 1 f_X6_stand
set_option maxHeartbeats 4000000 in
set_option maxRecDepth 100000 in
theorem b_X6_stand : am_Body yX6_stand cX6_stand 1 (some .int) 2 44 f_X6_stand := by
  intro p l e R s m args below meth c g n0 z0 r0 u0 C hr hn
  have C : am_Cx p l e R s m args below meth c g RX6 cX6_stand 1 n0 z0 (am_len u0) (am_wt u0) 2 44 := C
  unfold f_X6_stand
  exact (so_th (so_aload_n C dX6_stand_0 rfl) (so_th (so_geti C fl_RX6_34 (by decide) dX6_stand_1) (so_br (so_if_ne C dX6_stand_4 (by decide)) (so_th (so_aload_n C dX6_stand_13 rfl) (so_th (so_aload_n C dX6_stand_14 rfl) (so_th (so_getr C fl_RX6_41 dX6_stand_15) (so_th (so_aload_n C dX6_stand_18 rfl) (so_th (so_getr C fl_RX6_27 dX6_stand_19) (so_th (so_cv C m_X2_standing rfl k_332 k_334 k_333 k_335 k_40 ⟨by decide, by decide, by decide +kernel⟩ (by decide) dX6_stand_22) (so_th (so_cv C m_X6_answer rfl k_306 k_308 k_307 k_309 k_5 ⟨by decide, by decide, by decide +kernel⟩ (by decide) dX6_stand_25) (so_ri C hr dX6_stand_28)))))))) (so_th (so_aload_n C dX6_stand_7 rfl) (so_th (so_iconst C dX6_stand_8 (by decide)) (so_th (so_cv C m_X6_refuse rfl k_297 k_299 k_298 k_300 k_5 ⟨by decide, by decide, by decide +kernel⟩ (by decide) dX6_stand_9) (so_ri C hr dX6_stand_12)))))))
theorem m_X6_stand : am_M yX6_stand cX6_stand 1 (some .int) 2 44 d_X6_stand := am_M_of (by decide +kernel) b_X6_stand
theorem dX6_feud_0 : decode cX6_feud 0 = .ok (.aload_n 0, 1) := by decide +kernel
theorem dX6_feud_1 : decode cX6_feud 1 = .ok (.iload_n 1, 1) := by decide +kernel
theorem dX6_feud_2 : decode cX6_feud 2 = .ok (.invokevirtual 128, 3) := by decide +kernel
theorem dX6_feud_5 : decode cX6_feud 5 = .ok (.ifCond .ne 9, 3) := by decide +kernel
theorem dX6_feud_8 : decode cX6_feud 8 = .ok (.aload_n 0, 1) := by decide +kernel
theorem dX6_feud_9 : decode cX6_feud 9 = .ok (.iconst 1, 1) := by decide +kernel
theorem dX6_feud_10 : decode cX6_feud 10 = .ok (.invokevirtual 92, 3) := by decide +kernel
theorem dX6_feud_13 : decode cX6_feud 13 = .ok (.ireturn, 1) := by decide +kernel
theorem dX6_feud_14 : decode cX6_feud 14 = .ok (.iconst 1, 1) := by decide +kernel
theorem dX6_feud_15 : decode cX6_feud 15 = .ok (.iload_n 1, 1) := by decide +kernel
theorem dX6_feud_16 : decode cX6_feud 16 = .ok (.ishl, 1) := by decide +kernel
theorem dX6_feud_17 : decode cX6_feud 17 = .ok (.istore_n 2, 1) := by decide +kernel
theorem dX6_feud_18 : decode cX6_feud 18 = .ok (.iconst 0, 1) := by decide +kernel
theorem dX6_feud_19 : decode cX6_feud 19 = .ok (.istore_n 3, 1) := by decide +kernel
theorem dX6_feud_20 : decode cX6_feud 20 = .ok (.iload_n 3, 1) := by decide +kernel
theorem dX6_feud_21 : decode cX6_feud 21 = .ok (.bipush 6, 2) := by decide +kernel
theorem dX6_feud_23 : decode cX6_feud 23 = .ok (.if_icmp .ge 57, 3) := by decide +kernel
theorem dX6_feud_26 : decode cX6_feud 26 = .ok (.iconst 0, 1) := by decide +kernel
theorem dX6_feud_27 : decode cX6_feud 27 = .ok (.istore 4, 2) := by decide +kernel
theorem dX6_feud_29 : decode cX6_feud 29 = .ok (.iload 4, 2) := by decide +kernel
theorem dX6_feud_31 : decode cX6_feud 31 = .ok (.aload_n 0, 1) := by decide +kernel
theorem dX6_feud_32 : decode cX6_feud 32 = .ok (.getfield 27, 3) := by decide +kernel
theorem dX6_feud_35 : decode cX6_feud 35 = .ok (.getfield 104, 3) := by decide +kernel
theorem dX6_feud_38 : decode cX6_feud 38 = .ok (.if_icmp .ge 36, 3) := by decide +kernel
theorem dX6_feud_41 : decode cX6_feud 41 = .ok (.aload_n 0, 1) := by decide +kernel
theorem dX6_feud_42 : decode cX6_feud 42 = .ok (.getfield 41, 3) := by decide +kernel
theorem dX6_feud_45 : decode cX6_feud 45 = .ok (.aload_n 0, 1) := by decide +kernel
theorem dX6_feud_46 : decode cX6_feud 46 = .ok (.getfield 27, 3) := by decide +kernel
theorem dX6_feud_49 : decode cX6_feud 49 = .ok (.iload 4, 2) := by decide +kernel
theorem dX6_feud_51 : decode cX6_feud 51 = .ok (.invokevirtual 124, 3) := by decide +kernel
theorem dX6_feud_54 : decode cX6_feud 54 = .ok (.istore 5, 2) := by decide +kernel
theorem dX6_feud_56 : decode cX6_feud 56 = .ok (.iload 5, 2) := by decide +kernel
theorem dX6_feud_58 : decode cX6_feud 58 = .ok (.iload_n 2, 1) := by decide +kernel
theorem dX6_feud_59 : decode cX6_feud 59 = .ok (.iand, 1) := by decide +kernel
theorem dX6_feud_60 : decode cX6_feud 60 = .ok (.ifCond .eq 8, 3) := by decide +kernel
theorem dX6_feud_63 : decode cX6_feud 63 = .ok (.iload_n 2, 1) := by decide +kernel
theorem dX6_feud_64 : decode cX6_feud 64 = .ok (.iload 5, 2) := by decide +kernel
theorem dX6_feud_66 : decode cX6_feud 66 = .ok (.ior, 1) := by decide +kernel
theorem dX6_feud_67 : decode cX6_feud 67 = .ok (.istore_n 2, 1) := by decide +kernel
theorem dX6_feud_68 : decode cX6_feud 68 = .ok (.iinc 4 1, 3) := by decide +kernel
theorem dX6_feud_71 : decode cX6_feud 71 = .ok (.goto (-42), 3) := by decide +kernel
theorem dX6_feud_74 : decode cX6_feud 74 = .ok (.iinc 3 1, 3) := by decide +kernel
theorem dX6_feud_77 : decode cX6_feud 77 = .ok (.goto (-57), 3) := by decide +kernel
theorem dX6_feud_80 : decode cX6_feud 80 = .ok (.aload_n 0, 1) := by decide +kernel
theorem dX6_feud_81 : decode cX6_feud 81 = .ok (.iload_n 2, 1) := by decide +kernel
theorem dX6_feud_82 : decode cX6_feud 82 = .ok (.invokevirtual 107, 3) := by decide +kernel
theorem dX6_feud_85 : decode cX6_feud 85 = .ok (.ireturn, 1) := by decide +kernel
def f_X6_feud_l29 : am_F := am_th (i_il 4) (am_th (i_al 0) (am_th (i_gr 6 3) (am_th (i_gi 5 3) (am_br (b_2 (fun x y => decide (y ≤ x))) (am_th (i_inc 3 (1)) (am_to 20)) (am_th (i_al 0) (am_th (i_gr 6 6) (am_th (i_al 0) (am_th (i_gr 6 3) (am_th (i_il 4) (am_th (i_cv 2 2 d_X2_partiesOf) (am_th (i_is 5) (am_th (i_il 5) (am_th (i_il 2) (am_th (i_2 (fun x y => x &&& y)) (am_sq 68 (am_br (b_1 (fun x => decide (x = 0))) (am_to 68) (am_th (i_il 2) (am_th (i_il 5) (am_th (i_2 (fun x y => x ||| y)) (am_th (i_is 2) (am_to 68)))))) (am_th (i_inc 4 (1)) (am_to 29)))))))))))))))))
def f_X6_feud_l20 : am_F := am_th (i_il 3) (am_th (i_ic (6)) (am_br (b_2 (fun x y => decide (y ≤ x))) (am_to 80) (am_th (i_ic (0)) (am_th (i_is 4) (am_lp 5000 29 f_X6_feud_l29)))))
def f_X6_feud : am_F := am_th (i_al 0) (am_th (i_il 1) (am_th (i_cv 6 1 d_X6_isFamily) (am_br (b_1 (fun x => decide (¬ x = 0))) (am_th (i_ic (1)) (am_th (i_il 1) (am_th (i_2 (fun x y => x <<< (y &&& 31))) (am_th (i_is 2) (am_th (i_ic (0)) (am_th (i_is 3) (am_sq 80 (am_lp 5000 20 f_X6_feud_l20) (am_th (i_al 0) (am_th (i_il 2) (am_th (i_cv 6 1 d_X6_answer) (r_i))))))))))) (am_th (i_al 0) (am_th (i_ic (1)) (am_th (i_cv 6 1 d_X6_refuse) (r_i)))))))
def d_X6_feud : am_D := am_den 6 f_X6_feud
set_option maxHeartbeats 4000000 in
set_option maxRecDepth 100000 in
theorem b_X6_feud : am_Body yX6_feud cX6_feud 6 (some .int) 1 24 f_X6_feud := by
  intro p l e R s m args below meth c g n0 z0 r0 u0 C hr hn
  have C : am_Cx p l e R s m args below meth c g RX6 cX6_feud 6 n0 z0 (am_len u0) (am_wt u0) 1 24 := C
  have l29 : am_Snd (am_GM p l e R s m args below meth c g 6 n0 z0 r0 u0) (am_Rt r0 u0) 29 (f_X6_feud_l29) := by
    unfold f_X6_feud_l29
    exact (so_th (so_iload C dX6_feud_29) (so_th (so_aload_n C dX6_feud_31 rfl) (so_th (so_getr C fl_RX6_27 dX6_feud_32) (so_th (so_geti C fl_RX6_104 (by decide) dX6_feud_35) (so_br (so_icmp_ge C dX6_feud_38 (by decide)) (so_th (so_iinc C dX6_feud_74 (by decide) (by decide)) (so_goto C dX6_feud_77 (by decide) (so_to))) (so_th (so_aload_n C dX6_feud_41 rfl) (so_th (so_getr C fl_RX6_41 dX6_feud_42) (so_th (so_aload_n C dX6_feud_45 rfl) (so_th (so_getr C fl_RX6_27 dX6_feud_46) (so_th (so_iload C dX6_feud_49) (so_th (so_cv C m_X2_partiesOf rfl k_67 k_325 k_68 k_70 k_40 ⟨by decide, by decide, by decide +kernel⟩ (by decide) dX6_feud_51) (so_th (so_istore C dX6_feud_54 (by decide)) (so_th (so_iload C dX6_feud_56) (so_th (so_iload_n C dX6_feud_58 rfl) (so_th (so_iand C dX6_feud_59) (so_sq (so_br (so_if_eq C dX6_feud_60 (by decide)) (so_to) (so_th (so_iload_n C dX6_feud_63 rfl) (so_th (so_iload C dX6_feud_64) (so_th (so_ior C dX6_feud_66) (so_th (so_istore_n C dX6_feud_67 rfl (by decide)) (so_to)))))) (so_th (so_iinc C dX6_feud_68 (by decide) (by decide)) (so_goto C dX6_feud_71 (by decide) (so_to)))))))))))))))))))
  have l20 : am_Snd (am_GM p l e R s m args below meth c g 6 n0 z0 r0 u0) (am_Rt r0 u0) 20 (f_X6_feud_l20) := by
    unfold f_X6_feud_l20
    exact (so_th (so_iload_n C dX6_feud_20 rfl) (so_th (so_bipush C dX6_feud_21 (by decide)) (so_br (so_icmp_ge C dX6_feud_23 (by decide)) (so_to) (so_th (so_iconst C dX6_feud_26 (by decide)) (so_th (so_istore C dX6_feud_27 (by decide)) (so_lp l29 5000))))))
  unfold f_X6_feud
  exact (so_th (so_aload_n C dX6_feud_0 rfl) (so_th (so_iload_n C dX6_feud_1 rfl) (so_th (so_cv C m_X6_isFamily rfl k_326 k_328 k_327 k_329 k_5 ⟨by decide, by decide, by decide +kernel⟩ (by decide) dX6_feud_2) (so_br (so_if_ne C dX6_feud_5 (by decide)) (so_th (so_iconst C dX6_feud_14 (by decide)) (so_th (so_iload_n C dX6_feud_15 rfl) (so_th (so_ishl C dX6_feud_16) (so_th (so_istore_n C dX6_feud_17 rfl (by decide)) (so_th (so_iconst C dX6_feud_18 (by decide)) (so_th (so_istore_n C dX6_feud_19 rfl (by decide)) (so_sq (so_lp l20 5000) (so_th (so_aload_n C dX6_feud_80 rfl) (so_th (so_iload_n C dX6_feud_81 rfl) (so_th (so_cv C m_X6_answer rfl k_306 k_308 k_307 k_309 k_5 ⟨by decide, by decide, by decide +kernel⟩ (by decide) dX6_feud_82) (so_ri C hr dX6_feud_85))))))))))) (so_th (so_aload_n C dX6_feud_8 rfl) (so_th (so_iconst C dX6_feud_9 (by decide)) (so_th (so_cv C m_X6_refuse rfl k_297 k_299 k_298 k_300 k_5 ⟨by decide, by decide, by decide +kernel⟩ (by decide) dX6_feud_10) (so_ri C hr dX6_feud_13))))))))
theorem m_X6_feud : am_M yX6_feud cX6_feud 6 (some .int) 1 24 d_X6_feud := am_M_of (by decide +kernel) b_X6_feud
theorem dX6_isSpan_0 : decode cX6_isSpan 0 = .ok (.iload_n 0, 1) := by decide +kernel
theorem dX6_isSpan_1 : decode cX6_isSpan 1 = .ok (.ifCond .lt 13, 3) := by decide +kernel
theorem dX6_isSpan_4 : decode cX6_isSpan 4 = .ok (.iload_n 0, 1) := by decide +kernel
theorem dX6_isSpan_5 : decode cX6_isSpan 5 = .ok (.bipush 24, 2) := by decide +kernel
theorem dX6_isSpan_7 : decode cX6_isSpan 7 = .ok (.if_icmp .gt 7, 3) := by decide +kernel
theorem dX6_isSpan_10 : decode cX6_isSpan 10 = .ok (.iconst 1, 1) := by decide +kernel
theorem dX6_isSpan_11 : decode cX6_isSpan 11 = .ok (.goto 4, 3) := by decide +kernel
theorem dX6_isSpan_14 : decode cX6_isSpan 14 = .ok (.iconst 0, 1) := by decide +kernel
theorem dX6_isSpan_15 : decode cX6_isSpan 15 = .ok (.ireturn, 1) := by decide +kernel
def f_X6_isSpan : am_F := am_th (i_il 0) (am_br (b_1 (fun x => decide (x < 0))) (am_th (i_ic (0)) (r_z)) (am_th (i_il 0) (am_th (i_ic (24)) (am_br (b_2 (fun x y => decide (y < x))) (am_th (i_ic (0)) (r_z)) (am_th (i_ic (1)) (r_z))))))
def d_X6_isSpan : am_D := am_den 1 f_X6_isSpan
set_option maxHeartbeats 4000000 in
set_option maxRecDepth 100000 in
theorem b_X6_isSpan : am_Body yX6_isSpan cX6_isSpan 1 (some .boolean) 0 0 f_X6_isSpan := by
  intro p l e R s m args below meth c g n0 z0 r0 u0 C hr hn
  have C : am_Cx p l e R s m args below meth c g RX6 cX6_isSpan 1 n0 z0 (am_len u0) (am_wt u0) 0 0 := C
  unfold f_X6_isSpan
  exact (so_th (so_iload_n C dX6_isSpan_0 rfl) (so_br (so_if_lt C dX6_isSpan_1 (by decide)) (so_th (so_iconst C dX6_isSpan_14 (by decide)) (so_rz C hr dX6_isSpan_15)) (so_th (so_iload_n C dX6_isSpan_4 rfl) (so_th (so_bipush C dX6_isSpan_5 (by decide)) (so_br (so_icmp_gt C dX6_isSpan_7 (by decide)) (so_th (so_iconst C dX6_isSpan_14 (by decide)) (so_rz C hr dX6_isSpan_15)) (so_th (so_iconst C dX6_isSpan_10 (by decide)) (so_goto C dX6_isSpan_11 (by decide) (so_rz C hr dX6_isSpan_15))))))))
theorem m_X6_isSpan : am_M yX6_isSpan cX6_isSpan 1 (some .boolean) 0 0 d_X6_isSpan := am_M_of (by decide +kernel) b_X6_isSpan
theorem dX6_tryFromNow_0 : decode cX6_tryFromNow 0 = .ok (.aload_n 0, 1) := by decide +kernel
theorem dX6_tryFromNow_1 : decode cX6_tryFromNow 1 = .ok (.getfield 45, 3) := by decide +kernel
theorem dX6_tryFromNow_4 : decode cX6_tryFromNow 4 = .ok (.aload_n 0, 1) := by decide +kernel
theorem dX6_tryFromNow_5 : decode cX6_tryFromNow 5 = .ok (.getfield 41, 3) := by decide +kernel
theorem dX6_tryFromNow_8 : decode cX6_tryFromNow 8 = .ok (.invokevirtual 155, 3) := by decide +kernel
theorem dX6_tryFromNow_11 : decode cX6_tryFromNow 11 = .ok (.iconst 0, 1) := by decide +kernel
theorem dX6_tryFromNow_12 : decode cX6_tryFromNow 12 = .ok (.istore_n 2, 1) := by decide +kernel
theorem dX6_tryFromNow_13 : decode cX6_tryFromNow 13 = .ok (.iload_n 2, 1) := by decide +kernel
theorem dX6_tryFromNow_14 : decode cX6_tryFromNow 14 = .ok (.iload_n 1, 1) := by decide +kernel
theorem dX6_tryFromNow_15 : decode cX6_tryFromNow 15 = .ok (.if_icmp .ge 21, 3) := by decide +kernel
theorem dX6_tryFromNow_18 : decode cX6_tryFromNow 18 = .ok (.aload_n 0, 1) := by decide +kernel
theorem dX6_tryFromNow_19 : decode cX6_tryFromNow 19 = .ok (.getfield 45, 3) := by decide +kernel
theorem dX6_tryFromNow_22 : decode cX6_tryFromNow 22 = .ok (.aload_n 0, 1) := by decide +kernel
theorem dX6_tryFromNow_23 : decode cX6_tryFromNow 23 = .ok (.getfield 27, 3) := by decide +kernel
theorem dX6_tryFromNow_26 : decode cX6_tryFromNow 26 = .ok (.invokevirtual 159, 3) := by decide +kernel
theorem dX6_tryFromNow_29 : decode cX6_tryFromNow 29 = .ok (.pop, 1) := by decide +kernel
theorem dX6_tryFromNow_30 : decode cX6_tryFromNow 30 = .ok (.iinc 2 1, 3) := by decide +kernel
theorem dX6_tryFromNow_33 : decode cX6_tryFromNow 33 = .ok (.goto (-20), 3) := by decide +kernel
theorem dX6_tryFromNow_36 : decode cX6_tryFromNow 36 = .ok (.return_, 1) := by decide +kernel
def f_X6_tryFromNow_l13 : am_F := am_th (i_il 2) (am_th (i_il 1) (am_br (b_2 (fun x y => decide (y ≤ x))) (am_to 36) (am_th (i_al 0) (am_th (i_gr 6 7) (am_th (i_al 0) (am_th (i_gr 6 3) (am_th (i_cv 2 1 d_X2_passByDeeds) (am_th (i_pop) (am_th (i_inc 2 (1)) (am_to 13))))))))))
def f_X6_tryFromNow : am_F := am_th (i_al 0) (am_th (i_gr 6 7) (am_th (i_al 0) (am_th (i_gr 6 6) (am_th (i_cv 2 1 d_X2_become) (am_th (i_ic (0)) (am_th (i_is 2) (am_sq 36 (am_lp 5000 13 f_X6_tryFromNow_l13) (r_v))))))))
def d_X6_tryFromNow : am_D := am_den 3 f_X6_tryFromNow
set_option maxHeartbeats 4000000 in
set_option maxRecDepth 100000 in
theorem b_X6_tryFromNow : am_Body yX6_tryFromNow cX6_tryFromNow 3 none 5 109 f_X6_tryFromNow := by
  intro p l e R s m args below meth c g n0 z0 r0 u0 C hr hn
  have C : am_Cx p l e R s m args below meth c g RX6 cX6_tryFromNow 3 n0 z0 (am_len u0) (am_wt u0) 5 109 := C
  have l13 : am_Snd (am_GM p l e R s m args below meth c g 3 n0 z0 r0 u0) (am_Rt r0 u0) 13 (f_X6_tryFromNow_l13) := by
    unfold f_X6_tryFromNow_l13
    exact (so_th (so_iload_n C dX6_tryFromNow_13 rfl) (so_th (so_iload_n C dX6_tryFromNow_14 rfl) (so_br (so_icmp_ge C dX6_tryFromNow_15 (by decide)) (so_to) (so_th (so_aload_n C dX6_tryFromNow_18 rfl) (so_th (so_getr C fl_RX6_45 dX6_tryFromNow_19) (so_th (so_aload_n C dX6_tryFromNow_22 rfl) (so_th (so_getr C fl_RX6_27 dX6_tryFromNow_23) (so_th (so_cv C m_X2_passByDeeds rfl k_63 k_337 k_64 k_66 k_40 ⟨by decide, by decide, by decide +kernel⟩ (by decide) dX6_tryFromNow_26) (so_th (so_pop C dX6_tryFromNow_29) (so_th (so_iinc C dX6_tryFromNow_30 (by decide) (by decide)) (so_goto C dX6_tryFromNow_33 (by decide) (so_to))))))))))))
  unfold f_X6_tryFromNow
  exact (so_th (so_aload_n C dX6_tryFromNow_0 rfl) (so_th (so_getr C fl_RX6_45 dX6_tryFromNow_1) (so_th (so_aload_n C dX6_tryFromNow_4 rfl) (so_th (so_getr C fl_RX6_41 dX6_tryFromNow_5) (so_th (so_cv C m_X2_become rfl k_83 k_336 k_84 k_86 k_40 ⟨by decide, by decide, by decide +kernel⟩ (by decide) dX6_tryFromNow_8) (so_th (so_iconst C dX6_tryFromNow_11 (by decide)) (so_th (so_istore_n C dX6_tryFromNow_12 rfl (by decide)) (so_sq (so_lp l13 5000) (so_rv C hr dX6_tryFromNow_36)))))))))
theorem m_X6_tryFromNow : am_M yX6_tryFromNow cX6_tryFromNow 3 none 5 109 d_X6_tryFromNow := am_M_of (by decide +kernel) b_X6_tryFromNow
theorem dX6_vigour_0 : decode cX6_vigour 0 = .ok (.aload_n 0, 1) := by decide +kernel
theorem dX6_vigour_1 : decode cX6_vigour 1 = .ok (.iload_n 1, 1) := by decide +kernel
theorem dX6_vigour_2 : decode cX6_vigour 2 = .ok (.invokevirtual 116, 3) := by decide +kernel
theorem dX6_vigour_5 : decode cX6_vigour 5 = .ok (.ifCond .ne 9, 3) := by decide +kernel
theorem dX6_vigour_8 : decode cX6_vigour 8 = .ok (.aload_n 0, 1) := by decide +kernel
theorem dX6_vigour_9 : decode cX6_vigour 9 = .ok (.iconst 1, 1) := by decide +kernel
theorem dX6_vigour_10 : decode cX6_vigour 10 = .ok (.invokevirtual 92, 3) := by decide +kernel
theorem dX6_vigour_13 : decode cX6_vigour 13 = .ok (.ireturn, 1) := by decide +kernel
theorem dX6_vigour_14 : decode cX6_vigour 14 = .ok (.iload_n 2, 1) := by decide +kernel
theorem dX6_vigour_15 : decode cX6_vigour 15 = .ok (.invokestatic 142, 3) := by decide +kernel
theorem dX6_vigour_18 : decode cX6_vigour 18 = .ok (.ifCond .ne 9, 3) := by decide +kernel
theorem dX6_vigour_21 : decode cX6_vigour 21 = .ok (.aload_n 0, 1) := by decide +kernel
theorem dX6_vigour_22 : decode cX6_vigour 22 = .ok (.iconst 2, 1) := by decide +kernel
theorem dX6_vigour_23 : decode cX6_vigour 23 = .ok (.invokevirtual 92, 3) := by decide +kernel
theorem dX6_vigour_26 : decode cX6_vigour 26 = .ok (.ireturn, 1) := by decide +kernel
theorem dX6_vigour_27 : decode cX6_vigour 27 = .ok (.aload_n 0, 1) := by decide +kernel
theorem dX6_vigour_28 : decode cX6_vigour 28 = .ok (.iload_n 2, 1) := by decide +kernel
theorem dX6_vigour_29 : decode cX6_vigour 29 = .ok (.invokevirtual 145, 3) := by decide +kernel
theorem dX6_vigour_32 : decode cX6_vigour 32 = .ok (.aload_n 0, 1) := by decide +kernel
theorem dX6_vigour_33 : decode cX6_vigour 33 = .ok (.aload_n 0, 1) := by decide +kernel
theorem dX6_vigour_34 : decode cX6_vigour 34 = .ok (.getfield 45, 3) := by decide +kernel
theorem dX6_vigour_37 : decode cX6_vigour 37 = .ok (.iload_n 1, 1) := by decide +kernel
theorem dX6_vigour_38 : decode cX6_vigour 38 = .ok (.invokevirtual 148, 3) := by decide +kernel
theorem dX6_vigour_41 : decode cX6_vigour 41 = .ok (.invokevirtual 107, 3) := by decide +kernel
theorem dX6_vigour_44 : decode cX6_vigour 44 = .ok (.ireturn, 1) := by decide +kernel
def f_X6_vigour : am_F := am_th (i_al 0) (am_th (i_il 1) (am_th (i_cv 6 1 d_X6_isQuarrel) (am_br (b_1 (fun x => decide (¬ x = 0))) (am_th (i_il 2) (am_th (i_cs 1 d_X6_isSpan) (am_br (b_1 (fun x => decide (¬ x = 0))) (am_th (i_al 0) (am_th (i_il 2) (am_th (i_cv 6 1 d_X6_tryFromNow) (am_th (i_al 0) (am_th (i_al 0) (am_th (i_gr 6 7) (am_th (i_il 1) (am_th (i_cv 2 1 d_X2_vigourOf) (am_th (i_cv 6 1 d_X6_answer) (r_i)))))))))) (am_th (i_al 0) (am_th (i_ic (2)) (am_th (i_cv 6 1 d_X6_refuse) (r_i))))))) (am_th (i_al 0) (am_th (i_ic (1)) (am_th (i_cv 6 1 d_X6_refuse) (r_i)))))))
def d_X6_vigour : am_D := am_den 3 f_X6_vigour
set_option maxHeartbeats 4000000 in
set_option maxRecDepth 100000 in
theorem b_X6_vigour : am_Body yX6_vigour cX6_vigour 3 (some .int) 6 131 f_X6_vigour := by
  intro p l e R s m args below meth c g n0 z0 r0 u0 C hr hn
  have C : am_Cx p l e R s m args below meth c g RX6 cX6_vigour 3 n0 z0 (am_len u0) (am_wt u0) 6 131 := C
  unfold f_X6_vigour
  exact (so_th (so_aload_n C dX6_vigour_0 rfl) (so_th (so_iload_n C dX6_vigour_1 rfl) (so_th (so_cv C m_X6_isQuarrel rfl k_317 k_319 k_318 k_320 k_5 ⟨by decide, by decide, by decide +kernel⟩ (by decide) dX6_vigour_2) (so_br (so_if_ne C dX6_vigour_5 (by decide)) (so_th (so_iload_n C dX6_vigour_14 rfl) (so_th (so_cs C m_X6_isSpan k_338 k_340 k_339 k_5 ⟨by decide, by decide, by decide +kernel⟩ (by decide) dX6_vigour_15) (so_br (so_if_ne C dX6_vigour_18 (by decide)) (so_th (so_aload_n C dX6_vigour_27 rfl) (so_th (so_iload_n C dX6_vigour_28 rfl) (so_th (so_cv C m_X6_tryFromNow rfl k_341 k_343 k_342 k_344 k_5 ⟨by decide, by decide, by decide +kernel⟩ (by decide) dX6_vigour_29) (so_th (so_aload_n C dX6_vigour_32 rfl) (so_th (so_aload_n C dX6_vigour_33 rfl) (so_th (so_getr C fl_RX6_45 dX6_vigour_34) (so_th (so_iload_n C dX6_vigour_37 rfl) (so_th (so_cv C m_X2_vigourOf rfl k_310 k_312 k_311 k_313 k_40 ⟨by decide, by decide, by decide +kernel⟩ (by decide) dX6_vigour_38) (so_th (so_cv C m_X6_answer rfl k_306 k_308 k_307 k_309 k_5 ⟨by decide, by decide, by decide +kernel⟩ (by decide) dX6_vigour_41) (so_ri C hr dX6_vigour_44)))))))))) (so_th (so_aload_n C dX6_vigour_21 rfl) (so_th (so_iconst C dX6_vigour_22 (by decide)) (so_th (so_cv C m_X6_refuse rfl k_297 k_299 k_298 k_300 k_5 ⟨by decide, by decide, by decide +kernel⟩ (by decide) dX6_vigour_23) (so_ri C hr dX6_vigour_26))))))) (so_th (so_aload_n C dX6_vigour_8 rfl) (so_th (so_iconst C dX6_vigour_9 (by decide)) (so_th (so_cv C m_X6_refuse rfl k_297 k_299 k_298 k_300 k_5 ⟨by decide, by decide, by decide +kernel⟩ (by decide) dX6_vigour_10) (so_ri C hr dX6_vigour_13))))))))
theorem m_X6_vigour : am_M yX6_vigour cX6_vigour 3 (some .int) 6 131 d_X6_vigour := am_M_of (by decide +kernel) b_X6_vigour
