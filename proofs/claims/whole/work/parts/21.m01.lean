theorem dX2_join_0 : decode cX2_join 0 = .ok (.aload_n 0, 1) := by decide +kernel
theorem dX2_join_1 : decode cX2_join 1 = .ok (.getfield 9, 3) := by decide +kernel
theorem dX2_join_4 : decode cX2_join 4 = .ok (.iload_n 2, 1) := by decide +kernel
theorem dX2_join_5 : decode cX2_join 5 = .ok (.dup2, 1) := by decide +kernel
theorem dX2_join_6 : decode cX2_join 6 = .ok (.iaload, 1) := by decide +kernel
theorem dX2_join_7 : decode cX2_join 7 = .ok (.aload_n 0, 1) := by decide +kernel
theorem dX2_join_8 : decode cX2_join 8 = .ok (.getfield 9, 3) := by decide +kernel
theorem dX2_join_11 : decode cX2_join 11 = .ok (.iload_n 1, 1) := by decide +kernel
theorem dX2_join_12 : decode cX2_join 12 = .ok (.iaload, 1) := by decide +kernel
theorem dX2_join_13 : decode cX2_join 13 = .ok (.iconst 2, 1) := by decide +kernel
theorem dX2_join_14 : decode cX2_join 14 = .ok (.idiv, 1) := by decide +kernel
theorem dX2_join_15 : decode cX2_join 15 = .ok (.iadd, 1) := by decide +kernel
theorem dX2_join_16 : decode cX2_join 16 = .ok (.iastore, 1) := by decide +kernel
theorem dX2_join_17 : decode cX2_join 17 = .ok (.aload_n 0, 1) := by decide +kernel
theorem dX2_join_18 : decode cX2_join 18 = .ok (.getfield 9, 3) := by decide +kernel
theorem dX2_join_21 : decode cX2_join 21 = .ok (.iload_n 1, 1) := by decide +kernel
theorem dX2_join_22 : decode cX2_join 22 = .ok (.iconst 0, 1) := by decide +kernel
theorem dX2_join_23 : decode cX2_join 23 = .ok (.iastore, 1) := by decide +kernel
theorem dX2_join_24 : decode cX2_join 24 = .ok (.iconst 0, 1) := by decide +kernel
theorem dX2_join_25 : decode cX2_join 25 = .ok (.istore_n 3, 1) := by decide +kernel
theorem dX2_join_26 : decode cX2_join 26 = .ok (.iload_n 3, 1) := by decide +kernel
theorem dX2_join_27 : decode cX2_join 27 = .ok (.bipush 6, 2) := by decide +kernel
theorem dX2_join_29 : decode cX2_join 29 = .ok (.if_icmp .ge 26, 3) := by decide +kernel
theorem dX2_join_32 : decode cX2_join 32 = .ok (.aload_n 0, 1) := by decide +kernel
theorem dX2_join_33 : decode cX2_join 33 = .ok (.getfield 15, 3) := by decide +kernel
theorem dX2_join_36 : decode cX2_join 36 = .ok (.iload_n 3, 1) := by decide +kernel
theorem dX2_join_37 : decode cX2_join 37 = .ok (.iaload, 1) := by decide +kernel
theorem dX2_join_38 : decode cX2_join 38 = .ok (.iload_n 1, 1) := by decide +kernel
theorem dX2_join_39 : decode cX2_join 39 = .ok (.if_icmp .ne 10, 3) := by decide +kernel
theorem dX2_join_42 : decode cX2_join 42 = .ok (.aload_n 0, 1) := by decide +kernel
theorem dX2_join_43 : decode cX2_join 43 = .ok (.getfield 15, 3) := by decide +kernel
theorem dX2_join_46 : decode cX2_join 46 = .ok (.iload_n 3, 1) := by decide +kernel
theorem dX2_join_47 : decode cX2_join 47 = .ok (.iload_n 2, 1) := by decide +kernel
theorem dX2_join_48 : decode cX2_join 48 = .ok (.iastore, 1) := by decide +kernel
theorem dX2_join_49 : decode cX2_join 49 = .ok (.iinc 3 1, 3) := by decide +kernel
theorem dX2_join_52 : decode cX2_join 52 = .ok (.goto (-26), 3) := by decide +kernel
theorem dX2_join_55 : decode cX2_join 55 = .ok (.return_, 1) := by decide +kernel
def f_X2_join_l26 : am_F := am_th (i_il 3) (am_th (i_ic (6)) (am_br (b_2 (fun x y => decide (y ≤ x))) (am_to 55) (am_th (i_al 0) (am_th (i_gr 2 3) (am_th (i_il 3) (am_th (i_ia 0) (am_th (i_il 1) (am_sq 49 (am_br (b_2 (fun x y => decide (¬ x = y))) (am_to 49) (am_th (i_al 0) (am_th (i_gr 2 3) (am_th (i_il 3) (am_th (i_il 2) (am_th (i_iS) (am_to 49))))))) (am_th (i_inc 3 (1)) (am_to 26))))))))))
def f_X2_join : am_F := am_th (i_al 0) (am_th (i_gr 2 2) (am_th (i_il 2) (am_th (i_dup2) (am_th (i_ia 0) (am_th (i_al 0) (am_th (i_gr 2 2) (am_th (i_il 1) (am_th (i_ia 0) (am_th (i_ic (2)) (am_th (i_2n (fun x y => x / y)) (am_th (i_2 (fun x y => x + y)) (am_th (i_iS) (am_th (i_al 0) (am_th (i_gr 2 2) (am_th (i_il 1) (am_th (i_ic (0)) (am_th (i_iS) (am_th (i_ic (0)) (am_th (i_is 3) (am_sq 55 (am_lp 5000 26 f_X2_join_l26) (r_v)))))))))))))))))))))
def d_X2_join : am_D := am_den 4 f_X2_join
set_option maxHeartbeats 4000000 in
set_option maxRecDepth 100000 in
theorem b_X2_join : am_Body yX2_join cX2_join 4 none 0 0 f_X2_join := by
  intro p l e R s m args below meth c g n0 z0 r0 u0 C hr hn
  have C : am_Cx p l e R s m args below meth c g RX2 cX2_join 4 n0 z0 (am_len u0) (am_wt u0) 0 0 := C
  have l26 : am_Snd (am_GM p l e R s m args below meth c g 4 n0 z0 r0 u0) (am_Rt r0 u0) 26 (f_X2_join_l26) := by
    unfold f_X2_join_l26
    exact (so_th (so_iload_n C dX2_join_26 rfl) (so_th (so_bipush C dX2_join_27 (by decide)) (so_br (so_icmp_ge C dX2_join_29 (by decide)) (so_to) (so_th (so_aload_n C dX2_join_32 rfl) (so_th (so_getr C fl_RX2_15 dX2_join_33) (so_th (so_iload_n C dX2_join_36 rfl) (so_th (so_iald C dX2_join_37) (so_th (so_iload_n C dX2_join_38 rfl) (so_sq (so_br (so_icmp_ne C dX2_join_39 (by decide)) (so_to) (so_th (so_aload_n C dX2_join_42 rfl) (so_th (so_getr C fl_RX2_15 dX2_join_43) (so_th (so_iload_n C dX2_join_46 rfl) (so_th (so_iload_n C dX2_join_47 rfl) (so_th (so_iast C dX2_join_48) (so_to))))))) (so_th (so_iinc C dX2_join_49 (by decide) (by decide)) (so_goto C dX2_join_52 (by decide) (so_to))))))))))))
  unfold f_X2_join
  exact (so_th (so_aload_n C dX2_join_0 rfl) (so_th (so_getr C fl_RX2_9 dX2_join_1) (so_th (so_iload_n C dX2_join_4 rfl) (so_th (so_dup2 C dX2_join_5) (so_th (so_iald C dX2_join_6) (so_th (so_aload_n C dX2_join_7 rfl) (so_th (so_getr C fl_RX2_9 dX2_join_8) (so_th (so_iload_n C dX2_join_11 rfl) (so_th (so_iald C dX2_join_12) (so_th (so_iconst C dX2_join_13 (by decide)) (so_th (so_idiv C dX2_join_14) (so_th (so_iadd C dX2_join_15) (so_th (so_iast C dX2_join_16) (so_th (so_aload_n C dX2_join_17 rfl) (so_th (so_getr C fl_RX2_9 dX2_join_18) (so_th (so_iload_n C dX2_join_21 rfl) (so_th (so_iconst C dX2_join_22 (by decide)) (so_th (so_iast C dX2_join_23) (so_th (so_iconst C dX2_join_24 (by decide)) (so_th (so_istore_n C dX2_join_25 rfl (by decide)) (so_sq (so_lp l26 5000) (so_rv C hr dX2_join_55))))))))))))))))))))))
theorem m_X2_join : am_M yX2_join cX2_join 4 none 0 0 d_X2_join := am_M_of (by decide +kernel) b_X2_join
theorem dX1_findAll_0 : decode cX1_findAll 0 = .ok (.aload_n 0, 1) := by decide +kernel
theorem dX1_findAll_1 : decode cX1_findAll 1 = .ok (.iconst 0, 1) := by decide +kernel
theorem dX1_findAll_2 : decode cX1_findAll 2 = .ok (.putfield 25, 3) := by decide +kernel
theorem dX1_findAll_5 : decode cX1_findAll 5 = .ok (.aload_n 0, 1) := by decide +kernel
theorem dX1_findAll_6 : decode cX1_findAll 6 = .ok (.getfield 12, 3) := by decide +kernel
theorem dX1_findAll_9 : decode cX1_findAll 9 = .ok (.aload_n 1, 1) := by decide +kernel
theorem dX1_findAll_10 : decode cX1_findAll 10 = .ok (.invokevirtual 29, 3) := by decide +kernel
theorem dX1_findAll_13 : decode cX1_findAll 13 = .ok (.aload_n 0, 1) := by decide +kernel
theorem dX1_findAll_14 : decode cX1_findAll 14 = .ok (.getfield 18, 3) := by decide +kernel
theorem dX1_findAll_17 : decode cX1_findAll 17 = .ok (.aload_n 0, 1) := by decide +kernel
theorem dX1_findAll_18 : decode cX1_findAll 18 = .ok (.getfield 12, 3) := by decide +kernel
theorem dX1_findAll_21 : decode cX1_findAll 21 = .ok (.invokevirtual 33, 3) := by decide +kernel
theorem dX1_findAll_24 : decode cX1_findAll 24 = .ok (.aload_n 0, 1) := by decide +kernel
theorem dX1_findAll_25 : decode cX1_findAll 25 = .ok (.aload_n 1, 1) := by decide +kernel
theorem dX1_findAll_26 : decode cX1_findAll 26 = .ok (.bipush (-2), 2) := by decide +kernel
theorem dX1_findAll_28 : decode cX1_findAll 28 = .ok (.invokevirtual 37, 3) := by decide +kernel
theorem dX1_findAll_31 : decode cX1_findAll 31 = .ok (.iconst 0, 1) := by decide +kernel
theorem dX1_findAll_32 : decode cX1_findAll 32 = .ok (.istore_n 2, 1) := by decide +kernel
theorem dX1_findAll_33 : decode cX1_findAll 33 = .ok (.iload_n 2, 1) := by decide +kernel
theorem dX1_findAll_34 : decode cX1_findAll 34 = .ok (.aload_n 1, 1) := by decide +kernel
theorem dX1_findAll_35 : decode cX1_findAll 35 = .ok (.getfield 41, 3) := by decide +kernel
theorem dX1_findAll_38 : decode cX1_findAll 38 = .ok (.if_icmp .ge 69, 3) := by decide +kernel
theorem dX1_findAll_41 : decode cX1_findAll 41 = .ok (.iconst 0, 1) := by decide +kernel
theorem dX1_findAll_42 : decode cX1_findAll 42 = .ok (.istore_n 3, 1) := by decide +kernel
theorem dX1_findAll_43 : decode cX1_findAll 43 = .ok (.iload_n 3, 1) := by decide +kernel
theorem dX1_findAll_44 : decode cX1_findAll 44 = .ok (.aload_n 1, 1) := by decide +kernel
theorem dX1_findAll_45 : decode cX1_findAll 45 = .ok (.getfield 41, 3) := by decide +kernel
theorem dX1_findAll_48 : decode cX1_findAll 48 = .ok (.if_icmp .ge 53, 3) := by decide +kernel
theorem dX1_findAll_51 : decode cX1_findAll 51 = .ok (.aload_n 0, 1) := by decide +kernel
theorem dX1_findAll_52 : decode cX1_findAll 52 = .ok (.getfield 12, 3) := by decide +kernel
theorem dX1_findAll_55 : decode cX1_findAll 55 = .ok (.aload_n 1, 1) := by decide +kernel
theorem dX1_findAll_56 : decode cX1_findAll 56 = .ok (.iload_n 2, 1) := by decide +kernel
theorem dX1_findAll_57 : decode cX1_findAll 57 = .ok (.iload_n 3, 1) := by decide +kernel
theorem dX1_findAll_58 : decode cX1_findAll 58 = .ok (.invokevirtual 46, 3) := by decide +kernel
theorem dX1_findAll_61 : decode cX1_findAll 61 = .ok (.ifCond .le 34, 3) := by decide +kernel
theorem dX1_findAll_64 : decode cX1_findAll 64 = .ok (.aload_n 0, 1) := by decide +kernel
theorem dX1_findAll_65 : decode cX1_findAll 65 = .ok (.getfield 18, 3) := by decide +kernel
theorem dX1_findAll_68 : decode cX1_findAll 68 = .ok (.aload_n 0, 1) := by decide +kernel
theorem dX1_findAll_69 : decode cX1_findAll 69 = .ok (.getfield 12, 3) := by decide +kernel
theorem dX1_findAll_72 : decode cX1_findAll 72 = .ok (.invokevirtual 33, 3) := by decide +kernel
theorem dX1_findAll_75 : decode cX1_findAll 75 = .ok (.aload_n 0, 1) := by decide +kernel
theorem dX1_findAll_76 : decode cX1_findAll 76 = .ok (.getfield 18, 3) := by decide +kernel
theorem dX1_findAll_79 : decode cX1_findAll 79 = .ok (.iload_n 2, 1) := by decide +kernel
theorem dX1_findAll_80 : decode cX1_findAll 80 = .ok (.iload_n 3, 1) := by decide +kernel
theorem dX1_findAll_81 : decode cX1_findAll 81 = .ok (.invokevirtual 50, 3) := by decide +kernel
theorem dX1_findAll_84 : decode cX1_findAll 84 = .ok (.aload_n 0, 1) := by decide +kernel
theorem dX1_findAll_85 : decode cX1_findAll 85 = .ok (.aload_n 1, 1) := by decide +kernel
theorem dX1_findAll_86 : decode cX1_findAll 86 = .ok (.bipush 10, 2) := by decide +kernel
theorem dX1_findAll_88 : decode cX1_findAll 88 = .ok (.iload_n 2, 1) := by decide +kernel
theorem dX1_findAll_89 : decode cX1_findAll 89 = .ok (.imul, 1) := by decide +kernel
theorem dX1_findAll_90 : decode cX1_findAll 90 = .ok (.iload_n 3, 1) := by decide +kernel
theorem dX1_findAll_91 : decode cX1_findAll 91 = .ok (.iadd, 1) := by decide +kernel
theorem dX1_findAll_92 : decode cX1_findAll 92 = .ok (.invokevirtual 37, 3) := by decide +kernel
theorem dX1_findAll_95 : decode cX1_findAll 95 = .ok (.iinc 3 1, 3) := by decide +kernel
theorem dX1_findAll_98 : decode cX1_findAll 98 = .ok (.goto (-55), 3) := by decide +kernel
theorem dX1_findAll_101 : decode cX1_findAll 101 = .ok (.iinc 2 1, 3) := by decide +kernel
theorem dX1_findAll_104 : decode cX1_findAll 104 = .ok (.goto (-71), 3) := by decide +kernel
theorem dX1_findAll_107 : decode cX1_findAll 107 = .ok (.return_, 1) := by decide +kernel
def f_X1_findAll_l43 : am_F := am_th (i_il 3) (am_th (i_al 1) (am_th (i_gi 5 3) (am_br (b_2 (fun x y => decide (y ≤ x))) (am_th (i_inc 2 (1)) (am_to 33)) (am_th (i_al 0) (am_th (i_gr 1 0) (am_th (i_al 1) (am_th (i_il 2) (am_th (i_il 3) (am_th (i_cv 2 3 d_X2_oddsOf) (am_sq 95 (am_br (b_1 (fun x => decide (x ≤ 0))) (am_to 95) (am_th (i_al 0) (am_th (i_gr 1 1) (am_th (i_al 0) (am_th (i_gr 1 0) (am_th (i_cv 2 1 d_X2_become) (am_th (i_al 0) (am_th (i_gr 1 1) (am_th (i_il 2) (am_th (i_il 3) (am_th (i_cv 2 2 d_X2_join) (am_th (i_al 0) (am_th (i_al 1) (am_th (i_ic (10)) (am_th (i_il 2) (am_th (i_2 (fun x y => x * y)) (am_th (i_il 3) (am_th (i_2 (fun x y => x + y)) (am_th (i_cv 1 2 d_X1_keepIfExplained) (am_to 95)))))))))))))))))))) (am_th (i_inc 3 (1)) (am_to 43))))))))))))
def f_X1_findAll_l33 : am_F := am_th (i_il 2) (am_th (i_al 1) (am_th (i_gi 5 3) (am_br (b_2 (fun x y => decide (y ≤ x))) (am_to 107) (am_th (i_ic (0)) (am_th (i_is 3) (am_lp 5000 43 f_X1_findAll_l43))))))
def f_X1_findAll : am_F := am_th (i_al 0) (am_th (i_ic (0)) (am_th (i_pi 1 3) (am_th (i_al 0) (am_th (i_gr 1 0) (am_th (i_al 1) (am_th (i_cv 2 1 d_X2_plant) (am_th (i_al 0) (am_th (i_gr 1 1) (am_th (i_al 0) (am_th (i_gr 1 0) (am_th (i_cv 2 1 d_X2_become) (am_th (i_al 0) (am_th (i_al 1) (am_th (i_ic (-2)) (am_th (i_cv 1 2 d_X1_keepIfExplained) (am_th (i_ic (0)) (am_th (i_is 2) (am_sq 107 (am_lp 5000 33 f_X1_findAll_l33) (r_v)))))))))))))))))))
def d_X1_findAll : am_D := am_den 4 f_X1_findAll
set_option maxHeartbeats 4000000 in
set_option maxRecDepth 100000 in
theorem b_X1_findAll : am_Body yX1_findAll cX1_findAll 4 none 6 133 f_X1_findAll := by
  intro p l e R s m args below meth c g n0 z0 r0 u0 C hr hn
  have C : am_Cx p l e R s m args below meth c g RX1 cX1_findAll 4 n0 z0 (am_len u0) (am_wt u0) 6 133 := C
  have l43 : am_Snd (am_GM p l e R s m args below meth c g 4 n0 z0 r0 u0) (am_Rt r0 u0) 43 (f_X1_findAll_l43) := by
    unfold f_X1_findAll_l43
    exact (so_th (so_iload_n C dX1_findAll_43 rfl) (so_th (so_aload_n C dX1_findAll_44 rfl) (so_th (so_geti C fl_RX1_41 (by decide) dX1_findAll_45) (so_br (so_icmp_ge C dX1_findAll_48 (by decide)) (so_th (so_iinc C dX1_findAll_101 (by decide) (by decide)) (so_goto C dX1_findAll_104 (by decide) (so_to))) (so_th (so_aload_n C dX1_findAll_51 rfl) (so_th (so_getr C fl_RX1_12 dX1_findAll_52) (so_th (so_aload_n C dX1_findAll_55 rfl) (so_th (so_iload_n C dX1_findAll_56 rfl) (so_th (so_iload_n C dX1_findAll_57 rfl) (so_th (so_cv C m_X2_oddsOf rfl k_91 k_93 k_92 k_94 k_40 ⟨by decide, by decide, by decide +kernel⟩ (by decide) dX1_findAll_58) (so_sq (so_br (so_if_le C dX1_findAll_61 (by decide)) (so_to) (so_th (so_aload_n C dX1_findAll_64 rfl) (so_th (so_getr C fl_RX1_18 dX1_findAll_65) (so_th (so_aload_n C dX1_findAll_68 rfl) (so_th (so_getr C fl_RX1_12 dX1_findAll_69) (so_th (so_cv C m_X2_become rfl k_83 k_85 k_84 k_86 k_40 ⟨by decide, by decide, by decide +kernel⟩ (by decide) dX1_findAll_72) (so_th (so_aload_n C dX1_findAll_75 rfl) (so_th (so_getr C fl_RX1_18 dX1_findAll_76) (so_th (so_iload_n C dX1_findAll_79 rfl) (so_th (so_iload_n C dX1_findAll_80 rfl) (so_th (so_cv C m_X2_join rfl k_95 k_97 k_96 k_98 k_40 ⟨by decide, by decide, by decide +kernel⟩ (by decide) dX1_findAll_81) (so_th (so_aload_n C dX1_findAll_84 rfl) (so_th (so_aload_n C dX1_findAll_85 rfl) (so_th (so_bipush C dX1_findAll_86 (by decide)) (so_th (so_iload_n C dX1_findAll_88 rfl) (so_th (so_imul C dX1_findAll_89) (so_th (so_iload_n C dX1_findAll_90 rfl) (so_th (so_iadd C dX1_findAll_91) (so_th (so_cv C m_X1_keepIfExplained rfl k_87 k_89 k_88 k_90 k_59 ⟨by decide, by decide, by decide +kernel⟩ (by decide) dX1_findAll_92) (so_to)))))))))))))))))))) (so_th (so_iinc C dX1_findAll_95 (by decide) (by decide)) (so_goto C dX1_findAll_98 (by decide) (so_to))))))))))))))
  have l33 : am_Snd (am_GM p l e R s m args below meth c g 4 n0 z0 r0 u0) (am_Rt r0 u0) 33 (f_X1_findAll_l33) := by
    unfold f_X1_findAll_l33
    exact (so_th (so_iload_n C dX1_findAll_33 rfl) (so_th (so_aload_n C dX1_findAll_34 rfl) (so_th (so_geti C fl_RX1_41 (by decide) dX1_findAll_35) (so_br (so_icmp_ge C dX1_findAll_38 (by decide)) (so_to) (so_th (so_iconst C dX1_findAll_41 (by decide)) (so_th (so_istore_n C dX1_findAll_42 rfl (by decide)) (so_lp l43 5000)))))))
  unfold f_X1_findAll
  exact (so_th (so_aload_n C dX1_findAll_0 rfl) (so_th (so_iconst C dX1_findAll_1 (by decide)) (so_th (so_puti C fl_RX1_25 fp_1 (Or.inl rfl) dX1_findAll_2) (so_th (so_aload_n C dX1_findAll_5 rfl) (so_th (so_getr C fl_RX1_12 dX1_findAll_6) (so_th (so_aload_n C dX1_findAll_9 rfl) (so_th (so_cv C m_X2_plant rfl k_79 k_81 k_80 k_82 k_40 ⟨by decide, by decide, by decide +kernel⟩ (by decide) dX1_findAll_10) (so_th (so_aload_n C dX1_findAll_13 rfl) (so_th (so_getr C fl_RX1_18 dX1_findAll_14) (so_th (so_aload_n C dX1_findAll_17 rfl) (so_th (so_getr C fl_RX1_12 dX1_findAll_18) (so_th (so_cv C m_X2_become rfl k_83 k_85 k_84 k_86 k_40 ⟨by decide, by decide, by decide +kernel⟩ (by decide) dX1_findAll_21) (so_th (so_aload_n C dX1_findAll_24 rfl) (so_th (so_aload_n C dX1_findAll_25 rfl) (so_th (so_bipush C dX1_findAll_26 (by decide)) (so_th (so_cv C m_X1_keepIfExplained rfl k_87 k_89 k_88 k_90 k_59 ⟨by decide, by decide, by decide +kernel⟩ (by decide) dX1_findAll_28) (so_th (so_iconst C dX1_findAll_31 (by decide)) (so_th (so_istore_n C dX1_findAll_32 rfl (by decide)) (so_sq (so_lp l33 5000) (so_rv C hr dX1_findAll_107))))))))))))))))))))
theorem m_X1_findAll : am_M yX1_findAll cX1_findAll 4 none 6 133 d_X1_findAll := am_M_of (by decide +kernel) b_X1_findAll
theorem dX1_firstThatDoesNotFall_0 : decode cX1_firstThatDoesNotFall 0 = .ok (.iconst 0, 1) := by decide +kernel
theorem dX1_firstThatDoesNotFall_1 : decode cX1_firstThatDoesNotFall 1 = .ok (.istore_n 2, 1) := by decide +kernel
theorem dX1_firstThatDoesNotFall_2 : decode cX1_firstThatDoesNotFall 2 = .ok (.aload_n 0, 1) := by decide +kernel
theorem dX1_firstThatDoesNotFall_3 : decode cX1_firstThatDoesNotFall 3 = .ok (.getfield 18, 3) := by decide +kernel
theorem dX1_firstThatDoesNotFall_6 : decode cX1_firstThatDoesNotFall 6 = .ok (.aload_n 1, 1) := by decide +kernel
theorem dX1_firstThatDoesNotFall_7 : decode cX1_firstThatDoesNotFall 7 = .ok (.invokevirtual 29, 3) := by decide +kernel
theorem dX1_firstThatDoesNotFall_10 : decode cX1_firstThatDoesNotFall 10 = .ok (.iconst 0, 1) := by decide +kernel
theorem dX1_firstThatDoesNotFall_11 : decode cX1_firstThatDoesNotFall 11 = .ok (.istore_n 3, 1) := by decide +kernel
theorem dX1_firstThatDoesNotFall_12 : decode cX1_firstThatDoesNotFall 12 = .ok (.iload_n 3, 1) := by decide +kernel
theorem dX1_firstThatDoesNotFall_13 : decode cX1_firstThatDoesNotFall 13 = .ok (.bipush 24, 2) := by decide +kernel
theorem dX1_firstThatDoesNotFall_15 : decode cX1_firstThatDoesNotFall 15 = .ok (.if_icmp .ge 70, 3) := by decide +kernel
theorem dX1_firstThatDoesNotFall_18 : decode cX1_firstThatDoesNotFall 18 = .ok (.aload_n 0, 1) := by decide +kernel
theorem dX1_firstThatDoesNotFall_19 : decode cX1_firstThatDoesNotFall 19 = .ok (.getfield 18, 3) := by decide +kernel
theorem dX1_firstThatDoesNotFall_22 : decode cX1_firstThatDoesNotFall 22 = .ok (.aload_n 1, 1) := by decide +kernel
theorem dX1_firstThatDoesNotFall_23 : decode cX1_firstThatDoesNotFall 23 = .ok (.invokevirtual 58, 3) := by decide +kernel
theorem dX1_firstThatDoesNotFall_26 : decode cX1_firstThatDoesNotFall 26 = .ok (.istore 4, 2) := by decide +kernel
theorem dX1_firstThatDoesNotFall_28 : decode cX1_firstThatDoesNotFall 28 = .ok (.iconst 0, 1) := by decide +kernel
theorem dX1_firstThatDoesNotFall_29 : decode cX1_firstThatDoesNotFall 29 = .ok (.istore 5, 2) := by decide +kernel
theorem dX1_firstThatDoesNotFall_31 : decode cX1_firstThatDoesNotFall 31 = .ok (.iload 5, 2) := by decide +kernel
theorem dX1_firstThatDoesNotFall_33 : decode cX1_firstThatDoesNotFall 33 = .ok (.aload_n 1, 1) := by decide +kernel
theorem dX1_firstThatDoesNotFall_34 : decode cX1_firstThatDoesNotFall 34 = .ok (.getfield 62, 3) := by decide +kernel
theorem dX1_firstThatDoesNotFall_37 : decode cX1_firstThatDoesNotFall 37 = .ok (.if_icmp .ge 42, 3) := by decide +kernel
theorem dX1_firstThatDoesNotFall_40 : decode cX1_firstThatDoesNotFall 40 = .ok (.aload_n 1, 1) := by decide +kernel
theorem dX1_firstThatDoesNotFall_41 : decode cX1_firstThatDoesNotFall 41 = .ok (.getfield 65, 3) := by decide +kernel
theorem dX1_firstThatDoesNotFall_44 : decode cX1_firstThatDoesNotFall 44 = .ok (.iload 5, 2) := by decide +kernel
theorem dX1_firstThatDoesNotFall_46 : decode cX1_firstThatDoesNotFall 46 = .ok (.iaload, 1) := by decide +kernel
theorem dX1_firstThatDoesNotFall_47 : decode cX1_firstThatDoesNotFall 47 = .ok (.iload_n 3, 1) := by decide +kernel
theorem dX1_firstThatDoesNotFall_48 : decode cX1_firstThatDoesNotFall 48 = .ok (.if_icmp .ne 25, 3) := by decide +kernel
theorem dX1_firstThatDoesNotFall_51 : decode cX1_firstThatDoesNotFall 51 = .ok (.iload 4, 2) := by decide +kernel
theorem dX1_firstThatDoesNotFall_53 : decode cX1_firstThatDoesNotFall 53 = .ok (.aload_n 1, 1) := by decide +kernel
theorem dX1_firstThatDoesNotFall_54 : decode cX1_firstThatDoesNotFall 54 = .ok (.getfield 71, 3) := by decide +kernel
theorem dX1_firstThatDoesNotFall_57 : decode cX1_firstThatDoesNotFall 57 = .ok (.iload 5, 2) := by decide +kernel
theorem dX1_firstThatDoesNotFall_59 : decode cX1_firstThatDoesNotFall 59 = .ok (.iaload, 1) := by decide +kernel
theorem dX1_firstThatDoesNotFall_60 : decode cX1_firstThatDoesNotFall 60 = .ok (.invokestatic 74, 3) := by decide +kernel
theorem dX1_firstThatDoesNotFall_63 : decode cX1_firstThatDoesNotFall 63 = .ok (.ifCond .eq 10, 3) := by decide +kernel
theorem dX1_firstThatDoesNotFall_66 : decode cX1_firstThatDoesNotFall 66 = .ok (.iload_n 2, 1) := by decide +kernel
theorem dX1_firstThatDoesNotFall_67 : decode cX1_firstThatDoesNotFall 67 = .ok (.iconst 1, 1) := by decide +kernel
theorem dX1_firstThatDoesNotFall_68 : decode cX1_firstThatDoesNotFall 68 = .ok (.iload 5, 2) := by decide +kernel
theorem dX1_firstThatDoesNotFall_70 : decode cX1_firstThatDoesNotFall 70 = .ok (.ishl, 1) := by decide +kernel
theorem dX1_firstThatDoesNotFall_71 : decode cX1_firstThatDoesNotFall 71 = .ok (.ior, 1) := by decide +kernel
theorem dX1_firstThatDoesNotFall_72 : decode cX1_firstThatDoesNotFall 72 = .ok (.istore_n 2, 1) := by decide +kernel
theorem dX1_firstThatDoesNotFall_73 : decode cX1_firstThatDoesNotFall 73 = .ok (.iinc 5 1, 3) := by decide +kernel
theorem dX1_firstThatDoesNotFall_76 : decode cX1_firstThatDoesNotFall 76 = .ok (.goto (-45), 3) := by decide +kernel
theorem dX1_firstThatDoesNotFall_79 : decode cX1_firstThatDoesNotFall 79 = .ok (.iinc 3 1, 3) := by decide +kernel
theorem dX1_firstThatDoesNotFall_82 : decode cX1_firstThatDoesNotFall 82 = .ok (.goto (-70), 3) := by decide +kernel
theorem dX1_firstThatDoesNotFall_85 : decode cX1_firstThatDoesNotFall 85 = .ok (.iconst 0, 1) := by decide +kernel
theorem dX1_firstThatDoesNotFall_86 : decode cX1_firstThatDoesNotFall 86 = .ok (.istore_n 3, 1) := by decide +kernel
theorem dX1_firstThatDoesNotFall_87 : decode cX1_firstThatDoesNotFall 87 = .ok (.iload_n 3, 1) := by decide +kernel
theorem dX1_firstThatDoesNotFall_88 : decode cX1_firstThatDoesNotFall 88 = .ok (.aload_n 1, 1) := by decide +kernel
theorem dX1_firstThatDoesNotFall_89 : decode cX1_firstThatDoesNotFall 89 = .ok (.getfield 62, 3) := by decide +kernel
theorem dX1_firstThatDoesNotFall_92 : decode cX1_firstThatDoesNotFall 92 = .ok (.if_icmp .ge 19, 3) := by decide +kernel
theorem dX1_firstThatDoesNotFall_95 : decode cX1_firstThatDoesNotFall 95 = .ok (.iload_n 2, 1) := by decide +kernel
theorem dX1_firstThatDoesNotFall_96 : decode cX1_firstThatDoesNotFall 96 = .ok (.iload_n 3, 1) := by decide +kernel
theorem dX1_firstThatDoesNotFall_97 : decode cX1_firstThatDoesNotFall 97 = .ok (.invokestatic 74, 3) := by decide +kernel
theorem dX1_firstThatDoesNotFall_100 : decode cX1_firstThatDoesNotFall 100 = .ok (.ifCond .ne 5, 3) := by decide +kernel
theorem dX1_firstThatDoesNotFall_103 : decode cX1_firstThatDoesNotFall 103 = .ok (.iload_n 3, 1) := by decide +kernel
theorem dX1_firstThatDoesNotFall_104 : decode cX1_firstThatDoesNotFall 104 = .ok (.ireturn, 1) := by decide +kernel
theorem dX1_firstThatDoesNotFall_105 : decode cX1_firstThatDoesNotFall 105 = .ok (.iinc 3 1, 3) := by decide +kernel
theorem dX1_firstThatDoesNotFall_108 : decode cX1_firstThatDoesNotFall 108 = .ok (.goto (-21), 3) := by decide +kernel
theorem dX1_firstThatDoesNotFall_111 : decode cX1_firstThatDoesNotFall 111 = .ok (.bipush (-2), 2) := by decide +kernel
theorem dX1_firstThatDoesNotFall_113 : decode cX1_firstThatDoesNotFall 113 = .ok (.ireturn, 1) := by decide +kernel
def f_X1_firstThatDoesNotFall_l31 : am_F := am_th (i_il 5) (am_th (i_al 1) (am_th (i_gi 5 6) (am_br (b_2 (fun x y => decide (y ≤ x))) (am_th (i_inc 3 (1)) (am_to 12)) (am_th (i_al 1) (am_th (i_gr 5 16) (am_th (i_il 5) (am_th (i_ia 0) (am_th (i_il 3) (am_sq 73 (am_br (b_2 (fun x y => decide (¬ x = y))) (am_to 73) (am_th (i_il 4) (am_th (i_al 1) (am_th (i_gr 5 15) (am_th (i_il 5) (am_th (i_ia 0) (am_th (i_cs 2 d_X6_has) (am_br (b_1 (fun x => decide (x = 0))) (am_to 73) (am_th (i_il 2) (am_th (i_ic (1)) (am_th (i_il 5) (am_th (i_2 (fun x y => x <<< (y &&& 31))) (am_th (i_2 (fun x y => x ||| y)) (am_th (i_is 2) (am_to 73))))))))))))))) (am_th (i_inc 5 (1)) (am_to 31)))))))))))
def f_X1_firstThatDoesNotFall_l12 : am_F := am_th (i_il 3) (am_th (i_ic (24)) (am_br (b_2 (fun x y => decide (y ≤ x))) (am_to 85) (am_th (i_al 0) (am_th (i_gr 1 1) (am_th (i_al 1) (am_th (i_cv 2 1 d_X2_passByDeeds) (am_th (i_is 4) (am_th (i_ic (0)) (am_th (i_is 5) (am_lp 5000 31 f_X1_firstThatDoesNotFall_l31))))))))))
def f_X1_firstThatDoesNotFall_l87 : am_F := am_th (i_il 3) (am_th (i_al 1) (am_th (i_gi 5 6) (am_br (b_2 (fun x y => decide (y ≤ x))) (am_to 111) (am_th (i_il 2) (am_th (i_il 3) (am_th (i_cs 2 d_X6_has) (am_br (b_1 (fun x => decide (¬ x = 0))) (am_th (i_inc 3 (1)) (am_to 87)) (am_th (i_il 3) (r_i)))))))))
def f_X1_firstThatDoesNotFall : am_F := am_th (i_ic (0)) (am_th (i_is 2) (am_th (i_al 0) (am_th (i_gr 1 1) (am_th (i_al 1) (am_th (i_cv 2 1 d_X2_plant) (am_th (i_ic (0)) (am_th (i_is 3) (am_sq 85 (am_lp 5000 12 f_X1_firstThatDoesNotFall_l12) (am_th (i_ic (0)) (am_th (i_is 3) (am_sq 111 (am_lp 5000 87 f_X1_firstThatDoesNotFall_l87) (am_th (i_ic (-2)) (r_i)))))))))))))
def d_X1_firstThatDoesNotFall : am_D := am_den 6 f_X1_firstThatDoesNotFall
set_option maxHeartbeats 4000000 in
set_option maxRecDepth 100000 in
theorem b_X1_firstThatDoesNotFall : am_Body yX1_firstThatDoesNotFall cX1_firstThatDoesNotFall 6 (some .int) 5 109 f_X1_firstThatDoesNotFall := by
  intro p l e R s m args below meth c g n0 z0 r0 u0 C hr hn
  have C : am_Cx p l e R s m args below meth c g RX1 cX1_firstThatDoesNotFall 6 n0 z0 (am_len u0) (am_wt u0) 5 109 := C
  have l31 : am_Snd (am_GM p l e R s m args below meth c g 6 n0 z0 r0 u0) (am_Rt r0 u0) 31 (f_X1_firstThatDoesNotFall_l31) := by
    unfold f_X1_firstThatDoesNotFall_l31
    exact (so_th (so_iload C dX1_firstThatDoesNotFall_31) (so_th (so_aload_n C dX1_firstThatDoesNotFall_33 rfl) (so_th (so_geti C fl_RX1_62 (by decide) dX1_firstThatDoesNotFall_34) (so_br (so_icmp_ge C dX1_firstThatDoesNotFall_37 (by decide)) (so_th (so_iinc C dX1_firstThatDoesNotFall_79 (by decide) (by decide)) (so_goto C dX1_firstThatDoesNotFall_82 (by decide) (so_to))) (so_th (so_aload_n C dX1_firstThatDoesNotFall_40 rfl) (so_th (so_getr C fl_RX1_65 dX1_firstThatDoesNotFall_41) (so_th (so_iload C dX1_firstThatDoesNotFall_44) (so_th (so_iald C dX1_firstThatDoesNotFall_46) (so_th (so_iload_n C dX1_firstThatDoesNotFall_47 rfl) (so_sq (so_br (so_icmp_ne C dX1_firstThatDoesNotFall_48 (by decide)) (so_to) (so_th (so_iload C dX1_firstThatDoesNotFall_51) (so_th (so_aload_n C dX1_firstThatDoesNotFall_53 rfl) (so_th (so_getr C fl_RX1_71 dX1_firstThatDoesNotFall_54) (so_th (so_iload C dX1_firstThatDoesNotFall_57) (so_th (so_iald C dX1_firstThatDoesNotFall_59) (so_th (so_csN C m_X6_has k_4 (List.mem_of_getElem? (i := 8) rfl) k_6 k_5 ⟨by decide, by decide, by decide +kernel⟩ (by decide) dX1_firstThatDoesNotFall_60) (so_br (so_if_eq C dX1_firstThatDoesNotFall_63 (by decide)) (so_to) (so_th (so_iload_n C dX1_firstThatDoesNotFall_66 rfl) (so_th (so_iconst C dX1_firstThatDoesNotFall_67 (by decide)) (so_th (so_iload C dX1_firstThatDoesNotFall_68) (so_th (so_ishl C dX1_firstThatDoesNotFall_70) (so_th (so_ior C dX1_firstThatDoesNotFall_71) (so_th (so_istore_n C dX1_firstThatDoesNotFall_72 rfl (by decide)) (so_to))))))))))))))) (so_th (so_iinc C dX1_firstThatDoesNotFall_73 (by decide) (by decide)) (so_goto C dX1_firstThatDoesNotFall_76 (by decide) (so_to)))))))))))))
  have l12 : am_Snd (am_GM p l e R s m args below meth c g 6 n0 z0 r0 u0) (am_Rt r0 u0) 12 (f_X1_firstThatDoesNotFall_l12) := by
    unfold f_X1_firstThatDoesNotFall_l12
    exact (so_th (so_iload_n C dX1_firstThatDoesNotFall_12 rfl) (so_th (so_bipush C dX1_firstThatDoesNotFall_13 (by decide)) (so_br (so_icmp_ge C dX1_firstThatDoesNotFall_15 (by decide)) (so_to) (so_th (so_aload_n C dX1_firstThatDoesNotFall_18 rfl) (so_th (so_getr C fl_RX1_18 dX1_firstThatDoesNotFall_19) (so_th (so_aload_n C dX1_firstThatDoesNotFall_22 rfl) (so_th (so_cv C m_X2_passByDeeds rfl k_63 k_65 k_64 k_66 k_40 ⟨by decide, by decide, by decide +kernel⟩ (by decide) dX1_firstThatDoesNotFall_23) (so_th (so_istore C dX1_firstThatDoesNotFall_26 (by decide)) (so_th (so_iconst C dX1_firstThatDoesNotFall_28 (by decide)) (so_th (so_istore C dX1_firstThatDoesNotFall_29 (by decide)) (so_lp l31 5000)))))))))))
  have l87 : am_Snd (am_GM p l e R s m args below meth c g 6 n0 z0 r0 u0) (am_Rt r0 u0) 87 (f_X1_firstThatDoesNotFall_l87) := by
    unfold f_X1_firstThatDoesNotFall_l87
    exact (so_th (so_iload_n C dX1_firstThatDoesNotFall_87 rfl) (so_th (so_aload_n C dX1_firstThatDoesNotFall_88 rfl) (so_th (so_geti C fl_RX1_62 (by decide) dX1_firstThatDoesNotFall_89) (so_br (so_icmp_ge C dX1_firstThatDoesNotFall_92 (by decide)) (so_to) (so_th (so_iload_n C dX1_firstThatDoesNotFall_95 rfl) (so_th (so_iload_n C dX1_firstThatDoesNotFall_96 rfl) (so_th (so_csN C m_X6_has k_4 (List.mem_of_getElem? (i := 8) rfl) k_6 k_5 ⟨by decide, by decide, by decide +kernel⟩ (by decide) dX1_firstThatDoesNotFall_97) (so_br (so_if_ne C dX1_firstThatDoesNotFall_100 (by decide)) (so_th (so_iinc C dX1_firstThatDoesNotFall_105 (by decide) (by decide)) (so_goto C dX1_firstThatDoesNotFall_108 (by decide) (so_to))) (so_th (so_iload_n C dX1_firstThatDoesNotFall_103 rfl) (so_ri C hr dX1_firstThatDoesNotFall_104))))))))))
  unfold f_X1_firstThatDoesNotFall
  exact (so_th (so_iconst C dX1_firstThatDoesNotFall_0 (by decide)) (so_th (so_istore_n C dX1_firstThatDoesNotFall_1 rfl (by decide)) (so_th (so_aload_n C dX1_firstThatDoesNotFall_2 rfl) (so_th (so_getr C fl_RX1_18 dX1_firstThatDoesNotFall_3) (so_th (so_aload_n C dX1_firstThatDoesNotFall_6 rfl) (so_th (so_cv C m_X2_plant rfl k_79 k_81 k_80 k_82 k_40 ⟨by decide, by decide, by decide +kernel⟩ (by decide) dX1_firstThatDoesNotFall_7) (so_th (so_iconst C dX1_firstThatDoesNotFall_10 (by decide)) (so_th (so_istore_n C dX1_firstThatDoesNotFall_11 rfl (by decide)) (so_sq (so_lp l12 5000) (so_th (so_iconst C dX1_firstThatDoesNotFall_85 (by decide)) (so_th (so_istore_n C dX1_firstThatDoesNotFall_86 rfl (by decide)) (so_sq (so_lp l87 5000) (so_th (so_bipush C dX1_firstThatDoesNotFall_111 (by decide)) (so_ri C hr dX1_firstThatDoesNotFall_113))))))))))))))
theorem m_X1_firstThatDoesNotFall : am_M yX1_firstThatDoesNotFall cX1_firstThatDoesNotFall 6 (some .int) 5 109 d_X1_firstThatDoesNotFall := am_M_of (by decide +kernel) b_X1_firstThatDoesNotFall
theorem dX2_vigourOf_0 : decode cX2_vigourOf 0 = .ok (.aload_n 0, 1) := by decide +kernel
theorem dX2_vigourOf_1 : decode cX2_vigourOf 1 = .ok (.iload_n 1, 1) := by decide +kernel
theorem dX2_vigourOf_2 : decode cX2_vigourOf 2 = .ok (.invokevirtual 37, 3) := by decide +kernel
theorem dX2_vigourOf_5 : decode cX2_vigourOf 5 = .ok (.ifCond .eq 12, 3) := by decide +kernel
theorem dX2_vigourOf_8 : decode cX2_vigourOf 8 = .ok (.aload_n 0, 1) := by decide +kernel
theorem dX2_vigourOf_9 : decode cX2_vigourOf 9 = .ok (.getfield 9, 3) := by decide +kernel
theorem dX2_vigourOf_12 : decode cX2_vigourOf 12 = .ok (.iload_n 1, 1) := by decide +kernel
theorem dX2_vigourOf_13 : decode cX2_vigourOf 13 = .ok (.iaload, 1) := by decide +kernel
theorem dX2_vigourOf_14 : decode cX2_vigourOf 14 = .ok (.goto 4, 3) := by decide +kernel
theorem dX2_vigourOf_17 : decode cX2_vigourOf 17 = .ok (.iconst 0, 1) := by decide +kernel
theorem dX2_vigourOf_18 : decode cX2_vigourOf 18 = .ok (.ireturn, 1) := by decide +kernel
def f_X2_vigourOf : am_F := am_th (i_al 0) (am_th (i_il 1) (am_th (i_cv 2 1 d_X2_stands) (am_br (b_1 (fun x => decide (x = 0))) (am_th (i_ic (0)) (r_i)) (am_th (i_al 0) (am_th (i_gr 2 2) (am_th (i_il 1) (am_th (i_ia 0) (r_i))))))))
def d_X2_vigourOf : am_D := am_den 2 f_X2_vigourOf
set_option maxHeartbeats 4000000 in
set_option maxRecDepth 100000 in
theorem b_X2_vigourOf : am_Body yX2_vigourOf cX2_vigourOf 2 (some .int) 1 21 f_X2_vigourOf := by
  intro p l e R s m args below meth c g n0 z0 r0 u0 C hr hn
  have C : am_Cx p l e R s m args below meth c g RX2 cX2_vigourOf 2 n0 z0 (am_len u0) (am_wt u0) 1 21 := C
  unfold f_X2_vigourOf
  exact (so_th (so_aload_n C dX2_vigourOf_0 rfl) (so_th (so_iload_n C dX2_vigourOf_1 rfl) (so_th (so_cv C m_X2_stands rfl k_43 k_45 k_44 k_46 k_40 ⟨by decide, by decide, by decide +kernel⟩ (by decide) dX2_vigourOf_2) (so_br (so_if_eq C dX2_vigourOf_5 (by decide)) (so_th (so_iconst C dX2_vigourOf_17 (by decide)) (so_ri C hr dX2_vigourOf_18)) (so_th (so_aload_n C dX2_vigourOf_8 rfl) (so_th (so_getr C fl_RX2_9 dX2_vigourOf_9) (so_th (so_iload_n C dX2_vigourOf_12 rfl) (so_th (so_iald C dX2_vigourOf_13) (so_goto C dX2_vigourOf_14 (by decide) (so_ri C hr dX2_vigourOf_18))))))))))
theorem m_X2_vigourOf : am_M yX2_vigourOf cX2_vigourOf 2 (some .int) 1 21 d_X2_vigourOf := am_M_of (by decide +kernel) b_X2_vigourOf
theorem dX2_passByDraw_0 : decode cX2_passByDraw 0 = .ok (.aload_n 0, 1) := by decide +kernel
theorem dX2_passByDraw_1 : decode cX2_passByDraw 1 = .ok (.getfield 9, 3) := by decide +kernel
theorem dX2_passByDraw_4 : decode cX2_passByDraw 4 = .ok (.aload_n 0, 1) := by decide +kernel
theorem dX2_passByDraw_5 : decode cX2_passByDraw 5 = .ok (.getfield 15, 3) := by decide +kernel
theorem dX2_passByDraw_8 : decode cX2_passByDraw 8 = .ok (.iload_n 2, 1) := by decide +kernel
theorem dX2_passByDraw_9 : decode cX2_passByDraw 9 = .ok (.iaload, 1) := by decide +kernel
theorem dX2_passByDraw_10 : decode cX2_passByDraw 10 = .ok (.dup2, 1) := by decide +kernel
theorem dX2_passByDraw_11 : decode cX2_passByDraw 11 = .ok (.iaload, 1) := by decide +kernel
theorem dX2_passByDraw_12 : decode cX2_passByDraw 12 = .ok (.iload_n 3, 1) := by decide +kernel
theorem dX2_passByDraw_13 : decode cX2_passByDraw 13 = .ok (.iadd, 1) := by decide +kernel
theorem dX2_passByDraw_14 : decode cX2_passByDraw 14 = .ok (.iastore, 1) := by decide +kernel
theorem dX2_passByDraw_15 : decode cX2_passByDraw 15 = .ok (.aload_n 0, 1) := by decide +kernel
theorem dX2_passByDraw_16 : decode cX2_passByDraw 16 = .ok (.aload_n 1, 1) := by decide +kernel
theorem dX2_passByDraw_17 : decode cX2_passByDraw 17 = .ok (.invokevirtual 64, 3) := by decide +kernel
theorem dX2_passByDraw_20 : decode cX2_passByDraw 20 = .ok (.ireturn, 1) := by decide +kernel
def f_X2_passByDraw : am_F := am_th (i_al 0) (am_th (i_gr 2 2) (am_th (i_al 0) (am_th (i_gr 2 3) (am_th (i_il 2) (am_th (i_ia 0) (am_th (i_dup2) (am_th (i_ia 0) (am_th (i_il 3) (am_th (i_2 (fun x y => x + y)) (am_th (i_iS) (am_th (i_al 0) (am_th (i_al 1) (am_th (i_cv 2 1 d_X2_ripen) (r_i))))))))))))))
def d_X2_passByDraw : am_D := am_den 4 f_X2_passByDraw
set_option maxHeartbeats 4000000 in
set_option maxRecDepth 100000 in
theorem b_X2_passByDraw : am_Body yX2_passByDraw cX2_passByDraw 4 (some .int) 4 87 f_X2_passByDraw := by
  intro p l e R s m args below meth c g n0 z0 r0 u0 C hr hn
  have C : am_Cx p l e R s m args below meth c g RX2 cX2_passByDraw 4 n0 z0 (am_len u0) (am_wt u0) 4 87 := C
  unfold f_X2_passByDraw
  exact (so_th (so_aload_n C dX2_passByDraw_0 rfl) (so_th (so_getr C fl_RX2_9 dX2_passByDraw_1) (so_th (so_aload_n C dX2_passByDraw_4 rfl) (so_th (so_getr C fl_RX2_15 dX2_passByDraw_5) (so_th (so_iload_n C dX2_passByDraw_8 rfl) (so_th (so_iald C dX2_passByDraw_9) (so_th (so_dup2 C dX2_passByDraw_10) (so_th (so_iald C dX2_passByDraw_11) (so_th (so_iload_n C dX2_passByDraw_12 rfl) (so_th (so_iadd C dX2_passByDraw_13) (so_th (so_iast C dX2_passByDraw_14) (so_th (so_aload_n C dX2_passByDraw_15 rfl) (so_th (so_aload_n C dX2_passByDraw_16 rfl) (so_th (so_cv C m_X2_ripen rfl k_54 k_56 k_55 k_57 k_40 ⟨by decide, by decide, by decide +kernel⟩ (by decide) dX2_passByDraw_17) (so_ri C hr dX2_passByDraw_20)))))))))))))))
theorem m_X2_passByDraw : am_M yX2_passByDraw cX2_passByDraw 4 (some .int) 4 87 d_X2_passByDraw := am_M_of (by decide +kernel) b_X2_passByDraw
theorem dX2_suckersOfAll_0 : decode cX2_suckersOfAll 0 = .ok (.iconst 0, 1) := by decide +kernel
theorem dX2_suckersOfAll_1 : decode cX2_suckersOfAll 1 = .ok (.istore_n 1, 1) := by decide +kernel
theorem dX2_suckersOfAll_2 : decode cX2_suckersOfAll 2 = .ok (.iconst 0, 1) := by decide +kernel
theorem dX2_suckersOfAll_3 : decode cX2_suckersOfAll 3 = .ok (.istore_n 2, 1) := by decide +kernel
theorem dX2_suckersOfAll_4 : decode cX2_suckersOfAll 4 = .ok (.iload_n 2, 1) := by decide +kernel
theorem dX2_suckersOfAll_5 : decode cX2_suckersOfAll 5 = .ok (.bipush 6, 2) := by decide +kernel
theorem dX2_suckersOfAll_7 : decode cX2_suckersOfAll 7 = .ok (.if_icmp .ge 18, 3) := by decide +kernel
theorem dX2_suckersOfAll_10 : decode cX2_suckersOfAll 10 = .ok (.iload_n 1, 1) := by decide +kernel
theorem dX2_suckersOfAll_11 : decode cX2_suckersOfAll 11 = .ok (.aload_n 0, 1) := by decide +kernel
theorem dX2_suckersOfAll_12 : decode cX2_suckersOfAll 12 = .ok (.getfield 21, 3) := by decide +kernel
theorem dX2_suckersOfAll_15 : decode cX2_suckersOfAll 15 = .ok (.iload_n 2, 1) := by decide +kernel
theorem dX2_suckersOfAll_16 : decode cX2_suckersOfAll 16 = .ok (.iaload, 1) := by decide +kernel
theorem dX2_suckersOfAll_17 : decode cX2_suckersOfAll 17 = .ok (.iadd, 1) := by decide +kernel
theorem dX2_suckersOfAll_18 : decode cX2_suckersOfAll 18 = .ok (.istore_n 1, 1) := by decide +kernel
theorem dX2_suckersOfAll_19 : decode cX2_suckersOfAll 19 = .ok (.iinc 2 1, 3) := by decide +kernel
theorem dX2_suckersOfAll_22 : decode cX2_suckersOfAll 22 = .ok (.goto (-18), 3) := by decide +kernel
theorem dX2_suckersOfAll_25 : decode cX2_suckersOfAll 25 = .ok (.iload_n 1, 1) := by decide +kernel
theorem dX2_suckersOfAll_26 : decode cX2_suckersOfAll 26 = .ok (.ireturn, 1) := by decide +kernel
def f_X2_suckersOfAll_l4 : am_F := am_th (i_il 2) (am_th (i_ic (6)) (am_br (b_2 (fun x y => decide (y ≤ x))) (am_to 25) (am_th (i_il 1) (am_th (i_al 0) (am_th (i_gr 2 5) (am_th (i_il 2) (am_th (i_ia 0) (am_th (i_2 (fun x y => x + y)) (am_th (i_is 1) (am_th (i_inc 2 (1)) (am_to 4)))))))))))
def f_X2_suckersOfAll : am_F := am_th (i_ic (0)) (am_th (i_is 1) (am_th (i_ic (0)) (am_th (i_is 2) (am_sq 25 (am_lp 5000 4 f_X2_suckersOfAll_l4) (am_th (i_il 1) (r_i))))))
def d_X2_suckersOfAll : am_D := am_den 3 f_X2_suckersOfAll
set_option maxHeartbeats 4000000 in
set_option maxRecDepth 100000 in
theorem b_X2_suckersOfAll : am_Body yX2_suckersOfAll cX2_suckersOfAll 3 (some .int) 0 0 f_X2_suckersOfAll := by
  intro p l e R s m args below meth c g n0 z0 r0 u0 C hr hn
  have C : am_Cx p l e R s m args below meth c g RX2 cX2_suckersOfAll 3 n0 z0 (am_len u0) (am_wt u0) 0 0 := C
  have l4 : am_Snd (am_GM p l e R s m args below meth c g 3 n0 z0 r0 u0) (am_Rt r0 u0) 4 (f_X2_suckersOfAll_l4) := by
    unfold f_X2_suckersOfAll_l4
    exact (so_th (so_iload_n C dX2_suckersOfAll_4 rfl) (so_th (so_bipush C dX2_suckersOfAll_5 (by decide)) (so_br (so_icmp_ge C dX2_suckersOfAll_7 (by decide)) (so_to) (so_th (so_iload_n C dX2_suckersOfAll_10 rfl) (so_th (so_aload_n C dX2_suckersOfAll_11 rfl) (so_th (so_getr C fl_RX2_21 dX2_suckersOfAll_12) (so_th (so_iload_n C dX2_suckersOfAll_15 rfl) (so_th (so_iald C dX2_suckersOfAll_16) (so_th (so_iadd C dX2_suckersOfAll_17) (so_th (so_istore_n C dX2_suckersOfAll_18 rfl (by decide)) (so_th (so_iinc C dX2_suckersOfAll_19 (by decide) (by decide)) (so_goto C dX2_suckersOfAll_22 (by decide) (so_to)))))))))))))
  unfold f_X2_suckersOfAll
  exact (so_th (so_iconst C dX2_suckersOfAll_0 (by decide)) (so_th (so_istore_n C dX2_suckersOfAll_1 rfl (by decide)) (so_th (so_iconst C dX2_suckersOfAll_2 (by decide)) (so_th (so_istore_n C dX2_suckersOfAll_3 rfl (by decide)) (so_sq (so_lp l4 5000) (so_th (so_iload_n C dX2_suckersOfAll_25 rfl) (so_ri C hr dX2_suckersOfAll_26)))))))
theorem m_X2_suckersOfAll : am_M yX2_suckersOfAll cX2_suckersOfAll 3 (some .int) 0 0 d_X2_suckersOfAll := am_M_of (by decide +kernel) b_X2_suckersOfAll
theorem dX2_standing_0 : decode cX2_standing 0 = .ok (.iconst 0, 1) := by decide +kernel
theorem dX2_standing_1 : decode cX2_standing 1 = .ok (.istore_n 2, 1) := by decide +kernel
theorem dX2_standing_2 : decode cX2_standing 2 = .ok (.iconst 0, 1) := by decide +kernel
theorem dX2_standing_3 : decode cX2_standing 3 = .ok (.istore_n 3, 1) := by decide +kernel
theorem dX2_standing_4 : decode cX2_standing 4 = .ok (.iload_n 3, 1) := by decide +kernel
theorem dX2_standing_5 : decode cX2_standing 5 = .ok (.aload_n 1, 1) := by decide +kernel
theorem dX2_standing_6 : decode cX2_standing 6 = .ok (.getfield 31, 3) := by decide +kernel
theorem dX2_standing_9 : decode cX2_standing 9 = .ok (.if_icmp .ge 20, 3) := by decide +kernel
theorem dX2_standing_12 : decode cX2_standing 12 = .ok (.aload_n 0, 1) := by decide +kernel
theorem dX2_standing_13 : decode cX2_standing 13 = .ok (.iload_n 3, 1) := by decide +kernel
theorem dX2_standing_14 : decode cX2_standing 14 = .ok (.invokevirtual 37, 3) := by decide +kernel
theorem dX2_standing_17 : decode cX2_standing 17 = .ok (.ifCond .eq 6, 3) := by decide +kernel
theorem dX2_standing_20 : decode cX2_standing 20 = .ok (.iinc 2 1, 3) := by decide +kernel
theorem dX2_standing_23 : decode cX2_standing 23 = .ok (.iinc 3 1, 3) := by decide +kernel
theorem dX2_standing_26 : decode cX2_standing 26 = .ok (.goto (-22), 3) := by decide +kernel
theorem dX2_standing_29 : decode cX2_standing 29 = .ok (.iload_n 2, 1) := by decide +kernel
theorem dX2_standing_30 : decode cX2_standing 30 = .ok (.ireturn, 1) := by decide +kernel
def f_X2_standing_l4 : am_F := am_th (i_il 3) (am_th (i_al 1) (am_th (i_gi 5 3) (am_br (b_2 (fun x y => decide (y ≤ x))) (am_to 29) (am_th (i_al 0) (am_th (i_il 3) (am_th (i_cv 2 1 d_X2_stands) (am_sq 23 (am_br (b_1 (fun x => decide (x = 0))) (am_to 23) (am_th (i_inc 2 (1)) (am_to 23))) (am_th (i_inc 3 (1)) (am_to 4)))))))))
def f_X2_standing : am_F := am_th (i_ic (0)) (am_th (i_is 2) (am_th (i_ic (0)) (am_th (i_is 3) (am_sq 29 (am_lp 5000 4 f_X2_standing_l4) (am_th (i_il 2) (r_i))))))
def d_X2_standing : am_D := am_den 4 f_X2_standing
set_option maxHeartbeats 4000000 in
set_option maxRecDepth 100000 in
theorem b_X2_standing : am_Body yX2_standing cX2_standing 4 (some .int) 1 21 f_X2_standing := by
  intro p l e R s m args below meth c g n0 z0 r0 u0 C hr hn
  have C : am_Cx p l e R s m args below meth c g RX2 cX2_standing 4 n0 z0 (am_len u0) (am_wt u0) 1 21 := C
  have l4 : am_Snd (am_GM p l e R s m args below meth c g 4 n0 z0 r0 u0) (am_Rt r0 u0) 4 (f_X2_standing_l4) := by
    unfold f_X2_standing_l4
    exact (so_th (so_iload_n C dX2_standing_4 rfl) (so_th (so_aload_n C dX2_standing_5 rfl) (so_th (so_geti C fl_RX2_31 (by decide) dX2_standing_6) (so_br (so_icmp_ge C dX2_standing_9 (by decide)) (so_to) (so_th (so_aload_n C dX2_standing_12 rfl) (so_th (so_iload_n C dX2_standing_13 rfl) (so_th (so_cv C m_X2_stands rfl k_43 k_45 k_44 k_46 k_40 ⟨by decide, by decide, by decide +kernel⟩ (by decide) dX2_standing_14) (so_sq (so_br (so_if_eq C dX2_standing_17 (by decide)) (so_to) (so_th (so_iinc C dX2_standing_20 (by decide) (by decide)) (so_to))) (so_th (so_iinc C dX2_standing_23 (by decide) (by decide)) (so_goto C dX2_standing_26 (by decide) (so_to)))))))))))
  unfold f_X2_standing
  exact (so_th (so_iconst C dX2_standing_0 (by decide)) (so_th (so_istore_n C dX2_standing_1 rfl (by decide)) (so_th (so_iconst C dX2_standing_2 (by decide)) (so_th (so_istore_n C dX2_standing_3 rfl (by decide)) (so_sq (so_lp l4 5000) (so_th (so_iload_n C dX2_standing_29 rfl) (so_ri C hr dX2_standing_30)))))))
theorem m_X2_standing : am_M yX2_standing cX2_standing 4 (some .int) 1 21 d_X2_standing := am_M_of (by decide +kernel) b_X2_standing
theorem dX2_familiesAtPeace_0 : decode cX2_familiesAtPeace 0 = .ok (.iconst 0, 1) := by decide +kernel
theorem dX2_familiesAtPeace_1 : decode cX2_familiesAtPeace 1 = .ok (.istore_n 2, 1) := by decide +kernel
theorem dX2_familiesAtPeace_2 : decode cX2_familiesAtPeace 2 = .ok (.iconst 0, 1) := by decide +kernel
theorem dX2_familiesAtPeace_3 : decode cX2_familiesAtPeace 3 = .ok (.istore_n 3, 1) := by decide +kernel
theorem dX2_familiesAtPeace_4 : decode cX2_familiesAtPeace 4 = .ok (.iload_n 3, 1) := by decide +kernel
theorem dX2_familiesAtPeace_5 : decode cX2_familiesAtPeace 5 = .ok (.aload_n 1, 1) := by decide +kernel
theorem dX2_familiesAtPeace_6 : decode cX2_familiesAtPeace 6 = .ok (.getfield 31, 3) := by decide +kernel
theorem dX2_familiesAtPeace_9 : decode cX2_familiesAtPeace 9 = .ok (.if_icmp .ge 32, 3) := by decide +kernel
theorem dX2_familiesAtPeace_12 : decode cX2_familiesAtPeace 12 = .ok (.aload_n 0, 1) := by decide +kernel
theorem dX2_familiesAtPeace_13 : decode cX2_familiesAtPeace 13 = .ok (.getfield 9, 3) := by decide +kernel
theorem dX2_familiesAtPeace_16 : decode cX2_familiesAtPeace 16 = .ok (.aload_n 0, 1) := by decide +kernel
theorem dX2_familiesAtPeace_17 : decode cX2_familiesAtPeace 17 = .ok (.getfield 15, 3) := by decide +kernel
theorem dX2_familiesAtPeace_20 : decode cX2_familiesAtPeace 20 = .ok (.iload_n 3, 1) := by decide +kernel
theorem dX2_familiesAtPeace_21 : decode cX2_familiesAtPeace 21 = .ok (.iaload, 1) := by decide +kernel
theorem dX2_familiesAtPeace_22 : decode cX2_familiesAtPeace 22 = .ok (.iaload, 1) := by decide +kernel
theorem dX2_familiesAtPeace_23 : decode cX2_familiesAtPeace 23 = .ok (.ifCond .le 12, 3) := by decide +kernel
theorem dX2_familiesAtPeace_26 : decode cX2_familiesAtPeace 26 = .ok (.iload_n 2, 1) := by decide +kernel
theorem dX2_familiesAtPeace_27 : decode cX2_familiesAtPeace 27 = .ok (.aload_n 1, 1) := by decide +kernel
theorem dX2_familiesAtPeace_28 : decode cX2_familiesAtPeace 28 = .ok (.getfield 41, 3) := by decide +kernel
theorem dX2_familiesAtPeace_31 : decode cX2_familiesAtPeace 31 = .ok (.iload_n 3, 1) := by decide +kernel
theorem dX2_familiesAtPeace_32 : decode cX2_familiesAtPeace 32 = .ok (.iaload, 1) := by decide +kernel
theorem dX2_familiesAtPeace_33 : decode cX2_familiesAtPeace 33 = .ok (.ior, 1) := by decide +kernel
theorem dX2_familiesAtPeace_34 : decode cX2_familiesAtPeace 34 = .ok (.istore_n 2, 1) := by decide +kernel
theorem dX2_familiesAtPeace_35 : decode cX2_familiesAtPeace 35 = .ok (.iinc 3 1, 3) := by decide +kernel
theorem dX2_familiesAtPeace_38 : decode cX2_familiesAtPeace 38 = .ok (.goto (-34), 3) := by decide +kernel
theorem dX2_familiesAtPeace_41 : decode cX2_familiesAtPeace 41 = .ok (.iconst 1, 1) := by decide +kernel
theorem dX2_familiesAtPeace_42 : decode cX2_familiesAtPeace 42 = .ok (.aload_n 1, 1) := by decide +kernel
theorem dX2_familiesAtPeace_43 : decode cX2_familiesAtPeace 43 = .ok (.getfield 83, 3) := by decide +kernel
theorem dX2_familiesAtPeace_46 : decode cX2_familiesAtPeace 46 = .ok (.ishl, 1) := by decide +kernel
theorem dX2_familiesAtPeace_47 : decode cX2_familiesAtPeace 47 = .ok (.iconst 1, 1) := by decide +kernel
theorem dX2_familiesAtPeace_48 : decode cX2_familiesAtPeace 48 = .ok (.isub, 1) := by decide +kernel
theorem dX2_familiesAtPeace_49 : decode cX2_familiesAtPeace 49 = .ok (.iload_n 2, 1) := by decide +kernel
theorem dX2_familiesAtPeace_50 : decode cX2_familiesAtPeace 50 = .ok (.iconst (-1), 1) := by decide +kernel
theorem dX2_familiesAtPeace_51 : decode cX2_familiesAtPeace 51 = .ok (.ixor, 1) := by decide +kernel
theorem dX2_familiesAtPeace_52 : decode cX2_familiesAtPeace 52 = .ok (.iand, 1) := by decide +kernel
theorem dX2_familiesAtPeace_53 : decode cX2_familiesAtPeace 53 = .ok (.ireturn, 1) := by decide +kernel
def f_X2_familiesAtPeace_l4 : am_F := am_th (i_il 3) (am_th (i_al 1) (am_th (i_gi 5 3) (am_br (b_2 (fun x y => decide (y ≤ x))) (am_to 41) (am_th (i_al 0) (am_th (i_gr 2 2) (am_th (i_al 0) (am_th (i_gr 2 3) (am_th (i_il 3) (am_th (i_ia 0) (am_th (i_ia 0) (am_sq 35 (am_br (b_1 (fun x => decide (x ≤ 0))) (am_to 35) (am_th (i_il 2) (am_th (i_al 1) (am_th (i_gr 5 11) (am_th (i_il 3) (am_th (i_ia 0) (am_th (i_2 (fun x y => x ||| y)) (am_th (i_is 2) (am_to 35))))))))) (am_th (i_inc 3 (1)) (am_to 4)))))))))))))
def f_X2_familiesAtPeace : am_F := am_th (i_ic (0)) (am_th (i_is 2) (am_th (i_ic (0)) (am_th (i_is 3) (am_sq 41 (am_lp 5000 4 f_X2_familiesAtPeace_l4) (am_th (i_ic (1)) (am_th (i_al 1) (am_th (i_gi 5 2) (am_th (i_2 (fun x y => x <<< (y &&& 31))) (am_th (i_ic (1)) (am_th (i_2 (fun x y => x - y)) (am_th (i_il 2) (am_th (i_ic (-1)) (am_th (i_2 (fun x y => x ^^^ y)) (am_th (i_2 (fun x y => x &&& y)) (r_i)))))))))))))))
def d_X2_familiesAtPeace : am_D := am_den 4 f_X2_familiesAtPeace
set_option maxHeartbeats 4000000 in
set_option maxRecDepth 100000 in
theorem b_X2_familiesAtPeace : am_Body yX2_familiesAtPeace cX2_familiesAtPeace 4 (some .int) 0 0 f_X2_familiesAtPeace := by
  intro p l e R s m args below meth c g n0 z0 r0 u0 C hr hn
  have C : am_Cx p l e R s m args below meth c g RX2 cX2_familiesAtPeace 4 n0 z0 (am_len u0) (am_wt u0) 0 0 := C
  have l4 : am_Snd (am_GM p l e R s m args below meth c g 4 n0 z0 r0 u0) (am_Rt r0 u0) 4 (f_X2_familiesAtPeace_l4) := by
    unfold f_X2_familiesAtPeace_l4
    exact (so_th (so_iload_n C dX2_familiesAtPeace_4 rfl) (so_th (so_aload_n C dX2_familiesAtPeace_5 rfl) (so_th (so_geti C fl_RX2_31 (by decide) dX2_familiesAtPeace_6) (so_br (so_icmp_ge C dX2_familiesAtPeace_9 (by decide)) (so_to) (so_th (so_aload_n C dX2_familiesAtPeace_12 rfl) (so_th (so_getr C fl_RX2_9 dX2_familiesAtPeace_13) (so_th (so_aload_n C dX2_familiesAtPeace_16 rfl) (so_th (so_getr C fl_RX2_15 dX2_familiesAtPeace_17) (so_th (so_iload_n C dX2_familiesAtPeace_20 rfl) (so_th (so_iald C dX2_familiesAtPeace_21) (so_th (so_iald C dX2_familiesAtPeace_22) (so_sq (so_br (so_if_le C dX2_familiesAtPeace_23 (by decide)) (so_to) (so_th (so_iload_n C dX2_familiesAtPeace_26 rfl) (so_th (so_aload_n C dX2_familiesAtPeace_27 rfl) (so_th (so_getr C fl_RX2_41 dX2_familiesAtPeace_28) (so_th (so_iload_n C dX2_familiesAtPeace_31 rfl) (so_th (so_iald C dX2_familiesAtPeace_32) (so_th (so_ior C dX2_familiesAtPeace_33) (so_th (so_istore_n C dX2_familiesAtPeace_34 rfl (by decide)) (so_to))))))))) (so_th (so_iinc C dX2_familiesAtPeace_35 (by decide) (by decide)) (so_goto C dX2_familiesAtPeace_38 (by decide) (so_to)))))))))))))))
  unfold f_X2_familiesAtPeace
  exact (so_th (so_iconst C dX2_familiesAtPeace_0 (by decide)) (so_th (so_istore_n C dX2_familiesAtPeace_1 rfl (by decide)) (so_th (so_iconst C dX2_familiesAtPeace_2 (by decide)) (so_th (so_istore_n C dX2_familiesAtPeace_3 rfl (by decide)) (so_sq (so_lp l4 5000) (so_th (so_iconst C dX2_familiesAtPeace_41 (by decide)) (so_th (so_aload_n C dX2_familiesAtPeace_42 rfl) (so_th (so_geti C fl_RX2_83 (by decide) dX2_familiesAtPeace_43) (so_th (so_ishl C dX2_familiesAtPeace_46) (so_th (so_iconst C dX2_familiesAtPeace_47 (by decide)) (so_th (so_isub C dX2_familiesAtPeace_48) (so_th (so_iload_n C dX2_familiesAtPeace_49 rfl) (so_th (so_iconst C dX2_familiesAtPeace_50 (by decide)) (so_th (so_ixor C dX2_familiesAtPeace_51) (so_th (so_iand C dX2_familiesAtPeace_52) (so_ri C hr dX2_familiesAtPeace_53))))))))))))))))
theorem m_X2_familiesAtPeace : am_M yX2_familiesAtPeace cX2_familiesAtPeace 4 (some .int) 0 0 d_X2_familiesAtPeace := am_M_of (by decide +kernel) b_X2_familiesAtPeace
theorem dX2_isAllPeace_0 : decode cX2_isAllPeace 0 = .ok (.aload_n 0, 1) := by decide +kernel
theorem dX2_isAllPeace_1 : decode cX2_isAllPeace 1 = .ok (.aload_n 1, 1) := by decide +kernel
theorem dX2_isAllPeace_2 : decode cX2_isAllPeace 2 = .ok (.invokevirtual 86, 3) := by decide +kernel
theorem dX2_isAllPeace_5 : decode cX2_isAllPeace 5 = .ok (.iconst 1, 1) := by decide +kernel
theorem dX2_isAllPeace_6 : decode cX2_isAllPeace 6 = .ok (.aload_n 1, 1) := by decide +kernel
theorem dX2_isAllPeace_7 : decode cX2_isAllPeace 7 = .ok (.getfield 83, 3) := by decide +kernel
theorem dX2_isAllPeace_10 : decode cX2_isAllPeace 10 = .ok (.ishl, 1) := by decide +kernel
theorem dX2_isAllPeace_11 : decode cX2_isAllPeace 11 = .ok (.iconst 1, 1) := by decide +kernel
theorem dX2_isAllPeace_12 : decode cX2_isAllPeace 12 = .ok (.isub, 1) := by decide +kernel
theorem dX2_isAllPeace_13 : decode cX2_isAllPeace 13 = .ok (.if_icmp .ne 7, 3) := by decide +kernel
theorem dX2_isAllPeace_16 : decode cX2_isAllPeace 16 = .ok (.iconst 1, 1) := by decide +kernel
theorem dX2_isAllPeace_17 : decode cX2_isAllPeace 17 = .ok (.goto 4, 3) := by decide +kernel
theorem dX2_isAllPeace_20 : decode cX2_isAllPeace 20 = .ok (.iconst 0, 1) := by decide +kernel
theorem dX2_isAllPeace_21 : decode cX2_isAllPeace 21 = .ok (.ireturn, 1) := by decide +kernel
def f_X2_isAllPeace : am_F := am_th (i_al 0) (am_th (i_al 1) (am_th (i_cv 2 1 d_X2_familiesAtPeace) (am_th (i_ic (1)) (am_th (i_al 1) (am_th (i_gi 5 2) (am_th (i_2 (fun x y => x <<< (y &&& 31))) (am_th (i_ic (1)) (am_th (i_2 (fun x y => x - y)) (am_br (b_2 (fun x y => decide (¬ x = y))) (am_th (i_ic (0)) (r_z)) (am_th (i_ic (1)) (r_z)))))))))))
def d_X2_isAllPeace : am_D := am_den 2 f_X2_isAllPeace
set_option maxHeartbeats 4000000 in
set_option maxRecDepth 100000 in
theorem b_X2_isAllPeace : am_Body yX2_isAllPeace cX2_isAllPeace 2 (some .boolean) 1 23 f_X2_isAllPeace := by
  intro p l e R s m args below meth c g n0 z0 r0 u0 C hr hn
  have C : am_Cx p l e R s m args below meth c g RX2 cX2_isAllPeace 2 n0 z0 (am_len u0) (am_wt u0) 1 23 := C
  unfold f_X2_isAllPeace
  exact (so_th (so_aload_n C dX2_isAllPeace_0 rfl) (so_th (so_aload_n C dX2_isAllPeace_1 rfl) (so_th (so_cv C m_X2_familiesAtPeace rfl k_99 k_101 k_100 k_102 k_40 ⟨by decide, by decide, by decide +kernel⟩ (by decide) dX2_isAllPeace_2) (so_th (so_iconst C dX2_isAllPeace_5 (by decide)) (so_th (so_aload_n C dX2_isAllPeace_6 rfl) (so_th (so_geti C fl_RX2_83 (by decide) dX2_isAllPeace_7) (so_th (so_ishl C dX2_isAllPeace_10) (so_th (so_iconst C dX2_isAllPeace_11 (by decide)) (so_th (so_isub C dX2_isAllPeace_12) (so_br (so_icmp_ne C dX2_isAllPeace_13 (by decide)) (so_th (so_iconst C dX2_isAllPeace_20 (by decide)) (so_rz C hr dX2_isAllPeace_21)) (so_th (so_iconst C dX2_isAllPeace_16 (by decide)) (so_goto C dX2_isAllPeace_17 (by decide) (so_rz C hr dX2_isAllPeace_21)))))))))))))
theorem m_X2_isAllPeace : am_M yX2_isAllPeace cX2_isAllPeace 2 (some .boolean) 1 23 d_X2_isAllPeace := am_M_of (by decide +kernel) b_X2_isAllPeace
theorem dX3_init_0 : decode cX3_init 0 = .ok (.aload_n 0, 1) := by decide +kernel
theorem dX3_init_1 : decode cX3_init 1 = .ok (.invokespecial 3, 3) := by decide +kernel
theorem dX3_init_4 : decode cX3_init 4 = .ok (.aload_n 0, 1) := by decide +kernel
theorem dX3_init_5 : decode cX3_init 5 = .ok (.bipush 42, 2) := by decide +kernel
theorem dX3_init_7 : decode cX3_init 7 = .ok (.newarray .int, 2) := by decide +kernel
theorem dX3_init_9 : decode cX3_init 9 = .ok (.putfield 9, 3) := by decide +kernel
theorem dX3_init_12 : decode cX3_init 12 = .ok (.aload_n 0, 1) := by decide +kernel
theorem dX3_init_13 : decode cX3_init 13 = .ok (.bipush 42, 2) := by decide +kernel
theorem dX3_init_15 : decode cX3_init 15 = .ok (.newarray .int, 2) := by decide +kernel
theorem dX3_init_17 : decode cX3_init 17 = .ok (.putfield 15, 3) := by decide +kernel
theorem dX3_init_20 : decode cX3_init 20 = .ok (.aload_n 0, 1) := by decide +kernel
theorem dX3_init_21 : decode cX3_init 21 = .ok (.bipush 6, 2) := by decide +kernel
theorem dX3_init_23 : decode cX3_init 23 = .ok (.newarray .int, 2) := by decide +kernel
theorem dX3_init_25 : decode cX3_init 25 = .ok (.putfield 18, 3) := by decide +kernel
theorem dX3_init_28 : decode cX3_init 28 = .ok (.aload_n 0, 1) := by decide +kernel
theorem dX3_init_29 : decode cX3_init 29 = .ok (.bipush 6, 2) := by decide +kernel
theorem dX3_init_31 : decode cX3_init 31 = .ok (.newarray .int, 2) := by decide +kernel
theorem dX3_init_33 : decode cX3_init 33 = .ok (.putfield 21, 3) := by decide +kernel
theorem dX3_init_36 : decode cX3_init 36 = .ok (.aload_n 0, 1) := by decide +kernel
theorem dX3_init_37 : decode cX3_init 37 = .ok (.bipush 6, 2) := by decide +kernel
theorem dX3_init_39 : decode cX3_init 39 = .ok (.newarray .int, 2) := by decide +kernel
theorem dX3_init_41 : decode cX3_init 41 = .ok (.putfield 24, 3) := by decide +kernel
theorem dX3_init_44 : decode cX3_init 44 = .ok (.return_, 1) := by decide +kernel
def f_X3_init : am_F := am_th (i_al 0) (am_th (i_oi) (am_th (i_al 0) (am_th (i_ic (42)) (am_th (i_na 0) (am_th (i_pr 3 0) (am_th (i_al 0) (am_th (i_ic (42)) (am_th (i_na 0) (am_th (i_pr 3 1) (am_th (i_al 0) (am_th (i_ic (6)) (am_th (i_na 0) (am_th (i_pr 3 2) (am_th (i_al 0) (am_th (i_ic (6)) (am_th (i_na 0) (am_th (i_pr 3 3) (am_th (i_al 0) (am_th (i_ic (6)) (am_th (i_na 0) (am_th (i_pr 3 9) (r_v))))))))))))))))))))))
def d_X3_init : am_D := am_den 1 f_X3_init
set_option maxHeartbeats 4000000 in
set_option maxRecDepth 100000 in
theorem b_X3_init : am_Body yX3_init cX3_init 1 none 1 20 f_X3_init := by
  intro p l e R s m args below meth c g n0 z0 r0 u0 C hr hn
  have C : am_Cx p l e R s m args below meth c g RX3 cX3_init 1 n0 z0 (am_len u0) (am_wt u0) 1 20 := C
  unfold f_X3_init
  exact (so_th (so_aload_n C dX3_init_0 rfl) (so_th (so_oinit C k_103 k_1 k_2 (by decide) dX3_init_1) (so_th (so_aload_n C dX3_init_4 rfl) (so_th (so_bipush C dX3_init_5 (by decide)) (so_th (so_newI C k_3 dX3_init_7) (so_th (so_putr C fl_RX3_9 (Or.inr ⟨_, rfl⟩) fp_3 (Or.inr ⟨rfl, hn, rfl⟩) dX3_init_9) (so_th (so_aload_n C dX3_init_12 rfl) (so_th (so_bipush C dX3_init_13 (by decide)) (so_th (so_newI C k_3 dX3_init_15) (so_th (so_putr C fl_RX3_15 (Or.inr ⟨_, rfl⟩) fp_3 (Or.inr ⟨rfl, hn, rfl⟩) dX3_init_17) (so_th (so_aload_n C dX3_init_20 rfl) (so_th (so_bipush C dX3_init_21 (by decide)) (so_th (so_newI C k_3 dX3_init_23) (so_th (so_putr C fl_RX3_18 (Or.inr ⟨_, rfl⟩) fp_3 (Or.inr ⟨rfl, hn, rfl⟩) dX3_init_25) (so_th (so_aload_n C dX3_init_28 rfl) (so_th (so_bipush C dX3_init_29 (by decide)) (so_th (so_newI C k_3 dX3_init_31) (so_th (so_putr C fl_RX3_21 (Or.inr ⟨_, rfl⟩) fp_3 (Or.inr ⟨rfl, hn, rfl⟩) dX3_init_33) (so_th (so_aload_n C dX3_init_36 rfl) (so_th (so_bipush C dX3_init_37 (by decide)) (so_th (so_newI C k_3 dX3_init_39) (so_th (so_putr C fl_RX3_24 (Or.inr ⟨_, rfl⟩) fp_3 (Or.inr ⟨rfl, hn, rfl⟩) dX3_init_41) (so_rv C hr dX3_init_44)))))))))))))))))))))))
theorem m_X3_init : am_M yX3_init cX3_init 1 none 1 20 d_X3_init := am_M_of (by decide +kernel) b_X3_init
theorem dX3_keepRow_0 : decode cX3_keepRow 0 = .ok (.aload_n 0, 1) := by decide +kernel
theorem dX3_keepRow_1 : decode cX3_keepRow 1 = .ok (.iload_n 1, 1) := by decide +kernel
theorem dX3_keepRow_2 : decode cX3_keepRow 2 = .ok (.putfield 60, 3) := by decide +kernel
theorem dX3_keepRow_5 : decode cX3_keepRow 5 = .ok (.aload_n 0, 1) := by decide +kernel
theorem dX3_keepRow_6 : decode cX3_keepRow 6 = .ok (.lload_n 2, 1) := by decide +kernel
theorem dX3_keepRow_7 : decode cX3_keepRow 7 = .ok (.putfield 63, 3) := by decide +kernel
theorem dX3_keepRow_10 : decode cX3_keepRow 10 = .ok (.aload_n 0, 1) := by decide +kernel
theorem dX3_keepRow_11 : decode cX3_keepRow 11 = .ok (.iconst 0, 1) := by decide +kernel
theorem dX3_keepRow_12 : decode cX3_keepRow 12 = .ok (.putfield 85, 3) := by decide +kernel
theorem dX3_keepRow_15 : decode cX3_keepRow 15 = .ok (.iconst 0, 1) := by decide +kernel
theorem dX3_keepRow_16 : decode cX3_keepRow 16 = .ok (.istore 4, 2) := by decide +kernel
theorem dX3_keepRow_18 : decode cX3_keepRow 18 = .ok (.iload 4, 2) := by decide +kernel
theorem dX3_keepRow_20 : decode cX3_keepRow 20 = .ok (.iload_n 1, 1) := by decide +kernel
theorem dX3_keepRow_21 : decode cX3_keepRow 21 = .ok (.if_icmp .ge 39, 3) := by decide +kernel
theorem dX3_keepRow_24 : decode cX3_keepRow 24 = .ok (.aload_n 0, 1) := by decide +kernel
theorem dX3_keepRow_25 : decode cX3_keepRow 25 = .ok (.getfield 24, 3) := by decide +kernel
theorem dX3_keepRow_28 : decode cX3_keepRow 28 = .ok (.iload 4, 2) := by decide +kernel
theorem dX3_keepRow_30 : decode cX3_keepRow 30 = .ok (.aload_n 0, 1) := by decide +kernel
theorem dX3_keepRow_31 : decode cX3_keepRow 31 = .ok (.getfield 18, 3) := by decide +kernel
theorem dX3_keepRow_34 : decode cX3_keepRow 34 = .ok (.iload 4, 2) := by decide +kernel
theorem dX3_keepRow_36 : decode cX3_keepRow 36 = .ok (.iaload, 1) := by decide +kernel
theorem dX3_keepRow_37 : decode cX3_keepRow 37 = .ok (.iastore, 1) := by decide +kernel
theorem dX3_keepRow_38 : decode cX3_keepRow 38 = .ok (.aload_n 0, 1) := by decide +kernel
theorem dX3_keepRow_39 : decode cX3_keepRow 39 = .ok (.dup, 1) := by decide +kernel
theorem dX3_keepRow_40 : decode cX3_keepRow 40 = .ok (.getfield 85, 3) := by decide +kernel
theorem dX3_keepRow_43 : decode cX3_keepRow 43 = .ok (.aload_n 0, 1) := by decide +kernel
theorem dX3_keepRow_44 : decode cX3_keepRow 44 = .ok (.getfield 21, 3) := by decide +kernel
theorem dX3_keepRow_47 : decode cX3_keepRow 47 = .ok (.iload 4, 2) := by decide +kernel
theorem dX3_keepRow_49 : decode cX3_keepRow 49 = .ok (.iaload, 1) := by decide +kernel
theorem dX3_keepRow_50 : decode cX3_keepRow 50 = .ok (.iadd, 1) := by decide +kernel
theorem dX3_keepRow_51 : decode cX3_keepRow 51 = .ok (.putfield 85, 3) := by decide +kernel
theorem dX3_keepRow_54 : decode cX3_keepRow 54 = .ok (.iinc 4 1, 3) := by decide +kernel
theorem dX3_keepRow_57 : decode cX3_keepRow 57 = .ok (.goto (-39), 3) := by decide +kernel
theorem dX3_keepRow_60 : decode cX3_keepRow 60 = .ok (.return_, 1) := by decide +kernel
def f_X3_keepRow_l18 : am_F := am_th (i_il 4) (am_th (i_il 1) (am_br (b_2 (fun x y => decide (y ≤ x))) (am_to 60) (am_th (i_al 0) (am_th (i_gr 3 9) (am_th (i_il 4) (am_th (i_al 0) (am_th (i_gr 3 2) (am_th (i_il 4) (am_th (i_ia 0) (am_th (i_iS) (am_th (i_al 0) (am_th (i_dup) (am_th (i_gi 3 7) (am_th (i_al 0) (am_th (i_gr 3 3) (am_th (i_il 4) (am_th (i_ia 0) (am_th (i_2 (fun x y => x + y)) (am_th (i_pi 3 7) (am_th (i_inc 4 (1)) (am_to 18)))))))))))))))))))))
def f_X3_keepRow : am_F := am_th (i_al 0) (am_th (i_il 1) (am_th (i_pi 3 8) (am_th (i_al 0) (am_th (i_ll 2) (am_th (i_pl 3 6) (am_th (i_al 0) (am_th (i_ic (0)) (am_th (i_pi 3 7) (am_th (i_ic (0)) (am_th (i_is 4) (am_sq 60 (am_lp 5000 18 f_X3_keepRow_l18) (r_v))))))))))))
def d_X3_keepRow : am_D := am_den 5 f_X3_keepRow
set_option maxHeartbeats 4000000 in
set_option maxRecDepth 100000 in
theorem b_X3_keepRow : am_Body yX3_keepRow cX3_keepRow 5 none 0 0 f_X3_keepRow := by
  intro p l e R s m args below meth c g n0 z0 r0 u0 C hr hn
  have C : am_Cx p l e R s m args below meth c g RX3 cX3_keepRow 5 n0 z0 (am_len u0) (am_wt u0) 0 0 := C
  have l18 : am_Snd (am_GM p l e R s m args below meth c g 5 n0 z0 r0 u0) (am_Rt r0 u0) 18 (f_X3_keepRow_l18) := by
    unfold f_X3_keepRow_l18
    exact (so_th (so_iload C dX3_keepRow_18) (so_th (so_iload_n C dX3_keepRow_20 rfl) (so_br (so_icmp_ge C dX3_keepRow_21 (by decide)) (so_to) (so_th (so_aload_n C dX3_keepRow_24 rfl) (so_th (so_getr C fl_RX3_24 dX3_keepRow_25) (so_th (so_iload C dX3_keepRow_28) (so_th (so_aload_n C dX3_keepRow_30 rfl) (so_th (so_getr C fl_RX3_18 dX3_keepRow_31) (so_th (so_iload C dX3_keepRow_34) (so_th (so_iald C dX3_keepRow_36) (so_th (so_iast C dX3_keepRow_37) (so_th (so_aload_n C dX3_keepRow_38 rfl) (so_th (so_dup C dX3_keepRow_39) (so_th (so_geti C fl_RX3_85 (by decide) dX3_keepRow_40) (so_th (so_aload_n C dX3_keepRow_43 rfl) (so_th (so_getr C fl_RX3_21 dX3_keepRow_44) (so_th (so_iload C dX3_keepRow_47) (so_th (so_iald C dX3_keepRow_49) (so_th (so_iadd C dX3_keepRow_50) (so_th (so_puti C fl_RX3_85 fp_3 (Or.inl rfl) dX3_keepRow_51) (so_th (so_iinc C dX3_keepRow_54 (by decide) (by decide)) (so_goto C dX3_keepRow_57 (by decide) (so_to)))))))))))))))))))))))
  unfold f_X3_keepRow
  exact (so_th (so_aload_n C dX3_keepRow_0 rfl) (so_th (so_iload_n C dX3_keepRow_1 rfl) (so_th (so_puti C fl_RX3_60 fp_3 (Or.inl rfl) dX3_keepRow_2) (so_th (so_aload_n C dX3_keepRow_5 rfl) (so_th (so_lload_n C dX3_keepRow_6 rfl) (so_th (so_putl C fl_RX3_63 fp_3 (Or.inl rfl) dX3_keepRow_7) (so_th (so_aload_n C dX3_keepRow_10 rfl) (so_th (so_iconst C dX3_keepRow_11 (by decide)) (so_th (so_puti C fl_RX3_85 fp_3 (Or.inl rfl) dX3_keepRow_12) (so_th (so_iconst C dX3_keepRow_15 (by decide)) (so_th (so_istore C dX3_keepRow_16 (by decide)) (so_sq (so_lp l18 5000) (so_rv C hr dX3_keepRow_60)))))))))))))
theorem m_X3_keepRow : am_M yX3_keepRow cX3_keepRow 5 none 0 0 d_X3_keepRow := am_M_of (by decide +kernel) b_X3_keepRow
theorem dJ6_bitCount_0f7a4_0 : decode cJ6_bitCount_0f7a4 0 = .ok (.iload_n 0, 1) := by decide +kernel
theorem dJ6_bitCount_0f7a4_1 : decode cJ6_bitCount_0f7a4 1 = .ok (.iload_n 0, 1) := by decide +kernel
theorem dJ6_bitCount_0f7a4_2 : decode cJ6_bitCount_0f7a4 2 = .ok (.iconst 1, 1) := by decide +kernel
theorem dJ6_bitCount_0f7a4_3 : decode cJ6_bitCount_0f7a4 3 = .ok (.iushr, 1) := by decide +kernel
theorem dJ6_bitCount_0f7a4_4 : decode cJ6_bitCount_0f7a4 4 = .ok (.ldc_w 265, 3) := by decide +kernel
theorem dJ6_bitCount_0f7a4_7 : decode cJ6_bitCount_0f7a4 7 = .ok (.iand, 1) := by decide +kernel
theorem dJ6_bitCount_0f7a4_8 : decode cJ6_bitCount_0f7a4 8 = .ok (.isub, 1) := by decide +kernel
theorem dJ6_bitCount_0f7a4_9 : decode cJ6_bitCount_0f7a4 9 = .ok (.istore_n 0, 1) := by decide +kernel
theorem dJ6_bitCount_0f7a4_10 : decode cJ6_bitCount_0f7a4 10 = .ok (.iload_n 0, 1) := by decide +kernel
theorem dJ6_bitCount_0f7a4_11 : decode cJ6_bitCount_0f7a4 11 = .ok (.ldc_w 266, 3) := by decide +kernel
theorem dJ6_bitCount_0f7a4_14 : decode cJ6_bitCount_0f7a4 14 = .ok (.iand, 1) := by decide +kernel
theorem dJ6_bitCount_0f7a4_15 : decode cJ6_bitCount_0f7a4 15 = .ok (.iload_n 0, 1) := by decide +kernel
theorem dJ6_bitCount_0f7a4_16 : decode cJ6_bitCount_0f7a4 16 = .ok (.iconst 2, 1) := by decide +kernel
theorem dJ6_bitCount_0f7a4_17 : decode cJ6_bitCount_0f7a4 17 = .ok (.iushr, 1) := by decide +kernel
theorem dJ6_bitCount_0f7a4_18 : decode cJ6_bitCount_0f7a4 18 = .ok (.ldc_w 266, 3) := by decide +kernel
theorem dJ6_bitCount_0f7a4_21 : decode cJ6_bitCount_0f7a4 21 = .ok (.iand, 1) := by decide +kernel
theorem dJ6_bitCount_0f7a4_22 : decode cJ6_bitCount_0f7a4 22 = .ok (.iadd, 1) := by decide +kernel
theorem dJ6_bitCount_0f7a4_23 : decode cJ6_bitCount_0f7a4 23 = .ok (.istore_n 0, 1) := by decide +kernel
theorem dJ6_bitCount_0f7a4_24 : decode cJ6_bitCount_0f7a4 24 = .ok (.iload_n 0, 1) := by decide +kernel
theorem dJ6_bitCount_0f7a4_25 : decode cJ6_bitCount_0f7a4 25 = .ok (.iload_n 0, 1) := by decide +kernel
theorem dJ6_bitCount_0f7a4_26 : decode cJ6_bitCount_0f7a4 26 = .ok (.iconst 4, 1) := by decide +kernel
theorem dJ6_bitCount_0f7a4_27 : decode cJ6_bitCount_0f7a4 27 = .ok (.iushr, 1) := by decide +kernel
theorem dJ6_bitCount_0f7a4_28 : decode cJ6_bitCount_0f7a4 28 = .ok (.iadd, 1) := by decide +kernel
theorem dJ6_bitCount_0f7a4_29 : decode cJ6_bitCount_0f7a4 29 = .ok (.ldc_w 267, 3) := by decide +kernel
theorem dJ6_bitCount_0f7a4_32 : decode cJ6_bitCount_0f7a4 32 = .ok (.iand, 1) := by decide +kernel
theorem dJ6_bitCount_0f7a4_33 : decode cJ6_bitCount_0f7a4 33 = .ok (.istore_n 0, 1) := by decide +kernel
theorem dJ6_bitCount_0f7a4_34 : decode cJ6_bitCount_0f7a4 34 = .ok (.iload_n 0, 1) := by decide +kernel
theorem dJ6_bitCount_0f7a4_35 : decode cJ6_bitCount_0f7a4 35 = .ok (.iload_n 0, 1) := by decide +kernel
theorem dJ6_bitCount_0f7a4_36 : decode cJ6_bitCount_0f7a4 36 = .ok (.bipush 8, 2) := by decide +kernel
theorem dJ6_bitCount_0f7a4_38 : decode cJ6_bitCount_0f7a4 38 = .ok (.iushr, 1) := by decide +kernel
theorem dJ6_bitCount_0f7a4_39 : decode cJ6_bitCount_0f7a4 39 = .ok (.iadd, 1) := by decide +kernel
theorem dJ6_bitCount_0f7a4_40 : decode cJ6_bitCount_0f7a4 40 = .ok (.istore_n 0, 1) := by decide +kernel
theorem dJ6_bitCount_0f7a4_41 : decode cJ6_bitCount_0f7a4 41 = .ok (.iload_n 0, 1) := by decide +kernel
theorem dJ6_bitCount_0f7a4_42 : decode cJ6_bitCount_0f7a4 42 = .ok (.iload_n 0, 1) := by decide +kernel
theorem dJ6_bitCount_0f7a4_43 : decode cJ6_bitCount_0f7a4 43 = .ok (.bipush 16, 2) := by decide +kernel
theorem dJ6_bitCount_0f7a4_45 : decode cJ6_bitCount_0f7a4 45 = .ok (.iushr, 1) := by decide +kernel
theorem dJ6_bitCount_0f7a4_46 : decode cJ6_bitCount_0f7a4 46 = .ok (.iadd, 1) := by decide +kernel
theorem dJ6_bitCount_0f7a4_47 : decode cJ6_bitCount_0f7a4 47 = .ok (.istore_n 0, 1) := by decide +kernel
theorem dJ6_bitCount_0f7a4_48 : decode cJ6_bitCount_0f7a4 48 = .ok (.iload_n 0, 1) := by decide +kernel
theorem dJ6_bitCount_0f7a4_49 : decode cJ6_bitCount_0f7a4 49 = .ok (.bipush 63, 2) := by decide +kernel
theorem dJ6_bitCount_0f7a4_51 : decode cJ6_bitCount_0f7a4 51 = .ok (.iand, 1) := by decide +kernel
theorem dJ6_bitCount_0f7a4_52 : decode cJ6_bitCount_0f7a4 52 = .ok (.ireturn, 1) := by decide +kernel
def f_J6_bitCount_0f7a4 : am_F := am_th (i_il 0) (am_th (i_il 0) (am_th (i_ic (1)) (am_th (i_2 (fun x y => (x.toUInt32 >>> (y.toUInt32 &&& Int32.toUInt32 31)).toInt32)) (am_th (i_ic (1431655765)) (am_th (i_2 (fun x y => x &&& y)) (am_th (i_2 (fun x y => x - y)) (am_th (i_is 0) (am_th (i_il 0) (am_th (i_ic (858993459)) (am_th (i_2 (fun x y => x &&& y)) (am_th (i_il 0) (am_th (i_ic (2)) (am_th (i_2 (fun x y => (x.toUInt32 >>> (y.toUInt32 &&& Int32.toUInt32 31)).toInt32)) (am_th (i_ic (858993459)) (am_th (i_2 (fun x y => x &&& y)) (am_th (i_2 (fun x y => x + y)) (am_th (i_is 0) (am_th (i_il 0) (am_th (i_il 0) (am_th (i_ic (4)) (am_th (i_2 (fun x y => (x.toUInt32 >>> (y.toUInt32 &&& Int32.toUInt32 31)).toInt32)) (am_th (i_2 (fun x y => x + y)) (am_th (i_ic (252645135)) (am_th (i_2 (fun x y => x &&& y)) (am_th (i_is 0) (am_th (i_il 0) (am_th (i_il 0) (am_th (i_ic (8)) (am_th (i_2 (fun x y => (x.toUInt32 >>> (y.toUInt32 &&& Int32.toUInt32 31)).toInt32)) (am_th (i_2 (fun x y => x + y)) (am_th (i_is 0) (am_th (i_il 0) (am_th (i_il 0) (am_th (i_ic (16)) (am_th (i_2 (fun x y => (x.toUInt32 >>> (y.toUInt32 &&& Int32.toUInt32 31)).toInt32)) (am_th (i_2 (fun x y => x + y)) (am_th (i_is 0) (am_th (i_il 0) (am_th (i_ic (63)) (am_th (i_2 (fun x y => x &&& y)) (r_i)))))))))))))))))))))))))))))))))))))))))
def d_J6_bitCount_0f7a4 : am_D := am_den 1 f_J6_bitCount_0f7a4
set_option maxHeartbeats 4000000 in
set_option maxRecDepth 100000 in
theorem b_J6_bitCount_0f7a4 : am_Body yJ6_bitCount_0f7a4 cJ6_bitCount_0f7a4 1 (some .int) 0 0 f_J6_bitCount_0f7a4 := by
  intro p l e R s m args below meth c g n0 z0 r0 u0 C hr hn
  have C : am_Cx p l e R s m args below meth c g RJ6 cJ6_bitCount_0f7a4 1 n0 z0 (am_len u0) (am_wt u0) 0 0 := C
  unfold f_J6_bitCount_0f7a4
  exact (so_th (so_iload_n C dJ6_bitCount_0f7a4_0 rfl) (so_th (so_iload_n C dJ6_bitCount_0f7a4_1 rfl) (so_th (so_iconst C dJ6_bitCount_0f7a4_2 (by decide)) (so_th (so_iushr C dJ6_bitCount_0f7a4_3) (so_th (so_ldcw C dJ6_bitCount_0f7a4_4 k_104) (so_th (so_iand C dJ6_bitCount_0f7a4_7) (so_th (so_isub C dJ6_bitCount_0f7a4_8) (so_th (so_istore_n C dJ6_bitCount_0f7a4_9 rfl (by decide)) (so_th (so_iload_n C dJ6_bitCount_0f7a4_10 rfl) (so_th (so_ldcw C dJ6_bitCount_0f7a4_11 k_105) (so_th (so_iand C dJ6_bitCount_0f7a4_14) (so_th (so_iload_n C dJ6_bitCount_0f7a4_15 rfl) (so_th (so_iconst C dJ6_bitCount_0f7a4_16 (by decide)) (so_th (so_iushr C dJ6_bitCount_0f7a4_17) (so_th (so_ldcw C dJ6_bitCount_0f7a4_18 k_105) (so_th (so_iand C dJ6_bitCount_0f7a4_21) (so_th (so_iadd C dJ6_bitCount_0f7a4_22) (so_th (so_istore_n C dJ6_bitCount_0f7a4_23 rfl (by decide)) (so_th (so_iload_n C dJ6_bitCount_0f7a4_24 rfl) (so_th (so_iload_n C dJ6_bitCount_0f7a4_25 rfl) (so_th (so_iconst C dJ6_bitCount_0f7a4_26 (by decide)) (so_th (so_iushr C dJ6_bitCount_0f7a4_27) (so_th (so_iadd C dJ6_bitCount_0f7a4_28) (so_th (so_ldcw C dJ6_bitCount_0f7a4_29 k_106) (so_th (so_iand C dJ6_bitCount_0f7a4_32) (so_th (so_istore_n C dJ6_bitCount_0f7a4_33 rfl (by decide)) (so_th (so_iload_n C dJ6_bitCount_0f7a4_34 rfl) (so_th (so_iload_n C dJ6_bitCount_0f7a4_35 rfl) (so_th (so_bipush C dJ6_bitCount_0f7a4_36 (by decide)) (so_th (so_iushr C dJ6_bitCount_0f7a4_38) (so_th (so_iadd C dJ6_bitCount_0f7a4_39) (so_th (so_istore_n C dJ6_bitCount_0f7a4_40 rfl (by decide)) (so_th (so_iload_n C dJ6_bitCount_0f7a4_41 rfl) (so_th (so_iload_n C dJ6_bitCount_0f7a4_42 rfl) (so_th (so_bipush C dJ6_bitCount_0f7a4_43 (by decide)) (so_th (so_iushr C dJ6_bitCount_0f7a4_45) (so_th (so_iadd C dJ6_bitCount_0f7a4_46) (so_th (so_istore_n C dJ6_bitCount_0f7a4_47 rfl (by decide)) (so_th (so_iload_n C dJ6_bitCount_0f7a4_48 rfl) (so_th (so_bipush C dJ6_bitCount_0f7a4_49 (by decide)) (so_th (so_iand C dJ6_bitCount_0f7a4_51) (so_ri C hr dJ6_bitCount_0f7a4_52))))))))))))))))))))))))))))))))))))))))))
theorem m_J6_bitCount_0f7a4 : am_M yJ6_bitCount_0f7a4 cJ6_bitCount_0f7a4 1 (some .int) 0 0 d_J6_bitCount_0f7a4 := am_M_of (by decide +kernel) b_J6_bitCount_0f7a4
theorem dX3_mostGrafts_0 : decode cX3_mostGrafts 0 = .ok (.iconst 0, 1) := by decide +kernel
theorem dX3_mostGrafts_1 : decode cX3_mostGrafts 1 = .ok (.istore_n 2, 1) := by decide +kernel
theorem dX3_mostGrafts_2 : decode cX3_mostGrafts 2 = .ok (.iconst 0, 1) := by decide +kernel
theorem dX3_mostGrafts_3 : decode cX3_mostGrafts 3 = .ok (.istore_n 3, 1) := by decide +kernel
theorem dX3_mostGrafts_4 : decode cX3_mostGrafts 4 = .ok (.iconst 0, 1) := by decide +kernel
theorem dX3_mostGrafts_5 : decode cX3_mostGrafts 5 = .ok (.istore 4, 2) := by decide +kernel
theorem dX3_mostGrafts_7 : decode cX3_mostGrafts 7 = .ok (.iload 4, 2) := by decide +kernel
theorem dX3_mostGrafts_9 : decode cX3_mostGrafts 9 = .ok (.bipush 6, 2) := by decide +kernel
theorem dX3_mostGrafts_11 : decode cX3_mostGrafts 11 = .ok (.if_icmp .ge 39, 3) := by decide +kernel
theorem dX3_mostGrafts_14 : decode cX3_mostGrafts 14 = .ok (.aload_n 0, 1) := by decide +kernel
theorem dX3_mostGrafts_15 : decode cX3_mostGrafts 15 = .ok (.getfield 9, 3) := by decide +kernel
theorem dX3_mostGrafts_18 : decode cX3_mostGrafts 18 = .ok (.iload_n 1, 1) := by decide +kernel
theorem dX3_mostGrafts_19 : decode cX3_mostGrafts 19 = .ok (.bipush 6, 2) := by decide +kernel
theorem dX3_mostGrafts_21 : decode cX3_mostGrafts 21 = .ok (.imul, 1) := by decide +kernel
theorem dX3_mostGrafts_22 : decode cX3_mostGrafts 22 = .ok (.iload 4, 2) := by decide +kernel
theorem dX3_mostGrafts_24 : decode cX3_mostGrafts 24 = .ok (.iadd, 1) := by decide +kernel
theorem dX3_mostGrafts_25 : decode cX3_mostGrafts 25 = .ok (.iaload, 1) := by decide +kernel
theorem dX3_mostGrafts_26 : decode cX3_mostGrafts 26 = .ok (.istore 5, 2) := by decide +kernel
theorem dX3_mostGrafts_28 : decode cX3_mostGrafts 28 = .ok (.iload 5, 2) := by decide +kernel
theorem dX3_mostGrafts_30 : decode cX3_mostGrafts 30 = .ok (.ifCond .eq 14, 3) := by decide +kernel
theorem dX3_mostGrafts_33 : decode cX3_mostGrafts 33 = .ok (.iinc 2 1, 3) := by decide +kernel
theorem dX3_mostGrafts_36 : decode cX3_mostGrafts 36 = .ok (.iload_n 3, 1) := by decide +kernel
theorem dX3_mostGrafts_37 : decode cX3_mostGrafts 37 = .ok (.iload 5, 2) := by decide +kernel
theorem dX3_mostGrafts_39 : decode cX3_mostGrafts 39 = .ok (.invokestatic 92, 3) := by decide +kernel
theorem dX3_mostGrafts_42 : decode cX3_mostGrafts 42 = .ok (.iadd, 1) := by decide +kernel
theorem dX3_mostGrafts_43 : decode cX3_mostGrafts 43 = .ok (.istore_n 3, 1) := by decide +kernel
theorem dX3_mostGrafts_44 : decode cX3_mostGrafts 44 = .ok (.iinc 4 1, 3) := by decide +kernel
theorem dX3_mostGrafts_47 : decode cX3_mostGrafts 47 = .ok (.goto (-40), 3) := by decide +kernel
theorem dX3_mostGrafts_50 : decode cX3_mostGrafts 50 = .ok (.iconst 1, 1) := by decide +kernel
theorem dX3_mostGrafts_51 : decode cX3_mostGrafts 51 = .ok (.aload_n 0, 1) := by decide +kernel
theorem dX3_mostGrafts_52 : decode cX3_mostGrafts 52 = .ok (.getfield 27, 3) := by decide +kernel
theorem dX3_mostGrafts_55 : decode cX3_mostGrafts 55 = .ok (.getfield 97, 3) := by decide +kernel
theorem dX3_mostGrafts_58 : decode cX3_mostGrafts 58 = .ok (.invokestatic 100, 3) := by decide +kernel
theorem dX3_mostGrafts_61 : decode cX3_mostGrafts 61 = .ok (.istore 4, 2) := by decide +kernel
theorem dX3_mostGrafts_63 : decode cX3_mostGrafts 63 = .ok (.iload_n 2, 1) := by decide +kernel
theorem dX3_mostGrafts_64 : decode cX3_mostGrafts 64 = .ok (.iload_n 3, 1) := by decide +kernel
theorem dX3_mostGrafts_65 : decode cX3_mostGrafts 65 = .ok (.iload 4, 2) := by decide +kernel
theorem dX3_mostGrafts_67 : decode cX3_mostGrafts 67 = .ok (.iadd, 1) := by decide +kernel
theorem dX3_mostGrafts_68 : decode cX3_mostGrafts 68 = .ok (.iconst 1, 1) := by decide +kernel
theorem dX3_mostGrafts_69 : decode cX3_mostGrafts 69 = .ok (.isub, 1) := by decide +kernel
theorem dX3_mostGrafts_70 : decode cX3_mostGrafts 70 = .ok (.iload 4, 2) := by decide +kernel
theorem dX3_mostGrafts_72 : decode cX3_mostGrafts 72 = .ok (.idiv, 1) := by decide +kernel
theorem dX3_mostGrafts_73 : decode cX3_mostGrafts 73 = .ok (.isub, 1) := by decide +kernel
theorem dX3_mostGrafts_74 : decode cX3_mostGrafts 74 = .ok (.ireturn, 1) := by decide +kernel
def f_X3_mostGrafts_l7 : am_F := am_th (i_il 4) (am_th (i_ic (6)) (am_br (b_2 (fun x y => decide (y ≤ x))) (am_to 50) (am_th (i_al 0) (am_th (i_gr 3 0) (am_th (i_il 1) (am_th (i_ic (6)) (am_th (i_2 (fun x y => x * y)) (am_th (i_il 4) (am_th (i_2 (fun x y => x + y)) (am_th (i_ia 0) (am_th (i_is 5) (am_th (i_il 5) (am_sq 44 (am_br (b_1 (fun x => decide (x = 0))) (am_to 44) (am_th (i_inc 2 (1)) (am_th (i_il 3) (am_th (i_il 5) (am_th (i_cs 1 d_J6_bitCount_0f7a4) (am_th (i_2 (fun x y => x + y)) (am_th (i_is 3) (am_to 44)))))))) (am_th (i_inc 4 (1)) (am_to 7)))))))))))))))
def f_X3_mostGrafts : am_F := am_th (i_ic (0)) (am_th (i_is 2) (am_th (i_ic (0)) (am_th (i_is 3) (am_th (i_ic (0)) (am_th (i_is 4) (am_sq 50 (am_lp 5000 7 f_X3_mostGrafts_l7) (am_th (i_ic (1)) (am_th (i_al 0) (am_th (i_gr 3 4) (am_th (i_gi 5 2) (am_th (i_mx (fun x y => if x < y then y else x)) (am_th (i_is 4) (am_th (i_il 2) (am_th (i_il 3) (am_th (i_il 4) (am_th (i_2 (fun x y => x + y)) (am_th (i_ic (1)) (am_th (i_2 (fun x y => x - y)) (am_th (i_il 4) (am_th (i_2n (fun x y => x / y)) (am_th (i_2 (fun x y => x - y)) (r_i))))))))))))))))))))))
def d_X3_mostGrafts : am_D := am_den 6 f_X3_mostGrafts
set_option maxHeartbeats 4000000 in
set_option maxRecDepth 100000 in
theorem b_X3_mostGrafts : am_Body yX3_mostGrafts cX3_mostGrafts 6 (some .int) 1 21 f_X3_mostGrafts := by
  intro p l e R s m args below meth c g n0 z0 r0 u0 C hr hn
  have C : am_Cx p l e R s m args below meth c g RX3 cX3_mostGrafts 6 n0 z0 (am_len u0) (am_wt u0) 1 21 := C
  have l7 : am_Snd (am_GM p l e R s m args below meth c g 6 n0 z0 r0 u0) (am_Rt r0 u0) 7 (f_X3_mostGrafts_l7) := by
    unfold f_X3_mostGrafts_l7
    exact (so_th (so_iload C dX3_mostGrafts_7) (so_th (so_bipush C dX3_mostGrafts_9 (by decide)) (so_br (so_icmp_ge C dX3_mostGrafts_11 (by decide)) (so_to) (so_th (so_aload_n C dX3_mostGrafts_14 rfl) (so_th (so_getr C fl_RX3_9 dX3_mostGrafts_15) (so_th (so_iload_n C dX3_mostGrafts_18 rfl) (so_th (so_bipush C dX3_mostGrafts_19 (by decide)) (so_th (so_imul C dX3_mostGrafts_21) (so_th (so_iload C dX3_mostGrafts_22) (so_th (so_iadd C dX3_mostGrafts_24) (so_th (so_iald C dX3_mostGrafts_25) (so_th (so_istore C dX3_mostGrafts_26 (by decide)) (so_th (so_iload C dX3_mostGrafts_28) (so_sq (so_br (so_if_eq C dX3_mostGrafts_30 (by decide)) (so_to) (so_th (so_iinc C dX3_mostGrafts_33 (by decide) (by decide)) (so_th (so_iload_n C dX3_mostGrafts_36 rfl) (so_th (so_iload C dX3_mostGrafts_37) (so_th (so_cs C m_J6_bitCount_0f7a4 k_107 k_110 k_109 k_108 ⟨by decide, by decide, by decide +kernel⟩ (by decide) dX3_mostGrafts_39) (so_th (so_iadd C dX3_mostGrafts_42) (so_th (so_istore_n C dX3_mostGrafts_43 rfl (by decide)) (so_to)))))))) (so_th (so_iinc C dX3_mostGrafts_44 (by decide) (by decide)) (so_goto C dX3_mostGrafts_47 (by decide) (so_to)))))))))))))))))
  unfold f_X3_mostGrafts
  exact (so_th (so_iconst C dX3_mostGrafts_0 (by decide)) (so_th (so_istore_n C dX3_mostGrafts_1 rfl (by decide)) (so_th (so_iconst C dX3_mostGrafts_2 (by decide)) (so_th (so_istore_n C dX3_mostGrafts_3 rfl (by decide)) (so_th (so_iconst C dX3_mostGrafts_4 (by decide)) (so_th (so_istore C dX3_mostGrafts_5 (by decide)) (so_sq (so_lp l7 5000) (so_th (so_iconst C dX3_mostGrafts_50 (by decide)) (so_th (so_aload_n C dX3_mostGrafts_51 rfl) (so_th (so_getr C fl_RX3_27 dX3_mostGrafts_52) (so_th (so_geti C fl_RX3_97 (by decide) dX3_mostGrafts_55) (so_th (so_max C k_111 k_17 k_18 k_19 (by decide) dX3_mostGrafts_58) (so_th (so_istore C dX3_mostGrafts_61 (by decide)) (so_th (so_iload_n C dX3_mostGrafts_63 rfl) (so_th (so_iload_n C dX3_mostGrafts_64 rfl) (so_th (so_iload C dX3_mostGrafts_65) (so_th (so_iadd C dX3_mostGrafts_67) (so_th (so_iconst C dX3_mostGrafts_68 (by decide)) (so_th (so_isub C dX3_mostGrafts_69) (so_th (so_iload C dX3_mostGrafts_70) (so_th (so_idiv C dX3_mostGrafts_72) (so_th (so_isub C dX3_mostGrafts_73) (so_ri C hr dX3_mostGrafts_74)))))))))))))))))))))))
theorem m_X3_mostGrafts : am_M yX3_mostGrafts cX3_mostGrafts 6 (some .int) 1 21 d_X3_mostGrafts := am_M_of (by decide +kernel) b_X3_mostGrafts
theorem dX3_canBeBetter_0 : decode cX3_canBeBetter 0 = .ok (.aload_n 0, 1) := by decide +kernel
theorem dX3_canBeBetter_1 : decode cX3_canBeBetter 1 = .ok (.iload_n 1, 1) := by decide +kernel
theorem dX3_canBeBetter_2 : decode cX3_canBeBetter 2 = .ok (.invokevirtual 88, 3) := by decide +kernel
theorem dX3_canBeBetter_5 : decode cX3_canBeBetter 5 = .ok (.istore 4, 2) := by decide +kernel
theorem dX3_canBeBetter_7 : decode cX3_canBeBetter 7 = .ok (.iload_n 1, 1) := by decide +kernel
theorem dX3_canBeBetter_8 : decode cX3_canBeBetter 8 = .ok (.iload 4, 2) := by decide +kernel
theorem dX3_canBeBetter_10 : decode cX3_canBeBetter 10 = .ok (.iadd, 1) := by decide +kernel
theorem dX3_canBeBetter_11 : decode cX3_canBeBetter 11 = .ok (.aload_n 0, 1) := by decide +kernel
theorem dX3_canBeBetter_12 : decode cX3_canBeBetter 12 = .ok (.getfield 60, 3) := by decide +kernel
theorem dX3_canBeBetter_15 : decode cX3_canBeBetter 15 = .ok (.if_icmp .eq 20, 3) := by decide +kernel
theorem dX3_canBeBetter_18 : decode cX3_canBeBetter 18 = .ok (.iload_n 1, 1) := by decide +kernel
theorem dX3_canBeBetter_19 : decode cX3_canBeBetter 19 = .ok (.iload 4, 2) := by decide +kernel
theorem dX3_canBeBetter_21 : decode cX3_canBeBetter 21 = .ok (.iadd, 1) := by decide +kernel
theorem dX3_canBeBetter_22 : decode cX3_canBeBetter 22 = .ok (.aload_n 0, 1) := by decide +kernel
theorem dX3_canBeBetter_23 : decode cX3_canBeBetter 23 = .ok (.getfield 60, 3) := by decide +kernel
theorem dX3_canBeBetter_26 : decode cX3_canBeBetter 26 = .ok (.if_icmp .le 7, 3) := by decide +kernel
theorem dX3_canBeBetter_29 : decode cX3_canBeBetter 29 = .ok (.iconst 1, 1) := by decide +kernel
theorem dX3_canBeBetter_30 : decode cX3_canBeBetter 30 = .ok (.goto 4, 3) := by decide +kernel
theorem dX3_canBeBetter_33 : decode cX3_canBeBetter 33 = .ok (.iconst 0, 1) := by decide +kernel
theorem dX3_canBeBetter_34 : decode cX3_canBeBetter 34 = .ok (.ireturn, 1) := by decide +kernel
theorem dX3_canBeBetter_35 : decode cX3_canBeBetter 35 = .ok (.lload_n 2, 1) := by decide +kernel
theorem dX3_canBeBetter_36 : decode cX3_canBeBetter 36 = .ok (.lstore 5, 2) := by decide +kernel
theorem dX3_canBeBetter_38 : decode cX3_canBeBetter 38 = .ok (.iconst 0, 1) := by decide +kernel
theorem dX3_canBeBetter_39 : decode cX3_canBeBetter 39 = .ok (.istore 7, 2) := by decide +kernel
theorem dX3_canBeBetter_41 : decode cX3_canBeBetter 41 = .ok (.iload 7, 2) := by decide +kernel
theorem dX3_canBeBetter_43 : decode cX3_canBeBetter 43 = .ok (.iload 4, 2) := by decide +kernel
theorem dX3_canBeBetter_45 : decode cX3_canBeBetter 45 = .ok (.if_icmp .ge 19, 3) := by decide +kernel
theorem dX3_canBeBetter_48 : decode cX3_canBeBetter 48 = .ok (.lload 5, 2) := by decide +kernel
theorem dX3_canBeBetter_50 : decode cX3_canBeBetter 50 = .ok (.aload_n 0, 1) := by decide +kernel
theorem dX3_canBeBetter_51 : decode cX3_canBeBetter 51 = .ok (.getfield 57, 3) := by decide +kernel
theorem dX3_canBeBetter_54 : decode cX3_canBeBetter 54 = .ok (.i2l, 1) := by decide +kernel
theorem dX3_canBeBetter_55 : decode cX3_canBeBetter 55 = .ok (.lmul, 1) := by decide +kernel
theorem dX3_canBeBetter_56 : decode cX3_canBeBetter 56 = .ok (.lstore 5, 2) := by decide +kernel
theorem dX3_canBeBetter_58 : decode cX3_canBeBetter 58 = .ok (.iinc 7 1, 3) := by decide +kernel
theorem dX3_canBeBetter_61 : decode cX3_canBeBetter 61 = .ok (.goto (-20), 3) := by decide +kernel
theorem dX3_canBeBetter_64 : decode cX3_canBeBetter 64 = .ok (.lload 5, 2) := by decide +kernel
theorem dX3_canBeBetter_66 : decode cX3_canBeBetter 66 = .ok (.aload_n 0, 1) := by decide +kernel
theorem dX3_canBeBetter_67 : decode cX3_canBeBetter 67 = .ok (.getfield 63, 3) := by decide +kernel
theorem dX3_canBeBetter_70 : decode cX3_canBeBetter 70 = .ok (.lcmp, 1) := by decide +kernel
theorem dX3_canBeBetter_71 : decode cX3_canBeBetter 71 = .ok (.ifCond .le 7, 3) := by decide +kernel
theorem dX3_canBeBetter_74 : decode cX3_canBeBetter 74 = .ok (.iconst 1, 1) := by decide +kernel
theorem dX3_canBeBetter_75 : decode cX3_canBeBetter 75 = .ok (.goto 4, 3) := by decide +kernel
theorem dX3_canBeBetter_78 : decode cX3_canBeBetter 78 = .ok (.iconst 0, 1) := by decide +kernel
theorem dX3_canBeBetter_79 : decode cX3_canBeBetter 79 = .ok (.ireturn, 1) := by decide +kernel
def f_X3_canBeBetter_l41 : am_F := am_th (i_il 7) (am_th (i_il 4) (am_br (b_2 (fun x y => decide (y ≤ x))) (am_to 64) (am_th (i_ll 5) (am_th (i_al 0) (am_th (i_gi 3 5) (am_th (i_i2l) (am_th (j_2 (fun x y => x * y)) (am_th (i_ls 5) (am_th (i_inc 7 (1)) (am_to 41))))))))))
def f_X3_canBeBetter : am_F := am_th (i_al 0) (am_th (i_il 1) (am_th (i_cv 3 1 d_X3_mostGrafts) (am_th (i_is 4) (am_th (i_il 1) (am_th (i_il 4) (am_th (i_2 (fun x y => x + y)) (am_th (i_al 0) (am_th (i_gi 3 8) (am_br (b_2 (fun x y => decide (x = y))) (am_th (i_ll 2) (am_th (i_ls 5) (am_th (i_ic (0)) (am_th (i_is 7) (am_sq 64 (am_lp 5000 41 f_X3_canBeBetter_l41) (am_th (i_ll 5) (am_th (i_al 0) (am_th (i_gl 3 6) (am_th (j_cmp) (am_br (b_1 (fun x => decide (x ≤ 0))) (am_th (i_ic (0)) (r_z)) (am_th (i_ic (1)) (r_z)))))))))))) (am_th (i_il 1) (am_th (i_il 4) (am_th (i_2 (fun x y => x + y)) (am_th (i_al 0) (am_th (i_gi 3 8) (am_br (b_2 (fun x y => decide (x ≤ y))) (am_th (i_ic (0)) (r_z)) (am_th (i_ic (1)) (r_z)))))))))))))))))
def d_X3_canBeBetter : am_D := am_den 8 f_X3_canBeBetter
set_option maxHeartbeats 4000000 in
set_option maxRecDepth 100000 in
theorem b_X3_canBeBetter : am_Body yX3_canBeBetter cX3_canBeBetter 8 (some .boolean) 2 46 f_X3_canBeBetter := by
  intro p l e R s m args below meth c g n0 z0 r0 u0 C hr hn
  have C : am_Cx p l e R s m args below meth c g RX3 cX3_canBeBetter 8 n0 z0 (am_len u0) (am_wt u0) 2 46 := C
  have l41 : am_Snd (am_GM p l e R s m args below meth c g 8 n0 z0 r0 u0) (am_Rt r0 u0) 41 (f_X3_canBeBetter_l41) := by
    unfold f_X3_canBeBetter_l41
    exact (so_th (so_iload C dX3_canBeBetter_41) (so_th (so_iload C dX3_canBeBetter_43) (so_br (so_icmp_ge C dX3_canBeBetter_45 (by decide)) (so_to) (so_th (so_lload C dX3_canBeBetter_48) (so_th (so_aload_n C dX3_canBeBetter_50 rfl) (so_th (so_geti C fl_RX3_57 (by decide) dX3_canBeBetter_51) (so_th (so_i2l C dX3_canBeBetter_54) (so_th (so_lmul C dX3_canBeBetter_55) (so_th (so_lstore C dX3_canBeBetter_56 (by decide)) (so_th (so_iinc C dX3_canBeBetter_58 (by decide) (by decide)) (so_goto C dX3_canBeBetter_61 (by decide) (so_to))))))))))))
  unfold f_X3_canBeBetter
  exact (so_th (so_aload_n C dX3_canBeBetter_0 rfl) (so_th (so_iload_n C dX3_canBeBetter_1 rfl) (so_th (so_cv C m_X3_mostGrafts rfl k_112 k_115 k_114 k_116 k_113 ⟨by decide, by decide, by decide +kernel⟩ (by decide) dX3_canBeBetter_2) (so_th (so_istore C dX3_canBeBetter_5 (by decide)) (so_th (so_iload_n C dX3_canBeBetter_7 rfl) (so_th (so_iload C dX3_canBeBetter_8) (so_th (so_iadd C dX3_canBeBetter_10) (so_th (so_aload_n C dX3_canBeBetter_11 rfl) (so_th (so_geti C fl_RX3_60 (by decide) dX3_canBeBetter_12) (so_br (so_icmp_eq C dX3_canBeBetter_15 (by decide)) (so_th (so_lload_n C dX3_canBeBetter_35 rfl) (so_th (so_lstore C dX3_canBeBetter_36 (by decide)) (so_th (so_iconst C dX3_canBeBetter_38 (by decide)) (so_th (so_istore C dX3_canBeBetter_39 (by decide)) (so_sq (so_lp l41 5000) (so_th (so_lload C dX3_canBeBetter_64) (so_th (so_aload_n C dX3_canBeBetter_66 rfl) (so_th (so_getl C fl_RX3_63 dX3_canBeBetter_67) (so_th (so_lcmp C dX3_canBeBetter_70) (so_br (so_if_le C dX3_canBeBetter_71 (by decide)) (so_th (so_iconst C dX3_canBeBetter_78 (by decide)) (so_rz C hr dX3_canBeBetter_79)) (so_th (so_iconst C dX3_canBeBetter_74 (by decide)) (so_goto C dX3_canBeBetter_75 (by decide) (so_rz C hr dX3_canBeBetter_79))))))))))))) (so_th (so_iload_n C dX3_canBeBetter_18 rfl) (so_th (so_iload C dX3_canBeBetter_19) (so_th (so_iadd C dX3_canBeBetter_21) (so_th (so_aload_n C dX3_canBeBetter_22 rfl) (so_th (so_geti C fl_RX3_60 (by decide) dX3_canBeBetter_23) (so_br (so_icmp_le C dX3_canBeBetter_26 (by decide)) (so_th (so_iconst C dX3_canBeBetter_33 (by decide)) (so_rz C hr dX3_canBeBetter_34)) (so_th (so_iconst C dX3_canBeBetter_29 (by decide)) (so_goto C dX3_canBeBetter_30 (by decide) (so_rz C hr dX3_canBeBetter_34)))))))))))))))))))
theorem m_X3_canBeBetter : am_M yX3_canBeBetter cX3_canBeBetter 8 (some .boolean) 2 46 d_X3_canBeBetter := am_M_of (by decide +kernel) b_X3_canBeBetter
theorem dX3_oddsAt_0 : decode cX3_oddsAt 0 = .ok (.aload_n 0, 1) := by decide +kernel
theorem dX3_oddsAt_1 : decode cX3_oddsAt 1 = .ok (.getfield 9, 3) := by decide +kernel
theorem dX3_oddsAt_4 : decode cX3_oddsAt 4 = .ok (.iload_n 1, 1) := by decide +kernel
theorem dX3_oddsAt_5 : decode cX3_oddsAt 5 = .ok (.iaload, 1) := by decide +kernel
theorem dX3_oddsAt_6 : decode cX3_oddsAt 6 = .ok (.ifCond .eq 28, 3) := by decide +kernel
theorem dX3_oddsAt_9 : decode cX3_oddsAt 9 = .ok (.aload_n 0, 1) := by decide +kernel
theorem dX3_oddsAt_10 : decode cX3_oddsAt 10 = .ok (.getfield 9, 3) := by decide +kernel
theorem dX3_oddsAt_13 : decode cX3_oddsAt 13 = .ok (.iload_n 2, 1) := by decide +kernel
theorem dX3_oddsAt_14 : decode cX3_oddsAt 14 = .ok (.iaload, 1) := by decide +kernel
theorem dX3_oddsAt_15 : decode cX3_oddsAt 15 = .ok (.ifCond .eq 19, 3) := by decide +kernel
theorem dX3_oddsAt_18 : decode cX3_oddsAt 18 = .ok (.aload_n 0, 1) := by decide +kernel
theorem dX3_oddsAt_19 : decode cX3_oddsAt 19 = .ok (.getfield 9, 3) := by decide +kernel
theorem dX3_oddsAt_22 : decode cX3_oddsAt 22 = .ok (.iload_n 1, 1) := by decide +kernel
theorem dX3_oddsAt_23 : decode cX3_oddsAt 23 = .ok (.iaload, 1) := by decide +kernel
theorem dX3_oddsAt_24 : decode cX3_oddsAt 24 = .ok (.aload_n 0, 1) := by decide +kernel
theorem dX3_oddsAt_25 : decode cX3_oddsAt 25 = .ok (.getfield 9, 3) := by decide +kernel
theorem dX3_oddsAt_28 : decode cX3_oddsAt 28 = .ok (.iload_n 2, 1) := by decide +kernel
theorem dX3_oddsAt_29 : decode cX3_oddsAt 29 = .ok (.iaload, 1) := by decide +kernel
theorem dX3_oddsAt_30 : decode cX3_oddsAt 30 = .ok (.iand, 1) := by decide +kernel
theorem dX3_oddsAt_31 : decode cX3_oddsAt 31 = .ok (.ifCond .eq 5, 3) := by decide +kernel
theorem dX3_oddsAt_34 : decode cX3_oddsAt 34 = .ok (.iconst 0, 1) := by decide +kernel
theorem dX3_oddsAt_35 : decode cX3_oddsAt 35 = .ok (.ireturn, 1) := by decide +kernel
theorem dX3_oddsAt_36 : decode cX3_oddsAt 36 = .ok (.aload_n 0, 1) := by decide +kernel
theorem dX3_oddsAt_37 : decode cX3_oddsAt 37 = .ok (.getfield 27, 3) := by decide +kernel
theorem dX3_oddsAt_40 : decode cX3_oddsAt 40 = .ok (.aload_n 0, 1) := by decide +kernel
theorem dX3_oddsAt_41 : decode cX3_oddsAt 41 = .ok (.getfield 15, 3) := by decide +kernel
theorem dX3_oddsAt_44 : decode cX3_oddsAt 44 = .ok (.iload_n 1, 1) := by decide +kernel
theorem dX3_oddsAt_45 : decode cX3_oddsAt 45 = .ok (.iaload, 1) := by decide +kernel
theorem dX3_oddsAt_46 : decode cX3_oddsAt 46 = .ok (.aload_n 0, 1) := by decide +kernel
theorem dX3_oddsAt_47 : decode cX3_oddsAt 47 = .ok (.getfield 15, 3) := by decide +kernel
theorem dX3_oddsAt_50 : decode cX3_oddsAt 50 = .ok (.iload_n 2, 1) := by decide +kernel
theorem dX3_oddsAt_51 : decode cX3_oddsAt 51 = .ok (.iaload, 1) := by decide +kernel
theorem dX3_oddsAt_52 : decode cX3_oddsAt 52 = .ok (.invokevirtual 53, 3) := by decide +kernel
theorem dX3_oddsAt_55 : decode cX3_oddsAt 55 = .ok (.ireturn, 1) := by decide +kernel
def f_X3_oddsAt : am_F := am_th (i_al 0) (am_th (i_gr 3 0) (am_th (i_il 1) (am_th (i_ia 0) (am_br (b_1 (fun x => decide (x = 0))) (am_th (i_ic (0)) (r_i)) (am_th (i_al 0) (am_th (i_gr 3 0) (am_th (i_il 2) (am_th (i_ia 0) (am_br (b_1 (fun x => decide (x = 0))) (am_th (i_ic (0)) (r_i)) (am_th (i_al 0) (am_th (i_gr 3 0) (am_th (i_il 1) (am_th (i_ia 0) (am_th (i_al 0) (am_th (i_gr 3 0) (am_th (i_il 2) (am_th (i_ia 0) (am_th (i_2 (fun x y => x &&& y)) (am_br (b_1 (fun x => decide (x = 0))) (am_th (i_al 0) (am_th (i_gr 3 4) (am_th (i_al 0) (am_th (i_gr 3 1) (am_th (i_il 1) (am_th (i_ia 0) (am_th (i_al 0) (am_th (i_gr 3 1) (am_th (i_il 2) (am_th (i_ia 0) (am_th (i_cv 5 2 d_X5_greatestOdds) (r_i)))))))))))) (am_th (i_ic (0)) (r_i)))))))))))))))))))))
def d_X3_oddsAt : am_D := am_den 3 f_X3_oddsAt
set_option maxHeartbeats 4000000 in
set_option maxRecDepth 100000 in
theorem b_X3_oddsAt : am_Body yX3_oddsAt cX3_oddsAt 3 (some .int) 2 45 f_X3_oddsAt := by
  intro p l e R s m args below meth c g n0 z0 r0 u0 C hr hn
  have C : am_Cx p l e R s m args below meth c g RX3 cX3_oddsAt 3 n0 z0 (am_len u0) (am_wt u0) 2 45 := C
  unfold f_X3_oddsAt
  exact (so_th (so_aload_n C dX3_oddsAt_0 rfl) (so_th (so_getr C fl_RX3_9 dX3_oddsAt_1) (so_th (so_iload_n C dX3_oddsAt_4 rfl) (so_th (so_iald C dX3_oddsAt_5) (so_br (so_if_eq C dX3_oddsAt_6 (by decide)) (so_th (so_iconst C dX3_oddsAt_34 (by decide)) (so_ri C hr dX3_oddsAt_35)) (so_th (so_aload_n C dX3_oddsAt_9 rfl) (so_th (so_getr C fl_RX3_9 dX3_oddsAt_10) (so_th (so_iload_n C dX3_oddsAt_13 rfl) (so_th (so_iald C dX3_oddsAt_14) (so_br (so_if_eq C dX3_oddsAt_15 (by decide)) (so_th (so_iconst C dX3_oddsAt_34 (by decide)) (so_ri C hr dX3_oddsAt_35)) (so_th (so_aload_n C dX3_oddsAt_18 rfl) (so_th (so_getr C fl_RX3_9 dX3_oddsAt_19) (so_th (so_iload_n C dX3_oddsAt_22 rfl) (so_th (so_iald C dX3_oddsAt_23) (so_th (so_aload_n C dX3_oddsAt_24 rfl) (so_th (so_getr C fl_RX3_9 dX3_oddsAt_25) (so_th (so_iload_n C dX3_oddsAt_28 rfl) (so_th (so_iald C dX3_oddsAt_29) (so_th (so_iand C dX3_oddsAt_30) (so_br (so_if_eq C dX3_oddsAt_31 (by decide)) (so_th (so_aload_n C dX3_oddsAt_36 rfl) (so_th (so_getr C fl_RX3_27 dX3_oddsAt_37) (so_th (so_aload_n C dX3_oddsAt_40 rfl) (so_th (so_getr C fl_RX3_15 dX3_oddsAt_41) (so_th (so_iload_n C dX3_oddsAt_44 rfl) (so_th (so_iald C dX3_oddsAt_45) (so_th (so_aload_n C dX3_oddsAt_46 rfl) (so_th (so_getr C fl_RX3_15 dX3_oddsAt_47) (so_th (so_iload_n C dX3_oddsAt_50 rfl) (so_th (so_iald C dX3_oddsAt_51) (so_th (so_cv C m_X5_greatestOdds rfl k_75 k_117 k_76 k_78 k_8 ⟨by decide, by decide, by decide +kernel⟩ (by decide) dX3_oddsAt_52) (so_ri C hr dX3_oddsAt_55)))))))))))) (so_th (so_iconst C dX3_oddsAt_34 (by decide)) (so_ri C hr dX3_oddsAt_35))))))))))))))))))))))
theorem m_X3_oddsAt : am_M yX3_oddsAt cX3_oddsAt 3 (some .int) 2 45 d_X3_oddsAt := am_M_of (by decide +kernel) b_X3_oddsAt
theorem dX3_joinAbove_0 : decode cX3_joinAbove 0 = .ok (.iload_n 1, 1) := by decide +kernel
theorem dX3_joinAbove_1 : decode cX3_joinAbove 1 = .ok (.bipush 6, 2) := by decide +kernel
theorem dX3_joinAbove_3 : decode cX3_joinAbove 3 = .ok (.imul, 1) := by decide +kernel
theorem dX3_joinAbove_4 : decode cX3_joinAbove 4 = .ok (.istore 4, 2) := by decide +kernel
theorem dX3_joinAbove_6 : decode cX3_joinAbove 6 = .ok (.iload 4, 2) := by decide +kernel
theorem dX3_joinAbove_8 : decode cX3_joinAbove 8 = .ok (.bipush 6, 2) := by decide +kernel
theorem dX3_joinAbove_10 : decode cX3_joinAbove 10 = .ok (.iadd, 1) := by decide +kernel
theorem dX3_joinAbove_11 : decode cX3_joinAbove 11 = .ok (.istore 5, 2) := by decide +kernel
theorem dX3_joinAbove_13 : decode cX3_joinAbove 13 = .ok (.iconst 0, 1) := by decide +kernel
theorem dX3_joinAbove_14 : decode cX3_joinAbove 14 = .ok (.istore 6, 2) := by decide +kernel
theorem dX3_joinAbove_16 : decode cX3_joinAbove 16 = .ok (.iload 6, 2) := by decide +kernel
theorem dX3_joinAbove_18 : decode cX3_joinAbove 18 = .ok (.bipush 6, 2) := by decide +kernel
theorem dX3_joinAbove_20 : decode cX3_joinAbove 20 = .ok (.if_icmp .ge 69, 3) := by decide +kernel
theorem dX3_joinAbove_23 : decode cX3_joinAbove 23 = .ok (.aload_n 0, 1) := by decide +kernel
theorem dX3_joinAbove_24 : decode cX3_joinAbove 24 = .ok (.getfield 9, 3) := by decide +kernel
theorem dX3_joinAbove_27 : decode cX3_joinAbove 27 = .ok (.iload 5, 2) := by decide +kernel
theorem dX3_joinAbove_29 : decode cX3_joinAbove 29 = .ok (.iload 6, 2) := by decide +kernel
theorem dX3_joinAbove_31 : decode cX3_joinAbove 31 = .ok (.iadd, 1) := by decide +kernel
theorem dX3_joinAbove_32 : decode cX3_joinAbove 32 = .ok (.iload 6, 2) := by decide +kernel
theorem dX3_joinAbove_34 : decode cX3_joinAbove 34 = .ok (.iload_n 2, 1) := by decide +kernel
theorem dX3_joinAbove_35 : decode cX3_joinAbove 35 = .ok (.if_icmp .ne 7, 3) := by decide +kernel
theorem dX3_joinAbove_38 : decode cX3_joinAbove 38 = .ok (.iconst 0, 1) := by decide +kernel
theorem dX3_joinAbove_39 : decode cX3_joinAbove 39 = .ok (.goto 13, 3) := by decide +kernel
theorem dX3_joinAbove_42 : decode cX3_joinAbove 42 = .ok (.aload_n 0, 1) := by decide +kernel
theorem dX3_joinAbove_43 : decode cX3_joinAbove 43 = .ok (.getfield 9, 3) := by decide +kernel
theorem dX3_joinAbove_46 : decode cX3_joinAbove 46 = .ok (.iload 4, 2) := by decide +kernel
theorem dX3_joinAbove_48 : decode cX3_joinAbove 48 = .ok (.iload 6, 2) := by decide +kernel
theorem dX3_joinAbove_50 : decode cX3_joinAbove 50 = .ok (.iadd, 1) := by decide +kernel
theorem dX3_joinAbove_51 : decode cX3_joinAbove 51 = .ok (.iaload, 1) := by decide +kernel
theorem dX3_joinAbove_52 : decode cX3_joinAbove 52 = .ok (.iastore, 1) := by decide +kernel
theorem dX3_joinAbove_53 : decode cX3_joinAbove 53 = .ok (.aload_n 0, 1) := by decide +kernel
theorem dX3_joinAbove_54 : decode cX3_joinAbove 54 = .ok (.getfield 15, 3) := by decide +kernel
theorem dX3_joinAbove_57 : decode cX3_joinAbove 57 = .ok (.iload 5, 2) := by decide +kernel
theorem dX3_joinAbove_59 : decode cX3_joinAbove 59 = .ok (.iload 6, 2) := by decide +kernel
theorem dX3_joinAbove_61 : decode cX3_joinAbove 61 = .ok (.iadd, 1) := by decide +kernel
theorem dX3_joinAbove_62 : decode cX3_joinAbove 62 = .ok (.iload 6, 2) := by decide +kernel
theorem dX3_joinAbove_64 : decode cX3_joinAbove 64 = .ok (.iload_n 2, 1) := by decide +kernel
theorem dX3_joinAbove_65 : decode cX3_joinAbove 65 = .ok (.if_icmp .ne 7, 3) := by decide +kernel
theorem dX3_joinAbove_68 : decode cX3_joinAbove 68 = .ok (.iconst 0, 1) := by decide +kernel
theorem dX3_joinAbove_69 : decode cX3_joinAbove 69 = .ok (.goto 13, 3) := by decide +kernel
theorem dX3_joinAbove_72 : decode cX3_joinAbove 72 = .ok (.aload_n 0, 1) := by decide +kernel
theorem dX3_joinAbove_73 : decode cX3_joinAbove 73 = .ok (.getfield 15, 3) := by decide +kernel
theorem dX3_joinAbove_76 : decode cX3_joinAbove 76 = .ok (.iload 4, 2) := by decide +kernel
theorem dX3_joinAbove_78 : decode cX3_joinAbove 78 = .ok (.iload 6, 2) := by decide +kernel
theorem dX3_joinAbove_80 : decode cX3_joinAbove 80 = .ok (.iadd, 1) := by decide +kernel
theorem dX3_joinAbove_81 : decode cX3_joinAbove 81 = .ok (.iaload, 1) := by decide +kernel
theorem dX3_joinAbove_82 : decode cX3_joinAbove 82 = .ok (.iastore, 1) := by decide +kernel
theorem dX3_joinAbove_83 : decode cX3_joinAbove 83 = .ok (.iinc 6 1, 3) := by decide +kernel
theorem dX3_joinAbove_86 : decode cX3_joinAbove 86 = .ok (.goto (-70), 3) := by decide +kernel
theorem dX3_joinAbove_89 : decode cX3_joinAbove 89 = .ok (.aload_n 0, 1) := by decide +kernel
theorem dX3_joinAbove_90 : decode cX3_joinAbove 90 = .ok (.getfield 9, 3) := by decide +kernel
theorem dX3_joinAbove_93 : decode cX3_joinAbove 93 = .ok (.iload 5, 2) := by decide +kernel
theorem dX3_joinAbove_95 : decode cX3_joinAbove 95 = .ok (.iload_n 3, 1) := by decide +kernel
theorem dX3_joinAbove_96 : decode cX3_joinAbove 96 = .ok (.iadd, 1) := by decide +kernel
theorem dX3_joinAbove_97 : decode cX3_joinAbove 97 = .ok (.dup2, 1) := by decide +kernel
theorem dX3_joinAbove_98 : decode cX3_joinAbove 98 = .ok (.iaload, 1) := by decide +kernel
theorem dX3_joinAbove_99 : decode cX3_joinAbove 99 = .ok (.aload_n 0, 1) := by decide +kernel
theorem dX3_joinAbove_100 : decode cX3_joinAbove 100 = .ok (.getfield 9, 3) := by decide +kernel
theorem dX3_joinAbove_103 : decode cX3_joinAbove 103 = .ok (.iload 4, 2) := by decide +kernel
theorem dX3_joinAbove_105 : decode cX3_joinAbove 105 = .ok (.iload_n 2, 1) := by decide +kernel
theorem dX3_joinAbove_106 : decode cX3_joinAbove 106 = .ok (.iadd, 1) := by decide +kernel
theorem dX3_joinAbove_107 : decode cX3_joinAbove 107 = .ok (.iaload, 1) := by decide +kernel
theorem dX3_joinAbove_108 : decode cX3_joinAbove 108 = .ok (.ior, 1) := by decide +kernel
theorem dX3_joinAbove_109 : decode cX3_joinAbove 109 = .ok (.iastore, 1) := by decide +kernel
theorem dX3_joinAbove_110 : decode cX3_joinAbove 110 = .ok (.aload_n 0, 1) := by decide +kernel
theorem dX3_joinAbove_111 : decode cX3_joinAbove 111 = .ok (.getfield 15, 3) := by decide +kernel
theorem dX3_joinAbove_114 : decode cX3_joinAbove 114 = .ok (.iload 5, 2) := by decide +kernel
theorem dX3_joinAbove_116 : decode cX3_joinAbove 116 = .ok (.iload_n 3, 1) := by decide +kernel
theorem dX3_joinAbove_117 : decode cX3_joinAbove 117 = .ok (.iadd, 1) := by decide +kernel
theorem dX3_joinAbove_118 : decode cX3_joinAbove 118 = .ok (.dup2, 1) := by decide +kernel
theorem dX3_joinAbove_119 : decode cX3_joinAbove 119 = .ok (.iaload, 1) := by decide +kernel
theorem dX3_joinAbove_120 : decode cX3_joinAbove 120 = .ok (.aload_n 0, 1) := by decide +kernel
theorem dX3_joinAbove_121 : decode cX3_joinAbove 121 = .ok (.getfield 15, 3) := by decide +kernel
theorem dX3_joinAbove_124 : decode cX3_joinAbove 124 = .ok (.iload 4, 2) := by decide +kernel
theorem dX3_joinAbove_126 : decode cX3_joinAbove 126 = .ok (.iload_n 2, 1) := by decide +kernel
theorem dX3_joinAbove_127 : decode cX3_joinAbove 127 = .ok (.iadd, 1) := by decide +kernel
theorem dX3_joinAbove_128 : decode cX3_joinAbove 128 = .ok (.iaload, 1) := by decide +kernel
theorem dX3_joinAbove_129 : decode cX3_joinAbove 129 = .ok (.ior, 1) := by decide +kernel
theorem dX3_joinAbove_130 : decode cX3_joinAbove 130 = .ok (.iastore, 1) := by decide +kernel
theorem dX3_joinAbove_131 : decode cX3_joinAbove 131 = .ok (.return_, 1) := by decide +kernel
def f_X3_joinAbove_l16 : am_F := am_th (i_il 6) (am_th (i_ic (6)) (am_br (b_2 (fun x y => decide (y ≤ x))) (am_to 89) (am_th (i_al 0) (am_th (i_gr 3 0) (am_th (i_il 5) (am_th (i_il 6) (am_th (i_2 (fun x y => x + y)) (am_th (i_il 6) (am_th (i_il 2) (am_sq 52 (am_br (b_2 (fun x y => decide (¬ x = y))) (am_th (i_al 0) (am_th (i_gr 3 0) (am_th (i_il 4) (am_th (i_il 6) (am_th (i_2 (fun x y => x + y)) (am_th (i_ia 0) (am_to 52))))))) (am_th (i_ic (0)) (am_to 52))) (am_th (i_iS) (am_th (i_al 0) (am_th (i_gr 3 1) (am_th (i_il 5) (am_th (i_il 6) (am_th (i_2 (fun x y => x + y)) (am_th (i_il 6) (am_th (i_il 2) (am_sq 82 (am_br (b_2 (fun x y => decide (¬ x = y))) (am_th (i_al 0) (am_th (i_gr 3 1) (am_th (i_il 4) (am_th (i_il 6) (am_th (i_2 (fun x y => x + y)) (am_th (i_ia 0) (am_to 82))))))) (am_th (i_ic (0)) (am_to 82))) (am_th (i_iS) (am_th (i_inc 6 (1)) (am_to 16))))))))))))))))))))))
def f_X3_joinAbove : am_F := am_th (i_il 1) (am_th (i_ic (6)) (am_th (i_2 (fun x y => x * y)) (am_th (i_is 4) (am_th (i_il 4) (am_th (i_ic (6)) (am_th (i_2 (fun x y => x + y)) (am_th (i_is 5) (am_th (i_ic (0)) (am_th (i_is 6) (am_sq 89 (am_lp 5000 16 f_X3_joinAbove_l16) (am_th (i_al 0) (am_th (i_gr 3 0) (am_th (i_il 5) (am_th (i_il 3) (am_th (i_2 (fun x y => x + y)) (am_th (i_dup2) (am_th (i_ia 0) (am_th (i_al 0) (am_th (i_gr 3 0) (am_th (i_il 4) (am_th (i_il 2) (am_th (i_2 (fun x y => x + y)) (am_th (i_ia 0) (am_th (i_2 (fun x y => x ||| y)) (am_th (i_iS) (am_th (i_al 0) (am_th (i_gr 3 1) (am_th (i_il 5) (am_th (i_il 3) (am_th (i_2 (fun x y => x + y)) (am_th (i_dup2) (am_th (i_ia 0) (am_th (i_al 0) (am_th (i_gr 3 1) (am_th (i_il 4) (am_th (i_il 2) (am_th (i_2 (fun x y => x + y)) (am_th (i_ia 0) (am_th (i_2 (fun x y => x ||| y)) (am_th (i_iS) (r_v)))))))))))))))))))))))))))))))))))))))))
def d_X3_joinAbove : am_D := am_den 7 f_X3_joinAbove
set_option maxHeartbeats 4000000 in
set_option maxRecDepth 100000 in
theorem b_X3_joinAbove : am_Body yX3_joinAbove cX3_joinAbove 7 none 0 0 f_X3_joinAbove := by
  intro p l e R s m args below meth c g n0 z0 r0 u0 C hr hn
  have C : am_Cx p l e R s m args below meth c g RX3 cX3_joinAbove 7 n0 z0 (am_len u0) (am_wt u0) 0 0 := C
  have l16 : am_Snd (am_GM p l e R s m args below meth c g 7 n0 z0 r0 u0) (am_Rt r0 u0) 16 (f_X3_joinAbove_l16) := by
    unfold f_X3_joinAbove_l16
    exact (so_th (so_iload C dX3_joinAbove_16) (so_th (so_bipush C dX3_joinAbove_18 (by decide)) (so_br (so_icmp_ge C dX3_joinAbove_20 (by decide)) (so_to) (so_th (so_aload_n C dX3_joinAbove_23 rfl) (so_th (so_getr C fl_RX3_9 dX3_joinAbove_24) (so_th (so_iload C dX3_joinAbove_27) (so_th (so_iload C dX3_joinAbove_29) (so_th (so_iadd C dX3_joinAbove_31) (so_th (so_iload C dX3_joinAbove_32) (so_th (so_iload_n C dX3_joinAbove_34 rfl) (so_sq (so_br (so_icmp_ne C dX3_joinAbove_35 (by decide)) (so_th (so_aload_n C dX3_joinAbove_42 rfl) (so_th (so_getr C fl_RX3_9 dX3_joinAbove_43) (so_th (so_iload C dX3_joinAbove_46) (so_th (so_iload C dX3_joinAbove_48) (so_th (so_iadd C dX3_joinAbove_50) (so_th (so_iald C dX3_joinAbove_51) (so_to))))))) (so_th (so_iconst C dX3_joinAbove_38 (by decide)) (so_goto C dX3_joinAbove_39 (by decide) (so_to)))) (so_th (so_iast C dX3_joinAbove_52) (so_th (so_aload_n C dX3_joinAbove_53 rfl) (so_th (so_getr C fl_RX3_15 dX3_joinAbove_54) (so_th (so_iload C dX3_joinAbove_57) (so_th (so_iload C dX3_joinAbove_59) (so_th (so_iadd C dX3_joinAbove_61) (so_th (so_iload C dX3_joinAbove_62) (so_th (so_iload_n C dX3_joinAbove_64 rfl) (so_sq (so_br (so_icmp_ne C dX3_joinAbove_65 (by decide)) (so_th (so_aload_n C dX3_joinAbove_72 rfl) (so_th (so_getr C fl_RX3_15 dX3_joinAbove_73) (so_th (so_iload C dX3_joinAbove_76) (so_th (so_iload C dX3_joinAbove_78) (so_th (so_iadd C dX3_joinAbove_80) (so_th (so_iald C dX3_joinAbove_81) (so_to))))))) (so_th (so_iconst C dX3_joinAbove_68 (by decide)) (so_goto C dX3_joinAbove_69 (by decide) (so_to)))) (so_th (so_iast C dX3_joinAbove_82) (so_th (so_iinc C dX3_joinAbove_83 (by decide) (by decide)) (so_goto C dX3_joinAbove_86 (by decide) (so_to))))))))))))))))))))))))
  unfold f_X3_joinAbove
  exact (so_th (so_iload_n C dX3_joinAbove_0 rfl) (so_th (so_bipush C dX3_joinAbove_1 (by decide)) (so_th (so_imul C dX3_joinAbove_3) (so_th (so_istore C dX3_joinAbove_4 (by decide)) (so_th (so_iload C dX3_joinAbove_6) (so_th (so_bipush C dX3_joinAbove_8 (by decide)) (so_th (so_iadd C dX3_joinAbove_10) (so_th (so_istore C dX3_joinAbove_11 (by decide)) (so_th (so_iconst C dX3_joinAbove_13 (by decide)) (so_th (so_istore C dX3_joinAbove_14 (by decide)) (so_sq (so_lp l16 5000) (so_th (so_aload_n C dX3_joinAbove_89 rfl) (so_th (so_getr C fl_RX3_9 dX3_joinAbove_90) (so_th (so_iload C dX3_joinAbove_93) (so_th (so_iload_n C dX3_joinAbove_95 rfl) (so_th (so_iadd C dX3_joinAbove_96) (so_th (so_dup2 C dX3_joinAbove_97) (so_th (so_iald C dX3_joinAbove_98) (so_th (so_aload_n C dX3_joinAbove_99 rfl) (so_th (so_getr C fl_RX3_9 dX3_joinAbove_100) (so_th (so_iload C dX3_joinAbove_103) (so_th (so_iload_n C dX3_joinAbove_105 rfl) (so_th (so_iadd C dX3_joinAbove_106) (so_th (so_iald C dX3_joinAbove_107) (so_th (so_ior C dX3_joinAbove_108) (so_th (so_iast C dX3_joinAbove_109) (so_th (so_aload_n C dX3_joinAbove_110 rfl) (so_th (so_getr C fl_RX3_15 dX3_joinAbove_111) (so_th (so_iload C dX3_joinAbove_114) (so_th (so_iload_n C dX3_joinAbove_116 rfl) (so_th (so_iadd C dX3_joinAbove_117) (so_th (so_dup2 C dX3_joinAbove_118) (so_th (so_iald C dX3_joinAbove_119) (so_th (so_aload_n C dX3_joinAbove_120 rfl) (so_th (so_getr C fl_RX3_15 dX3_joinAbove_121) (so_th (so_iload C dX3_joinAbove_124) (so_th (so_iload_n C dX3_joinAbove_126 rfl) (so_th (so_iadd C dX3_joinAbove_127) (so_th (so_iald C dX3_joinAbove_128) (so_th (so_ior C dX3_joinAbove_129) (so_th (so_iast C dX3_joinAbove_130) (so_rv C hr dX3_joinAbove_131))))))))))))))))))))))))))))))))))))))))))
theorem m_X3_joinAbove : am_M yX3_joinAbove cX3_joinAbove 7 none 0 0 d_X3_joinAbove := am_M_of (by decide +kernel) b_X3_joinAbove
theorem dX3_goOn_0 : decode cX3_goOn 0 = .ok (.iload_n 1, 1) := by decide +kernel
theorem dX3_goOn_1 : decode cX3_goOn 1 = .ok (.aload_n 0, 1) := by decide +kernel
theorem dX3_goOn_2 : decode cX3_goOn 2 = .ok (.getfield 60, 3) := by decide +kernel
theorem dX3_goOn_5 : decode cX3_goOn 5 = .ok (.if_icmp .gt 20, 3) := by decide +kernel
theorem dX3_goOn_8 : decode cX3_goOn 8 = .ok (.iload_n 1, 1) := by decide +kernel
theorem dX3_goOn_9 : decode cX3_goOn 9 = .ok (.aload_n 0, 1) := by decide +kernel
theorem dX3_goOn_10 : decode cX3_goOn 10 = .ok (.getfield 60, 3) := by decide +kernel
theorem dX3_goOn_13 : decode cX3_goOn 13 = .ok (.if_icmp .ne 18, 3) := by decide +kernel
theorem dX3_goOn_16 : decode cX3_goOn 16 = .ok (.lload_n 2, 1) := by decide +kernel
theorem dX3_goOn_17 : decode cX3_goOn 17 = .ok (.aload_n 0, 1) := by decide +kernel
theorem dX3_goOn_18 : decode cX3_goOn 18 = .ok (.getfield 63, 3) := by decide +kernel
theorem dX3_goOn_21 : decode cX3_goOn 21 = .ok (.lcmp, 1) := by decide +kernel
theorem dX3_goOn_22 : decode cX3_goOn 22 = .ok (.ifCond .le 9, 3) := by decide +kernel
theorem dX3_goOn_25 : decode cX3_goOn 25 = .ok (.aload_n 0, 1) := by decide +kernel
theorem dX3_goOn_26 : decode cX3_goOn 26 = .ok (.iload_n 1, 1) := by decide +kernel
theorem dX3_goOn_27 : decode cX3_goOn 27 = .ok (.lload_n 2, 1) := by decide +kernel
theorem dX3_goOn_28 : decode cX3_goOn 28 = .ok (.invokevirtual 71, 3) := by decide +kernel
theorem dX3_goOn_31 : decode cX3_goOn 31 = .ok (.iload_n 1, 1) := by decide +kernel
theorem dX3_goOn_32 : decode cX3_goOn 32 = .ok (.bipush 6, 2) := by decide +kernel
theorem dX3_goOn_34 : decode cX3_goOn 34 = .ok (.if_icmp .ge 12, 3) := by decide +kernel
theorem dX3_goOn_37 : decode cX3_goOn 37 = .ok (.aload_n 0, 1) := by decide +kernel
theorem dX3_goOn_38 : decode cX3_goOn 38 = .ok (.iload_n 1, 1) := by decide +kernel
theorem dX3_goOn_39 : decode cX3_goOn 39 = .ok (.lload_n 2, 1) := by decide +kernel
theorem dX3_goOn_40 : decode cX3_goOn 40 = .ok (.invokevirtual 74, 3) := by decide +kernel
theorem dX3_goOn_43 : decode cX3_goOn 43 = .ok (.ifCond .ne 4, 3) := by decide +kernel
theorem dX3_goOn_46 : decode cX3_goOn 46 = .ok (.return_, 1) := by decide +kernel
theorem dX3_goOn_47 : decode cX3_goOn 47 = .ok (.iconst 0, 1) := by decide +kernel
theorem dX3_goOn_48 : decode cX3_goOn 48 = .ok (.istore 4, 2) := by decide +kernel
theorem dX3_goOn_50 : decode cX3_goOn 50 = .ok (.iload 4, 2) := by decide +kernel
theorem dX3_goOn_52 : decode cX3_goOn 52 = .ok (.bipush 6, 2) := by decide +kernel
theorem dX3_goOn_54 : decode cX3_goOn 54 = .ok (.if_icmp .ge 93, 3) := by decide +kernel
theorem dX3_goOn_57 : decode cX3_goOn 57 = .ok (.iconst 0, 1) := by decide +kernel
theorem dX3_goOn_58 : decode cX3_goOn 58 = .ok (.istore 5, 2) := by decide +kernel
theorem dX3_goOn_60 : decode cX3_goOn 60 = .ok (.iload 5, 2) := by decide +kernel
theorem dX3_goOn_62 : decode cX3_goOn 62 = .ok (.bipush 6, 2) := by decide +kernel
theorem dX3_goOn_64 : decode cX3_goOn 64 = .ok (.if_icmp .ge 77, 3) := by decide +kernel
theorem dX3_goOn_67 : decode cX3_goOn 67 = .ok (.aload_n 0, 1) := by decide +kernel
theorem dX3_goOn_68 : decode cX3_goOn 68 = .ok (.iload_n 1, 1) := by decide +kernel
theorem dX3_goOn_69 : decode cX3_goOn 69 = .ok (.bipush 6, 2) := by decide +kernel
theorem dX3_goOn_71 : decode cX3_goOn 71 = .ok (.imul, 1) := by decide +kernel
theorem dX3_goOn_72 : decode cX3_goOn 72 = .ok (.iload 4, 2) := by decide +kernel
theorem dX3_goOn_74 : decode cX3_goOn 74 = .ok (.iadd, 1) := by decide +kernel
theorem dX3_goOn_75 : decode cX3_goOn 75 = .ok (.iload_n 1, 1) := by decide +kernel
theorem dX3_goOn_76 : decode cX3_goOn 76 = .ok (.bipush 6, 2) := by decide +kernel
theorem dX3_goOn_78 : decode cX3_goOn 78 = .ok (.imul, 1) := by decide +kernel
theorem dX3_goOn_79 : decode cX3_goOn 79 = .ok (.iload 5, 2) := by decide +kernel
theorem dX3_goOn_81 : decode cX3_goOn 81 = .ok (.iadd, 1) := by decide +kernel
theorem dX3_goOn_82 : decode cX3_goOn 82 = .ok (.invokevirtual 78, 3) := by decide +kernel
theorem dX3_goOn_85 : decode cX3_goOn 85 = .ok (.istore 6, 2) := by decide +kernel
theorem dX3_goOn_87 : decode cX3_goOn 87 = .ok (.iload 6, 2) := by decide +kernel
theorem dX3_goOn_89 : decode cX3_goOn 89 = .ok (.ifCond .le 46, 3) := by decide +kernel
theorem dX3_goOn_92 : decode cX3_goOn 92 = .ok (.aload_n 0, 1) := by decide +kernel
theorem dX3_goOn_93 : decode cX3_goOn 93 = .ok (.getfield 18, 3) := by decide +kernel
theorem dX3_goOn_96 : decode cX3_goOn 96 = .ok (.iload_n 1, 1) := by decide +kernel
theorem dX3_goOn_97 : decode cX3_goOn 97 = .ok (.bipush 10, 2) := by decide +kernel
theorem dX3_goOn_99 : decode cX3_goOn 99 = .ok (.iload 4, 2) := by decide +kernel
theorem dX3_goOn_101 : decode cX3_goOn 101 = .ok (.imul, 1) := by decide +kernel
theorem dX3_goOn_102 : decode cX3_goOn 102 = .ok (.iload 5, 2) := by decide +kernel
theorem dX3_goOn_104 : decode cX3_goOn 104 = .ok (.iadd, 1) := by decide +kernel
theorem dX3_goOn_105 : decode cX3_goOn 105 = .ok (.iastore, 1) := by decide +kernel
theorem dX3_goOn_106 : decode cX3_goOn 106 = .ok (.aload_n 0, 1) := by decide +kernel
theorem dX3_goOn_107 : decode cX3_goOn 107 = .ok (.getfield 21, 3) := by decide +kernel
theorem dX3_goOn_110 : decode cX3_goOn 110 = .ok (.iload_n 1, 1) := by decide +kernel
theorem dX3_goOn_111 : decode cX3_goOn 111 = .ok (.iload 6, 2) := by decide +kernel
theorem dX3_goOn_113 : decode cX3_goOn 113 = .ok (.iastore, 1) := by decide +kernel
theorem dX3_goOn_114 : decode cX3_goOn 114 = .ok (.aload_n 0, 1) := by decide +kernel
theorem dX3_goOn_115 : decode cX3_goOn 115 = .ok (.iload_n 1, 1) := by decide +kernel
theorem dX3_goOn_116 : decode cX3_goOn 116 = .ok (.iload 4, 2) := by decide +kernel
theorem dX3_goOn_118 : decode cX3_goOn 118 = .ok (.iload 5, 2) := by decide +kernel
theorem dX3_goOn_120 : decode cX3_goOn 120 = .ok (.invokevirtual 81, 3) := by decide +kernel
theorem dX3_goOn_123 : decode cX3_goOn 123 = .ok (.aload_n 0, 1) := by decide +kernel
theorem dX3_goOn_124 : decode cX3_goOn 124 = .ok (.iload_n 1, 1) := by decide +kernel
theorem dX3_goOn_125 : decode cX3_goOn 125 = .ok (.iconst 1, 1) := by decide +kernel
theorem dX3_goOn_126 : decode cX3_goOn 126 = .ok (.iadd, 1) := by decide +kernel
theorem dX3_goOn_127 : decode cX3_goOn 127 = .ok (.lload_n 2, 1) := by decide +kernel
theorem dX3_goOn_128 : decode cX3_goOn 128 = .ok (.iload 6, 2) := by decide +kernel
theorem dX3_goOn_130 : decode cX3_goOn 130 = .ok (.i2l, 1) := by decide +kernel
theorem dX3_goOn_131 : decode cX3_goOn 131 = .ok (.lmul, 1) := by decide +kernel
theorem dX3_goOn_132 : decode cX3_goOn 132 = .ok (.invokevirtual 67, 3) := by decide +kernel
theorem dX3_goOn_135 : decode cX3_goOn 135 = .ok (.iinc 5 1, 3) := by decide +kernel
theorem dX3_goOn_138 : decode cX3_goOn 138 = .ok (.goto (-78), 3) := by decide +kernel
theorem dX3_goOn_141 : decode cX3_goOn 141 = .ok (.iinc 4 1, 3) := by decide +kernel
theorem dX3_goOn_144 : decode cX3_goOn 144 = .ok (.goto (-94), 3) := by decide +kernel
theorem dX3_goOn_147 : decode cX3_goOn 147 = .ok (.return_, 1) := by decide +kernel
def f_X3_goOn_l60 (ds : am_D) : am_F := am_th (i_il 5) (am_th (i_ic (6)) (am_br (b_2 (fun x y => decide (y ≤ x))) (am_th (i_inc 4 (1)) (am_to 50)) (am_th (i_al 0) (am_th (i_il 1) (am_th (i_ic (6)) (am_th (i_2 (fun x y => x * y)) (am_th (i_il 4) (am_th (i_2 (fun x y => x + y)) (am_th (i_il 1) (am_th (i_ic (6)) (am_th (i_2 (fun x y => x * y)) (am_th (i_il 5) (am_th (i_2 (fun x y => x + y)) (am_th (i_cv 3 2 d_X3_oddsAt) (am_th (i_is 6) (am_th (i_il 6) (am_sq 135 (am_br (b_1 (fun x => decide (x ≤ 0))) (am_to 135) (am_th (i_al 0) (am_th (i_gr 3 2) (am_th (i_il 1) (am_th (i_ic (10)) (am_th (i_il 4) (am_th (i_2 (fun x y => x * y)) (am_th (i_il 5) (am_th (i_2 (fun x y => x + y)) (am_th (i_iS) (am_th (i_al 0) (am_th (i_gr 3 3) (am_th (i_il 1) (am_th (i_il 6) (am_th (i_iS) (am_th (i_al 0) (am_th (i_il 1) (am_th (i_il 4) (am_th (i_il 5) (am_th (i_cv 3 3 d_X3_joinAbove) (am_th (i_al 0) (am_th (i_il 1) (am_th (i_ic (1)) (am_th (i_2 (fun x y => x + y)) (am_th (i_ll 2) (am_th (i_il 6) (am_th (i_i2l) (am_th (j_2 (fun x y => x * y)) (am_th (i_cv 3 2 ds) (am_to 135)))))))))))))))))))))))))))))) (am_th (i_inc 5 (1)) (am_to 60)))))))))))))))))))
def f_X3_goOn_l50 (ds : am_D) : am_F := am_th (i_il 4) (am_th (i_ic (6)) (am_br (b_2 (fun x y => decide (y ≤ x))) (am_to 147) (am_th (i_ic (0)) (am_th (i_is 5) (am_lp 5000 60 (f_X3_goOn_l60 ds))))))
def f_X3_goOn (ds : am_D) : am_F := am_th (i_il 1) (am_th (i_al 0) (am_th (i_gi 3 8) (am_br (b_2 (fun x y => decide (y < x))) (am_th (i_al 0) (am_th (i_il 1) (am_th (i_ll 2) (am_th (i_cv 3 2 d_X3_keepRow) (am_th (i_il 1) (am_th (i_ic (6)) (am_br (b_2 (fun x y => decide (y ≤ x))) (r_v) (am_th (i_al 0) (am_th (i_il 1) (am_th (i_ll 2) (am_th (i_cv 3 2 d_X3_canBeBetter) (am_br (b_1 (fun x => decide (¬ x = 0))) (am_th (i_ic (0)) (am_th (i_is 4) (am_sq 147 (am_lp 5000 50 (f_X3_goOn_l50 ds)) (r_v)))) (r_v))))))))))))) (am_th (i_il 1) (am_th (i_al 0) (am_th (i_gi 3 8) (am_br (b_2 (fun x y => decide (¬ x = y))) (am_th (i_il 1) (am_th (i_ic (6)) (am_br (b_2 (fun x y => decide (y ≤ x))) (r_v) (am_th (i_al 0) (am_th (i_il 1) (am_th (i_ll 2) (am_th (i_cv 3 2 d_X3_canBeBetter) (am_br (b_1 (fun x => decide (¬ x = 0))) (am_th (i_ic (0)) (am_th (i_is 4) (am_sq 147 (am_lp 5000 50 (f_X3_goOn_l50 ds)) (r_v)))) (r_v))))))))) (am_th (i_ll 2) (am_th (i_al 0) (am_th (i_gl 3 6) (am_th (j_cmp) (am_br (b_1 (fun x => decide (x ≤ 0))) (am_th (i_il 1) (am_th (i_ic (6)) (am_br (b_2 (fun x y => decide (y ≤ x))) (r_v) (am_th (i_al 0) (am_th (i_il 1) (am_th (i_ll 2) (am_th (i_cv 3 2 d_X3_canBeBetter) (am_br (b_1 (fun x => decide (¬ x = 0))) (am_th (i_ic (0)) (am_th (i_is 4) (am_sq 147 (am_lp 5000 50 (f_X3_goOn_l50 ds)) (r_v)))) (r_v))))))))) (am_th (i_al 0) (am_th (i_il 1) (am_th (i_ll 2) (am_th (i_cv 3 2 d_X3_keepRow) (am_th (i_il 1) (am_th (i_ic (6)) (am_br (b_2 (fun x y => decide (y ≤ x))) (r_v) (am_th (i_al 0) (am_th (i_il 1) (am_th (i_ll 2) (am_th (i_cv 3 2 d_X3_canBeBetter) (am_br (b_1 (fun x => decide (¬ x = 0))) (am_th (i_ic (0)) (am_th (i_is 4) (am_sq 147 (am_lp 5000 50 (f_X3_goOn_l50 ds)) (r_v)))) (r_v)))))))))))))))))))))))))
def d_X3_goOn : Nat → am_D
  | 0 => fun _ _ => none
  | n + 1 => am_den 7 (f_X3_goOn (d_X3_goOn n))
set_option maxHeartbeats 4000000 in
set_option maxRecDepth 100000 in
theorem b_X3_goOn (n : Nat) {ds : am_D} (ih : am_M yX3_goOn cX3_goOn 7 none (3 + n) (73 + n * 26) ds) : am_Body yX3_goOn cX3_goOn 7 none (3 + (n + 1)) (73 + (n + 1) * 26) (f_X3_goOn ds) := by
  intro p l e R s m args below meth c g n0 z0 r0 u0 C hr hn
  have C : am_Cx p l e R s m args below meth c g RX3 cX3_goOn 7 n0 z0 (am_len u0) (am_wt u0) (3 + (n + 1)) (73 + (n + 1) * 26) := C
  have l60 : am_Snd (am_GM p l e R s m args below meth c g 7 n0 z0 r0 u0) (am_Rt r0 u0) 60 (f_X3_goOn_l60 ds) := by
    unfold f_X3_goOn_l60
    exact (so_th (so_iload C dX3_goOn_60) (so_th (so_bipush C dX3_goOn_62 (by decide)) (so_br (so_icmp_ge C dX3_goOn_64 (by decide)) (so_th (so_iinc C dX3_goOn_141 (by decide) (by decide)) (so_goto C dX3_goOn_144 (by decide) (so_to))) (so_th (so_aload_n C dX3_goOn_67 rfl) (so_th (so_iload_n C dX3_goOn_68 rfl) (so_th (so_bipush C dX3_goOn_69 (by decide)) (so_th (so_imul C dX3_goOn_71) (so_th (so_iload C dX3_goOn_72) (so_th (so_iadd C dX3_goOn_74) (so_th (so_iload_n C dX3_goOn_75 rfl) (so_th (so_bipush C dX3_goOn_76 (by decide)) (so_th (so_imul C dX3_goOn_78) (so_th (so_iload C dX3_goOn_79) (so_th (so_iadd C dX3_goOn_81) (so_th (so_cv C m_X3_oddsAt rfl k_126 k_128 k_127 k_129 k_113 ⟨by decide, by decide, by decide +kernel⟩ (by omega) dX3_goOn_82) (so_th (so_istore C dX3_goOn_85 (by decide)) (so_th (so_iload C dX3_goOn_87) (so_sq (so_br (so_if_le C dX3_goOn_89 (by decide)) (so_to) (so_th (so_aload_n C dX3_goOn_92 rfl) (so_th (so_getr C fl_RX3_18 dX3_goOn_93) (so_th (so_iload_n C dX3_goOn_96 rfl) (so_th (so_bipush C dX3_goOn_97 (by decide)) (so_th (so_iload C dX3_goOn_99) (so_th (so_imul C dX3_goOn_101) (so_th (so_iload C dX3_goOn_102) (so_th (so_iadd C dX3_goOn_104) (so_th (so_iast C dX3_goOn_105) (so_th (so_aload_n C dX3_goOn_106 rfl) (so_th (so_getr C fl_RX3_21 dX3_goOn_107) (so_th (so_iload_n C dX3_goOn_110 rfl) (so_th (so_iload C dX3_goOn_111) (so_th (so_iast C dX3_goOn_113) (so_th (so_aload_n C dX3_goOn_114 rfl) (so_th (so_iload_n C dX3_goOn_115 rfl) (so_th (so_iload C dX3_goOn_116) (so_th (so_iload C dX3_goOn_118) (so_th (so_cv C m_X3_joinAbove rfl k_130 k_132 k_131 k_133 k_113 ⟨by decide, by decide, by decide +kernel⟩ (by omega) dX3_goOn_120) (so_th (so_aload_n C dX3_goOn_123 rfl) (so_th (so_iload_n C dX3_goOn_124 rfl) (so_th (so_iconst C dX3_goOn_125 (by decide)) (so_th (so_iadd C dX3_goOn_126) (so_th (so_lload_n C dX3_goOn_127 rfl) (so_th (so_iload C dX3_goOn_128) (so_th (so_i2l C dX3_goOn_130) (so_th (so_lmul C dX3_goOn_131) (so_th (so_cv C ih rfl k_134 k_136 k_135 k_137 k_113 ⟨by decide, by decide, by decide +kernel⟩ (by omega) dX3_goOn_132) (so_to)))))))))))))))))))))))))))))) (so_th (so_iinc C dX3_goOn_135 (by decide) (by decide)) (so_goto C dX3_goOn_138 (by decide) (so_to)))))))))))))))))))))
  have l50 : am_Snd (am_GM p l e R s m args below meth c g 7 n0 z0 r0 u0) (am_Rt r0 u0) 50 (f_X3_goOn_l50 ds) := by
    unfold f_X3_goOn_l50
    exact (so_th (so_iload C dX3_goOn_50) (so_th (so_bipush C dX3_goOn_52 (by decide)) (so_br (so_icmp_ge C dX3_goOn_54 (by decide)) (so_to) (so_th (so_iconst C dX3_goOn_57 (by decide)) (so_th (so_istore C dX3_goOn_58 (by decide)) (so_lp l60 5000))))))
  unfold f_X3_goOn
  exact (so_th (so_iload_n C dX3_goOn_0 rfl) (so_th (so_aload_n C dX3_goOn_1 rfl) (so_th (so_geti C fl_RX3_60 (by decide) dX3_goOn_2) (so_br (so_icmp_gt C dX3_goOn_5 (by decide)) (so_th (so_aload_n C dX3_goOn_25 rfl) (so_th (so_iload_n C dX3_goOn_26 rfl) (so_th (so_lload_n C dX3_goOn_27 rfl) (so_th (so_cv C m_X3_keepRow rfl k_118 k_120 k_119 k_121 k_113 ⟨by decide, by decide, by decide +kernel⟩ (by omega) dX3_goOn_28) (so_th (so_iload_n C dX3_goOn_31 rfl) (so_th (so_bipush C dX3_goOn_32 (by decide)) (so_br (so_icmp_ge C dX3_goOn_34 (by decide)) (so_rv C hr dX3_goOn_46) (so_th (so_aload_n C dX3_goOn_37 rfl) (so_th (so_iload_n C dX3_goOn_38 rfl) (so_th (so_lload_n C dX3_goOn_39 rfl) (so_th (so_cv C m_X3_canBeBetter rfl k_122 k_124 k_123 k_125 k_113 ⟨by decide, by decide, by decide +kernel⟩ (by omega) dX3_goOn_40) (so_br (so_if_ne C dX3_goOn_43 (by decide)) (so_th (so_iconst C dX3_goOn_47 (by decide)) (so_th (so_istore C dX3_goOn_48 (by decide)) (so_sq (so_lp l50 5000) (so_rv C hr dX3_goOn_147)))) (so_rv C hr dX3_goOn_46))))))))))))) (so_th (so_iload_n C dX3_goOn_8 rfl) (so_th (so_aload_n C dX3_goOn_9 rfl) (so_th (so_geti C fl_RX3_60 (by decide) dX3_goOn_10) (so_br (so_icmp_ne C dX3_goOn_13 (by decide)) (so_th (so_iload_n C dX3_goOn_31 rfl) (so_th (so_bipush C dX3_goOn_32 (by decide)) (so_br (so_icmp_ge C dX3_goOn_34 (by decide)) (so_rv C hr dX3_goOn_46) (so_th (so_aload_n C dX3_goOn_37 rfl) (so_th (so_iload_n C dX3_goOn_38 rfl) (so_th (so_lload_n C dX3_goOn_39 rfl) (so_th (so_cv C m_X3_canBeBetter rfl k_122 k_124 k_123 k_125 k_113 ⟨by decide, by decide, by decide +kernel⟩ (by omega) dX3_goOn_40) (so_br (so_if_ne C dX3_goOn_43 (by decide)) (so_th (so_iconst C dX3_goOn_47 (by decide)) (so_th (so_istore C dX3_goOn_48 (by decide)) (so_sq (so_lp l50 5000) (so_rv C hr dX3_goOn_147)))) (so_rv C hr dX3_goOn_46))))))))) (so_th (so_lload_n C dX3_goOn_16 rfl) (so_th (so_aload_n C dX3_goOn_17 rfl) (so_th (so_getl C fl_RX3_63 dX3_goOn_18) (so_th (so_lcmp C dX3_goOn_21) (so_br (so_if_le C dX3_goOn_22 (by decide)) (so_th (so_iload_n C dX3_goOn_31 rfl) (so_th (so_bipush C dX3_goOn_32 (by decide)) (so_br (so_icmp_ge C dX3_goOn_34 (by decide)) (so_rv C hr dX3_goOn_46) (so_th (so_aload_n C dX3_goOn_37 rfl) (so_th (so_iload_n C dX3_goOn_38 rfl) (so_th (so_lload_n C dX3_goOn_39 rfl) (so_th (so_cv C m_X3_canBeBetter rfl k_122 k_124 k_123 k_125 k_113 ⟨by decide, by decide, by decide +kernel⟩ (by omega) dX3_goOn_40) (so_br (so_if_ne C dX3_goOn_43 (by decide)) (so_th (so_iconst C dX3_goOn_47 (by decide)) (so_th (so_istore C dX3_goOn_48 (by decide)) (so_sq (so_lp l50 5000) (so_rv C hr dX3_goOn_147)))) (so_rv C hr dX3_goOn_46))))))))) (so_th (so_aload_n C dX3_goOn_25 rfl) (so_th (so_iload_n C dX3_goOn_26 rfl) (so_th (so_lload_n C dX3_goOn_27 rfl) (so_th (so_cv C m_X3_keepRow rfl k_118 k_120 k_119 k_121 k_113 ⟨by decide, by decide, by decide +kernel⟩ (by omega) dX3_goOn_28) (so_th (so_iload_n C dX3_goOn_31 rfl) (so_th (so_bipush C dX3_goOn_32 (by decide)) (so_br (so_icmp_ge C dX3_goOn_34 (by decide)) (so_rv C hr dX3_goOn_46) (so_th (so_aload_n C dX3_goOn_37 rfl) (so_th (so_iload_n C dX3_goOn_38 rfl) (so_th (so_lload_n C dX3_goOn_39 rfl) (so_th (so_cv C m_X3_canBeBetter rfl k_122 k_124 k_123 k_125 k_113 ⟨by decide, by decide, by decide +kernel⟩ (by omega) dX3_goOn_40) (so_br (so_if_ne C dX3_goOn_43 (by decide)) (so_th (so_iconst C dX3_goOn_47 (by decide)) (so_th (so_istore C dX3_goOn_48 (by decide)) (so_sq (so_lp l50 5000) (so_rv C hr dX3_goOn_147)))) (so_rv C hr dX3_goOn_46))))))))))))))))))))))))))
theorem mg_X3_goOn : ∀ n, am_M yX3_goOn cX3_goOn 7 none (3 + n) (73 + n * 26) (d_X3_goOn n)
  | 0 => by intro l g as u u2 r hst hd; cases hd
  | n + 1 => am_M_of (by decide +kernel) (b_X3_goOn n (mg_X3_goOn n))
theorem m_X3_goOn (n : Nat) : am_M yX3_goOn cX3_goOn 7 none (3 + n) (73 + n * 26) (d_X3_goOn n) := mg_X3_goOn n
theorem dX3_seek_0 : decode cX3_seek 0 = .ok (.aload_n 0, 1) := by decide +kernel
theorem dX3_seek_1 : decode cX3_seek 1 = .ok (.aload_n 1, 1) := by decide +kernel
theorem dX3_seek_2 : decode cX3_seek 2 = .ok (.putfield 27, 3) := by decide +kernel
theorem dX3_seek_5 : decode cX3_seek 5 = .ok (.iconst 0, 1) := by decide +kernel
theorem dX3_seek_6 : decode cX3_seek 6 = .ok (.istore_n 3, 1) := by decide +kernel
theorem dX3_seek_7 : decode cX3_seek 7 = .ok (.iconst 0, 1) := by decide +kernel
theorem dX3_seek_8 : decode cX3_seek 8 = .ok (.istore 4, 2) := by decide +kernel
theorem dX3_seek_10 : decode cX3_seek 10 = .ok (.iload 4, 2) := by decide +kernel
theorem dX3_seek_12 : decode cX3_seek 12 = .ok (.bipush 6, 2) := by decide +kernel
theorem dX3_seek_14 : decode cX3_seek 14 = .ok (.if_icmp .ge 99, 3) := by decide +kernel
theorem dX3_seek_17 : decode cX3_seek 17 = .ok (.iload 4, 2) := by decide +kernel
theorem dX3_seek_19 : decode cX3_seek 19 = .ok (.aload_n 1, 1) := by decide +kernel
theorem dX3_seek_20 : decode cX3_seek 20 = .ok (.getfield 31, 3) := by decide +kernel
theorem dX3_seek_23 : decode cX3_seek 23 = .ok (.if_icmp .ge 25, 3) := by decide +kernel
theorem dX3_seek_26 : decode cX3_seek 26 = .ok (.aload_n 2, 1) := by decide +kernel
theorem dX3_seek_27 : decode cX3_seek 27 = .ok (.iload 4, 2) := by decide +kernel
theorem dX3_seek_29 : decode cX3_seek 29 = .ok (.invokevirtual 37, 3) := by decide +kernel
theorem dX3_seek_32 : decode cX3_seek 32 = .ok (.ifCond .eq 16, 3) := by decide +kernel
theorem dX3_seek_35 : decode cX3_seek 35 = .ok (.aload_n 1, 1) := by decide +kernel
theorem dX3_seek_36 : decode cX3_seek 36 = .ok (.iload 4, 2) := by decide +kernel
theorem dX3_seek_38 : decode cX3_seek 38 = .ok (.invokevirtual 43, 3) := by decide +kernel
theorem dX3_seek_41 : decode cX3_seek 41 = .ok (.ifCond .ne 7, 3) := by decide +kernel
theorem dX3_seek_44 : decode cX3_seek 44 = .ok (.iconst 1, 1) := by decide +kernel
theorem dX3_seek_45 : decode cX3_seek 45 = .ok (.goto 4, 3) := by decide +kernel
theorem dX3_seek_48 : decode cX3_seek 48 = .ok (.iconst 0, 1) := by decide +kernel
theorem dX3_seek_49 : decode cX3_seek 49 = .ok (.istore 5, 2) := by decide +kernel
theorem dX3_seek_51 : decode cX3_seek 51 = .ok (.aload_n 0, 1) := by decide +kernel
theorem dX3_seek_52 : decode cX3_seek 52 = .ok (.getfield 9, 3) := by decide +kernel
theorem dX3_seek_55 : decode cX3_seek 55 = .ok (.iload 4, 2) := by decide +kernel
theorem dX3_seek_57 : decode cX3_seek 57 = .ok (.iload 5, 2) := by decide +kernel
theorem dX3_seek_59 : decode cX3_seek 59 = .ok (.ifCond .eq 13, 3) := by decide +kernel
theorem dX3_seek_62 : decode cX3_seek 62 = .ok (.aload_n 2, 1) := by decide +kernel
theorem dX3_seek_63 : decode cX3_seek 63 = .ok (.aload_n 1, 1) := by decide +kernel
theorem dX3_seek_64 : decode cX3_seek 64 = .ok (.iload 4, 2) := by decide +kernel
theorem dX3_seek_66 : decode cX3_seek 66 = .ok (.invokevirtual 46, 3) := by decide +kernel
theorem dX3_seek_69 : decode cX3_seek 69 = .ok (.goto 4, 3) := by decide +kernel
theorem dX3_seek_72 : decode cX3_seek 72 = .ok (.iconst 0, 1) := by decide +kernel
theorem dX3_seek_73 : decode cX3_seek 73 = .ok (.iastore, 1) := by decide +kernel
theorem dX3_seek_74 : decode cX3_seek 74 = .ok (.aload_n 0, 1) := by decide +kernel
theorem dX3_seek_75 : decode cX3_seek 75 = .ok (.getfield 15, 3) := by decide +kernel
theorem dX3_seek_78 : decode cX3_seek 78 = .ok (.iload 4, 2) := by decide +kernel
theorem dX3_seek_80 : decode cX3_seek 80 = .ok (.iload 5, 2) := by decide +kernel
theorem dX3_seek_82 : decode cX3_seek 82 = .ok (.ifCond .eq 13, 3) := by decide +kernel
theorem dX3_seek_85 : decode cX3_seek 85 = .ok (.aload_n 2, 1) := by decide +kernel
theorem dX3_seek_86 : decode cX3_seek 86 = .ok (.aload_n 1, 1) := by decide +kernel
theorem dX3_seek_87 : decode cX3_seek 87 = .ok (.iload 4, 2) := by decide +kernel
theorem dX3_seek_89 : decode cX3_seek 89 = .ok (.invokevirtual 50, 3) := by decide +kernel
theorem dX3_seek_92 : decode cX3_seek 92 = .ok (.goto 4, 3) := by decide +kernel
theorem dX3_seek_95 : decode cX3_seek 95 = .ok (.iconst 0, 1) := by decide +kernel
theorem dX3_seek_96 : decode cX3_seek 96 = .ok (.iastore, 1) := by decide +kernel
theorem dX3_seek_97 : decode cX3_seek 97 = .ok (.iload_n 3, 1) := by decide +kernel
theorem dX3_seek_98 : decode cX3_seek 98 = .ok (.aload_n 0, 1) := by decide +kernel
theorem dX3_seek_99 : decode cX3_seek 99 = .ok (.getfield 15, 3) := by decide +kernel
theorem dX3_seek_102 : decode cX3_seek 102 = .ok (.iload 4, 2) := by decide +kernel
theorem dX3_seek_104 : decode cX3_seek 104 = .ok (.iaload, 1) := by decide +kernel
theorem dX3_seek_105 : decode cX3_seek 105 = .ok (.ior, 1) := by decide +kernel
theorem dX3_seek_106 : decode cX3_seek 106 = .ok (.istore_n 3, 1) := by decide +kernel
theorem dX3_seek_107 : decode cX3_seek 107 = .ok (.iinc 4 1, 3) := by decide +kernel
theorem dX3_seek_110 : decode cX3_seek 110 = .ok (.goto (-100), 3) := by decide +kernel
theorem dX3_seek_113 : decode cX3_seek 113 = .ok (.aload_n 0, 1) := by decide +kernel
theorem dX3_seek_114 : decode cX3_seek 114 = .ok (.aload_n 1, 1) := by decide +kernel
theorem dX3_seek_115 : decode cX3_seek 115 = .ok (.iload_n 3, 1) := by decide +kernel
theorem dX3_seek_116 : decode cX3_seek 116 = .ok (.iload_n 3, 1) := by decide +kernel
theorem dX3_seek_117 : decode cX3_seek 117 = .ok (.invokevirtual 53, 3) := by decide +kernel
theorem dX3_seek_120 : decode cX3_seek 120 = .ok (.putfield 57, 3) := by decide +kernel
theorem dX3_seek_123 : decode cX3_seek 123 = .ok (.aload_n 0, 1) := by decide +kernel
theorem dX3_seek_124 : decode cX3_seek 124 = .ok (.iconst (-1), 1) := by decide +kernel
theorem dX3_seek_125 : decode cX3_seek 125 = .ok (.putfield 60, 3) := by decide +kernel
theorem dX3_seek_128 : decode cX3_seek 128 = .ok (.aload_n 0, 1) := by decide +kernel
theorem dX3_seek_129 : decode cX3_seek 129 = .ok (.lconst 0, 1) := by decide +kernel
theorem dX3_seek_130 : decode cX3_seek 130 = .ok (.putfield 63, 3) := by decide +kernel
theorem dX3_seek_133 : decode cX3_seek 133 = .ok (.aload_n 0, 1) := by decide +kernel
theorem dX3_seek_134 : decode cX3_seek 134 = .ok (.iconst 0, 1) := by decide +kernel
theorem dX3_seek_135 : decode cX3_seek 135 = .ok (.lconst 1, 1) := by decide +kernel
theorem dX3_seek_136 : decode cX3_seek 136 = .ok (.invokevirtual 67, 3) := by decide +kernel
theorem dX3_seek_139 : decode cX3_seek 139 = .ok (.return_, 1) := by decide +kernel
def f_X3_seek_l10 : am_F := am_th (i_il 4) (am_th (i_ic (6)) (am_br (b_2 (fun x y => decide (y ≤ x))) (am_to 113) (am_th (i_il 4) (am_th (i_al 1) (am_th (i_gi 5 3) (am_sq 49 (am_br (b_2 (fun x y => decide (y ≤ x))) (am_th (i_ic (0)) (am_to 49)) (am_th (i_al 2) (am_th (i_il 4) (am_th (i_cv 2 1 d_X2_stands) (am_br (b_1 (fun x => decide (x = 0))) (am_th (i_ic (0)) (am_to 49)) (am_th (i_al 1) (am_th (i_il 4) (am_th (i_cv 5 1 d_X5_isPotted) (am_br (b_1 (fun x => decide (¬ x = 0))) (am_th (i_ic (0)) (am_to 49)) (am_th (i_ic (1)) (am_to 49))))))))))) (am_th (i_is 5) (am_th (i_al 0) (am_th (i_gr 3 0) (am_th (i_il 4) (am_th (i_il 5) (am_sq 73 (am_br (b_1 (fun x => decide (x = 0))) (am_th (i_ic (0)) (am_to 73)) (am_th (i_al 2) (am_th (i_al 1) (am_th (i_il 4) (am_th (i_cv 2 2 d_X2_partiesOf) (am_to 73)))))) (am_th (i_iS) (am_th (i_al 0) (am_th (i_gr 3 1) (am_th (i_il 4) (am_th (i_il 5) (am_sq 96 (am_br (b_1 (fun x => decide (x = 0))) (am_th (i_ic (0)) (am_to 96)) (am_th (i_al 2) (am_th (i_al 1) (am_th (i_il 4) (am_th (i_cv 2 2 d_X2_kindsOf) (am_to 96)))))) (am_th (i_iS) (am_th (i_il 3) (am_th (i_al 0) (am_th (i_gr 3 1) (am_th (i_il 4) (am_th (i_ia 0) (am_th (i_2 (fun x y => x ||| y)) (am_th (i_is 3) (am_th (i_inc 4 (1)) (am_to 10))))))))))))))))))))))))))))
def f_X3_seek : am_F := am_th (i_al 0) (am_th (i_al 1) (am_th (i_pr 3 4) (am_th (i_ic (0)) (am_th (i_is 3) (am_th (i_ic (0)) (am_th (i_is 4) (am_sq 113 (am_lp 5000 10 f_X3_seek_l10) (am_th (i_al 0) (am_th (i_al 1) (am_th (i_il 3) (am_th (i_il 3) (am_th (i_cv 5 2 d_X5_greatestOdds) (am_th (i_pi 3 5) (am_th (i_al 0) (am_th (i_ic (-1)) (am_th (i_pi 3 8) (am_th (i_al 0) (am_th (i_lc (0)) (am_th (i_pl 3 6) (am_th (i_al 0) (am_th (i_ic (0)) (am_th (i_lc (1)) (am_th (i_cv 3 2 (d_X3_goOn 8)) (r_v))))))))))))))))))))))))
def d_X3_seek : am_D := am_den 6 f_X3_seek
set_option maxHeartbeats 4000000 in
set_option maxRecDepth 100000 in
theorem b_X3_seek : am_Body yX3_seek cX3_seek 6 none 12 307 f_X3_seek := by
  intro p l e R s m args below meth c g n0 z0 r0 u0 C hr hn
  have C : am_Cx p l e R s m args below meth c g RX3 cX3_seek 6 n0 z0 (am_len u0) (am_wt u0) 12 307 := C
  have l10 : am_Snd (am_GM p l e R s m args below meth c g 6 n0 z0 r0 u0) (am_Rt r0 u0) 10 (f_X3_seek_l10) := by
    unfold f_X3_seek_l10
    exact (so_th (so_iload C dX3_seek_10) (so_th (so_bipush C dX3_seek_12 (by decide)) (so_br (so_icmp_ge C dX3_seek_14 (by decide)) (so_to) (so_th (so_iload C dX3_seek_17) (so_th (so_aload_n C dX3_seek_19 rfl) (so_th (so_geti C fl_RX3_31 (by decide) dX3_seek_20) (so_sq (so_br (so_icmp_ge C dX3_seek_23 (by decide)) (so_th (so_iconst C dX3_seek_48 (by decide)) (so_to)) (so_th (so_aload_n C dX3_seek_26 rfl) (so_th (so_iload C dX3_seek_27) (so_th (so_cv C m_X2_stands rfl k_43 k_138 k_44 k_46 k_40 ⟨by decide, by decide, by decide +kernel⟩ (by decide) dX3_seek_29) (so_br (so_if_eq C dX3_seek_32 (by decide)) (so_th (so_iconst C dX3_seek_48 (by decide)) (so_to)) (so_th (so_aload_n C dX3_seek_35 rfl) (so_th (so_iload C dX3_seek_36) (so_th (so_cv C m_X5_isPotted rfl k_7 k_139 k_9 k_11 k_8 ⟨by decide, by decide, by decide +kernel⟩ (by decide) dX3_seek_38) (so_br (so_if_ne C dX3_seek_41 (by decide)) (so_th (so_iconst C dX3_seek_48 (by decide)) (so_to)) (so_th (so_iconst C dX3_seek_44 (by decide)) (so_goto C dX3_seek_45 (by decide) (so_to)))))))))))) (so_th (so_istore C dX3_seek_49 (by decide)) (so_th (so_aload_n C dX3_seek_51 rfl) (so_th (so_getr C fl_RX3_9 dX3_seek_52) (so_th (so_iload C dX3_seek_55) (so_th (so_iload C dX3_seek_57) (so_sq (so_br (so_if_eq C dX3_seek_59 (by decide)) (so_th (so_iconst C dX3_seek_72 (by decide)) (so_to)) (so_th (so_aload_n C dX3_seek_62 rfl) (so_th (so_aload_n C dX3_seek_63 rfl) (so_th (so_iload C dX3_seek_64) (so_th (so_cv C m_X2_partiesOf rfl k_67 k_140 k_68 k_70 k_40 ⟨by decide, by decide, by decide +kernel⟩ (by decide) dX3_seek_66) (so_goto C dX3_seek_69 (by decide) (so_to))))))) (so_th (so_iast C dX3_seek_73) (so_th (so_aload_n C dX3_seek_74 rfl) (so_th (so_getr C fl_RX3_15 dX3_seek_75) (so_th (so_iload C dX3_seek_78) (so_th (so_iload C dX3_seek_80) (so_sq (so_br (so_if_eq C dX3_seek_82 (by decide)) (so_th (so_iconst C dX3_seek_95 (by decide)) (so_to)) (so_th (so_aload_n C dX3_seek_85 rfl) (so_th (so_aload_n C dX3_seek_86 rfl) (so_th (so_iload C dX3_seek_87) (so_th (so_cv C m_X2_kindsOf rfl k_71 k_141 k_72 k_74 k_40 ⟨by decide, by decide, by decide +kernel⟩ (by decide) dX3_seek_89) (so_goto C dX3_seek_92 (by decide) (so_to))))))) (so_th (so_iast C dX3_seek_96) (so_th (so_iload_n C dX3_seek_97 rfl) (so_th (so_aload_n C dX3_seek_98 rfl) (so_th (so_getr C fl_RX3_15 dX3_seek_99) (so_th (so_iload C dX3_seek_102) (so_th (so_iald C dX3_seek_104) (so_th (so_ior C dX3_seek_105) (so_th (so_istore_n C dX3_seek_106 rfl (by decide)) (so_th (so_iinc C dX3_seek_107 (by decide) (by decide)) (so_goto C dX3_seek_110 (by decide) (so_to))))))))))))))))))))))))))))))
  unfold f_X3_seek
  exact (so_th (so_aload_n C dX3_seek_0 rfl) (so_th (so_aload_n C dX3_seek_1 rfl) (so_th (so_putr C fl_RX3_27 (Or.inl ⟨_, rfl⟩) fp_3 (Or.inl rfl) dX3_seek_2) (so_th (so_iconst C dX3_seek_5 (by decide)) (so_th (so_istore_n C dX3_seek_6 rfl (by decide)) (so_th (so_iconst C dX3_seek_7 (by decide)) (so_th (so_istore C dX3_seek_8 (by decide)) (so_sq (so_lp l10 5000) (so_th (so_aload_n C dX3_seek_113 rfl) (so_th (so_aload_n C dX3_seek_114 rfl) (so_th (so_iload_n C dX3_seek_115 rfl) (so_th (so_iload_n C dX3_seek_116 rfl) (so_th (so_cv C m_X5_greatestOdds rfl k_75 k_117 k_76 k_78 k_8 ⟨by decide, by decide, by decide +kernel⟩ (by decide) dX3_seek_117) (so_th (so_puti C fl_RX3_57 fp_3 (Or.inl rfl) dX3_seek_120) (so_th (so_aload_n C dX3_seek_123 rfl) (so_th (so_iconst C dX3_seek_124 (by decide)) (so_th (so_puti C fl_RX3_60 fp_3 (Or.inl rfl) dX3_seek_125) (so_th (so_aload_n C dX3_seek_128 rfl) (so_th (so_lconst C dX3_seek_129 (by decide)) (so_th (so_putl C fl_RX3_63 fp_3 (Or.inl rfl) dX3_seek_130) (so_th (so_aload_n C dX3_seek_133 rfl) (so_th (so_iconst C dX3_seek_134 (by decide)) (so_th (so_lconst C dX3_seek_135 (by decide)) (so_th (so_cv C (m_X3_goOn 8) rfl k_134 k_136 k_135 k_137 k_113 ⟨by decide, by decide, by decide +kernel⟩ (by decide) dX3_seek_136) (so_rv C hr dX3_seek_139)))))))))))))))))))))))))
theorem m_X3_seek : am_M yX3_seek cX3_seek 6 none 12 307 d_X3_seek := am_M_of (by decide +kernel) b_X3_seek
theorem dX3_partOf_0 : decode cX3_partOf 0 = .ok (.lload_n 0, 1) := by decide +kernel
theorem dX3_partOf_1 : decode cX3_partOf 1 = .ok (.lstore 5, 2) := by decide +kernel
theorem dX3_partOf_3 : decode cX3_partOf 3 = .ok (.lload_n 2, 1) := by decide +kernel
theorem dX3_partOf_4 : decode cX3_partOf 4 = .ok (.lstore 7, 2) := by decide +kernel
theorem dX3_partOf_6 : decode cX3_partOf 6 = .ok (.iconst 0, 1) := by decide +kernel
theorem dX3_partOf_7 : decode cX3_partOf 7 = .ok (.istore 9, 2) := by decide +kernel
theorem dX3_partOf_9 : decode cX3_partOf 9 = .ok (.iload 9, 2) := by decide +kernel
theorem dX3_partOf_11 : decode cX3_partOf 11 = .ok (.bipush 100, 2) := by decide +kernel
theorem dX3_partOf_13 : decode cX3_partOf 13 = .ok (.if_icmp .ge 31, 3) := by decide +kernel
theorem dX3_partOf_16 : decode cX3_partOf 16 = .ok (.lload 5, 2) := by decide +kernel
theorem dX3_partOf_18 : decode cX3_partOf 18 = .ok (.lconst 0, 1) := by decide +kernel
theorem dX3_partOf_19 : decode cX3_partOf 19 = .ok (.lcmp, 1) := by decide +kernel
theorem dX3_partOf_20 : decode cX3_partOf 20 = .ok (.ifCond .le 24, 3) := by decide +kernel
theorem dX3_partOf_23 : decode cX3_partOf 23 = .ok (.lload 7, 2) := by decide +kernel
theorem dX3_partOf_25 : decode cX3_partOf 25 = .ok (.lload 5, 2) := by decide +kernel
theorem dX3_partOf_27 : decode cX3_partOf 27 = .ok (.lrem, 1) := by decide +kernel
theorem dX3_partOf_28 : decode cX3_partOf 28 = .ok (.lstore 10, 2) := by decide +kernel
theorem dX3_partOf_30 : decode cX3_partOf 30 = .ok (.lload 5, 2) := by decide +kernel
theorem dX3_partOf_32 : decode cX3_partOf 32 = .ok (.lstore 7, 2) := by decide +kernel
theorem dX3_partOf_34 : decode cX3_partOf 34 = .ok (.lload 10, 2) := by decide +kernel
theorem dX3_partOf_36 : decode cX3_partOf 36 = .ok (.lstore 5, 2) := by decide +kernel
theorem dX3_partOf_38 : decode cX3_partOf 38 = .ok (.iinc 9 1, 3) := by decide +kernel
theorem dX3_partOf_41 : decode cX3_partOf 41 = .ok (.goto (-32), 3) := by decide +kernel
theorem dX3_partOf_44 : decode cX3_partOf 44 = .ok (.iload 4, 2) := by decide +kernel
theorem dX3_partOf_46 : decode cX3_partOf 46 = .ok (.ifCond .eq 7, 3) := by decide +kernel
theorem dX3_partOf_49 : decode cX3_partOf 49 = .ok (.lload_n 2, 1) := by decide +kernel
theorem dX3_partOf_50 : decode cX3_partOf 50 = .ok (.goto 4, 3) := by decide +kernel
theorem dX3_partOf_53 : decode cX3_partOf 53 = .ok (.lload_n 0, 1) := by decide +kernel
theorem dX3_partOf_54 : decode cX3_partOf 54 = .ok (.lstore 9, 2) := by decide +kernel
theorem dX3_partOf_56 : decode cX3_partOf 56 = .ok (.lload 7, 2) := by decide +kernel
theorem dX3_partOf_58 : decode cX3_partOf 58 = .ok (.lconst 0, 1) := by decide +kernel
theorem dX3_partOf_59 : decode cX3_partOf 59 = .ok (.lcmp, 1) := by decide +kernel
theorem dX3_partOf_60 : decode cX3_partOf 60 = .ok (.ifCond .le 11, 3) := by decide +kernel
theorem dX3_partOf_63 : decode cX3_partOf 63 = .ok (.lload 9, 2) := by decide +kernel
theorem dX3_partOf_65 : decode cX3_partOf 65 = .ok (.lload 7, 2) := by decide +kernel
theorem dX3_partOf_67 : decode cX3_partOf 67 = .ok (.ldiv, 1) := by decide +kernel
theorem dX3_partOf_68 : decode cX3_partOf 68 = .ok (.goto 5, 3) := by decide +kernel
theorem dX3_partOf_71 : decode cX3_partOf 71 = .ok (.lload 9, 2) := by decide +kernel
theorem dX3_partOf_73 : decode cX3_partOf 73 = .ok (.lreturn, 1) := by decide +kernel
def f_X3_partOf_l9 : am_F := am_th (i_il 9) (am_th (i_ic (100)) (am_br (b_2 (fun x y => decide (y ≤ x))) (am_to 44) (am_th (i_ll 5) (am_th (i_lc (0)) (am_th (j_cmp) (am_br (b_1 (fun x => decide (x ≤ 0))) (am_to 44) (am_th (i_ll 7) (am_th (i_ll 5) (am_th (j_2n (fun x y => x - x / y * y)) (am_th (i_ls 10) (am_th (i_ll 5) (am_th (i_ls 7) (am_th (i_ll 10) (am_th (i_ls 5) (am_th (i_inc 9 (1)) (am_to 9))))))))))))))))
def f_X3_partOf : am_F := am_th (i_ll 0) (am_th (i_ls 5) (am_th (i_ll 2) (am_th (i_ls 7) (am_th (i_ic (0)) (am_th (i_is 9) (am_sq 44 (am_lp 5000 9 f_X3_partOf_l9) (am_th (i_il 4) (am_br (b_1 (fun x => decide (x = 0))) (am_th (i_ll 0) (am_th (i_ls 9) (am_th (i_ll 7) (am_th (i_lc (0)) (am_th (j_cmp) (am_br (b_1 (fun x => decide (x ≤ 0))) (am_th (i_ll 9) (r_l)) (am_th (i_ll 9) (am_th (i_ll 7) (am_th (j_2n (fun x y => x / y)) (r_l)))))))))) (am_th (i_ll 2) (am_th (i_ls 9) (am_th (i_ll 7) (am_th (i_lc (0)) (am_th (j_cmp) (am_br (b_1 (fun x => decide (x ≤ 0))) (am_th (i_ll 9) (r_l)) (am_th (i_ll 9) (am_th (i_ll 7) (am_th (j_2n (fun x y => x / y)) (r_l))))))))))))))))))
def d_X3_partOf : am_D := am_den 12 f_X3_partOf
set_option maxHeartbeats 4000000 in
set_option maxRecDepth 100000 in
theorem b_X3_partOf : am_Body yX3_partOf cX3_partOf 12 (some .long) 0 0 f_X3_partOf := by
  intro p l e R s m args below meth c g n0 z0 r0 u0 C hr hn
  have C : am_Cx p l e R s m args below meth c g RX3 cX3_partOf 12 n0 z0 (am_len u0) (am_wt u0) 0 0 := C
  have l9 : am_Snd (am_GM p l e R s m args below meth c g 12 n0 z0 r0 u0) (am_Rt r0 u0) 9 (f_X3_partOf_l9) := by
    unfold f_X3_partOf_l9
    exact (so_th (so_iload C dX3_partOf_9) (so_th (so_bipush C dX3_partOf_11 (by decide)) (so_br (so_icmp_ge C dX3_partOf_13 (by decide)) (so_to) (so_th (so_lload C dX3_partOf_16) (so_th (so_lconst C dX3_partOf_18 (by decide)) (so_th (so_lcmp C dX3_partOf_19) (so_br (so_if_le C dX3_partOf_20 (by decide)) (so_to) (so_th (so_lload C dX3_partOf_23) (so_th (so_lload C dX3_partOf_25) (so_th (so_lrem C dX3_partOf_27) (so_th (so_lstore C dX3_partOf_28 (by decide)) (so_th (so_lload C dX3_partOf_30) (so_th (so_lstore C dX3_partOf_32 (by decide)) (so_th (so_lload C dX3_partOf_34) (so_th (so_lstore C dX3_partOf_36 (by decide)) (so_th (so_iinc C dX3_partOf_38 (by decide) (by decide)) (so_goto C dX3_partOf_41 (by decide) (so_to))))))))))))))))))
  unfold f_X3_partOf
  exact (so_th (so_lload_n C dX3_partOf_0 rfl) (so_th (so_lstore C dX3_partOf_1 (by decide)) (so_th (so_lload_n C dX3_partOf_3 rfl) (so_th (so_lstore C dX3_partOf_4 (by decide)) (so_th (so_iconst C dX3_partOf_6 (by decide)) (so_th (so_istore C dX3_partOf_7 (by decide)) (so_sq (so_lp l9 5000) (so_th (so_iload C dX3_partOf_44) (so_br (so_if_eq C dX3_partOf_46 (by decide)) (so_th (so_lload_n C dX3_partOf_53 rfl) (so_th (so_lstore C dX3_partOf_54 (by decide)) (so_th (so_lload C dX3_partOf_56) (so_th (so_lconst C dX3_partOf_58 (by decide)) (so_th (so_lcmp C dX3_partOf_59) (so_br (so_if_le C dX3_partOf_60 (by decide)) (so_th (so_lload C dX3_partOf_71) (so_rl C hr dX3_partOf_73)) (so_th (so_lload C dX3_partOf_63) (so_th (so_lload C dX3_partOf_65) (so_th (so_ldiv C dX3_partOf_67) (so_goto C dX3_partOf_68 (by decide) (so_rl C hr dX3_partOf_73))))))))))) (so_th (so_lload_n C dX3_partOf_49 rfl) (so_goto C dX3_partOf_50 (by decide) (so_th (so_lstore C dX3_partOf_54 (by decide)) (so_th (so_lload C dX3_partOf_56) (so_th (so_lconst C dX3_partOf_58 (by decide)) (so_th (so_lcmp C dX3_partOf_59) (so_br (so_if_le C dX3_partOf_60 (by decide)) (so_th (so_lload C dX3_partOf_71) (so_rl C hr dX3_partOf_73)) (so_th (so_lload C dX3_partOf_63) (so_th (so_lload C dX3_partOf_65) (so_th (so_ldiv C dX3_partOf_67) (so_goto C dX3_partOf_68 (by decide) (so_rl C hr dX3_partOf_73)))))))))))))))))))))
theorem m_X3_partOf : am_M yX3_partOf cX3_partOf 12 (some .long) 0 0 d_X3_partOf := am_M_of (by decide +kernel) b_X3_partOf
theorem dX3_partOfLikelihood_0 : decode cX3_partOfLikelihood 0 = .ok (.lconst 1, 1) := by decide +kernel
theorem dX3_partOfLikelihood_1 : decode cX3_partOfLikelihood 1 = .ok (.lstore_n 2, 1) := by decide +kernel
theorem dX3_partOfLikelihood_2 : decode cX3_partOfLikelihood 2 = .ok (.iconst 0, 1) := by decide +kernel
theorem dX3_partOfLikelihood_3 : decode cX3_partOfLikelihood 3 = .ok (.istore 4, 2) := by decide +kernel
theorem dX3_partOfLikelihood_5 : decode cX3_partOfLikelihood 5 = .ok (.iload 4, 2) := by decide +kernel
theorem dX3_partOfLikelihood_7 : decode cX3_partOfLikelihood 7 = .ok (.aload_n 0, 1) := by decide +kernel
theorem dX3_partOfLikelihood_8 : decode cX3_partOfLikelihood 8 = .ok (.getfield 60, 3) := by decide +kernel
theorem dX3_partOfLikelihood_11 : decode cX3_partOfLikelihood 11 = .ok (.if_icmp .ge 15, 3) := by decide +kernel
theorem dX3_partOfLikelihood_14 : decode cX3_partOfLikelihood 14 = .ok (.lload_n 2, 1) := by decide +kernel
theorem dX3_partOfLikelihood_15 : decode cX3_partOfLikelihood 15 = .ok (.ldc2_w 105, 3) := by decide +kernel
theorem dX3_partOfLikelihood_18 : decode cX3_partOfLikelihood 18 = .ok (.lmul, 1) := by decide +kernel
theorem dX3_partOfLikelihood_19 : decode cX3_partOfLikelihood 19 = .ok (.lstore_n 2, 1) := by decide +kernel
theorem dX3_partOfLikelihood_20 : decode cX3_partOfLikelihood 20 = .ok (.iinc 4 1, 3) := by decide +kernel
theorem dX3_partOfLikelihood_23 : decode cX3_partOfLikelihood 23 = .ok (.goto (-18), 3) := by decide +kernel
theorem dX3_partOfLikelihood_26 : decode cX3_partOfLikelihood 26 = .ok (.aload_n 0, 1) := by decide +kernel
theorem dX3_partOfLikelihood_27 : decode cX3_partOfLikelihood 27 = .ok (.getfield 63, 3) := by decide +kernel
theorem dX3_partOfLikelihood_30 : decode cX3_partOfLikelihood 30 = .ok (.lload_n 2, 1) := by decide +kernel
theorem dX3_partOfLikelihood_31 : decode cX3_partOfLikelihood 31 = .ok (.iload_n 1, 1) := by decide +kernel
theorem dX3_partOfLikelihood_32 : decode cX3_partOfLikelihood 32 = .ok (.invokestatic 107, 3) := by decide +kernel
theorem dX3_partOfLikelihood_35 : decode cX3_partOfLikelihood 35 = .ok (.lreturn, 1) := by decide +kernel
def f_X3_partOfLikelihood_l5 : am_F := am_th (i_il 4) (am_th (i_al 0) (am_th (i_gi 3 8) (am_br (b_2 (fun x y => decide (y ≤ x))) (am_to 26) (am_th (i_ll 2) (am_th (i_lc (100)) (am_th (j_2 (fun x y => x * y)) (am_th (i_ls 2) (am_th (i_inc 4 (1)) (am_to 5)))))))))
def f_X3_partOfLikelihood : am_F := am_th (i_lc (1)) (am_th (i_ls 2) (am_th (i_ic (0)) (am_th (i_is 4) (am_sq 26 (am_lp 5000 5 f_X3_partOfLikelihood_l5) (am_th (i_al 0) (am_th (i_gl 3 6) (am_th (i_ll 2) (am_th (i_il 1) (am_th (i_cs 3 d_X3_partOf) (r_l))))))))))
def d_X3_partOfLikelihood : am_D := am_den 5 f_X3_partOfLikelihood
set_option maxHeartbeats 4000000 in
set_option maxRecDepth 100000 in
theorem b_X3_partOfLikelihood : am_Body yX3_partOfLikelihood cX3_partOfLikelihood 5 (some .long) 1 31 f_X3_partOfLikelihood := by
  intro p l e R s m args below meth c g n0 z0 r0 u0 C hr hn
  have C : am_Cx p l e R s m args below meth c g RX3 cX3_partOfLikelihood 5 n0 z0 (am_len u0) (am_wt u0) 1 31 := C
  have l5 : am_Snd (am_GM p l e R s m args below meth c g 5 n0 z0 r0 u0) (am_Rt r0 u0) 5 (f_X3_partOfLikelihood_l5) := by
    unfold f_X3_partOfLikelihood_l5
    exact (so_th (so_iload C dX3_partOfLikelihood_5) (so_th (so_aload_n C dX3_partOfLikelihood_7 rfl) (so_th (so_geti C fl_RX3_60 (by decide) dX3_partOfLikelihood_8) (so_br (so_icmp_ge C dX3_partOfLikelihood_11 (by decide)) (so_to) (so_th (so_lload_n C dX3_partOfLikelihood_14 rfl) (so_th (so_ldc2 C dX3_partOfLikelihood_15 k_142) (so_th (so_lmul C dX3_partOfLikelihood_18) (so_th (so_lstore_n C dX3_partOfLikelihood_19 rfl (by decide)) (so_th (so_iinc C dX3_partOfLikelihood_20 (by decide) (by decide)) (so_goto C dX3_partOfLikelihood_23 (by decide) (so_to)))))))))))
  unfold f_X3_partOfLikelihood
  exact (so_th (so_lconst C dX3_partOfLikelihood_0 (by decide)) (so_th (so_lstore_n C dX3_partOfLikelihood_1 rfl (by decide)) (so_th (so_iconst C dX3_partOfLikelihood_2 (by decide)) (so_th (so_istore C dX3_partOfLikelihood_3 (by decide)) (so_sq (so_lp l5 5000) (so_th (so_aload_n C dX3_partOfLikelihood_26 rfl) (so_th (so_getl C fl_RX3_63 dX3_partOfLikelihood_27) (so_th (so_lload_n C dX3_partOfLikelihood_30 rfl) (so_th (so_iload_n C dX3_partOfLikelihood_31 rfl) (so_th (so_cs C m_X3_partOf k_143 k_145 k_144 k_113 ⟨by decide, by decide, by decide +kernel⟩ (by decide) dX3_partOfLikelihood_32) (so_rl C hr dX3_partOfLikelihood_35)))))))))))
theorem m_X3_partOfLikelihood : am_M yX3_partOfLikelihood cX3_partOfLikelihood 5 (some .long) 1 31 d_X3_partOfLikelihood := am_M_of (by decide +kernel) b_X3_partOfLikelihood
theorem dX3_partOfMean_0 : decode cX3_partOfMean 0 = .ok (.aload_n 0, 1) := by decide +kernel
theorem dX3_partOfMean_1 : decode cX3_partOfMean 1 = .ok (.getfield 85, 3) := by decide +kernel
theorem dX3_partOfMean_4 : decode cX3_partOfMean 4 = .ok (.i2l, 1) := by decide +kernel
theorem dX3_partOfMean_5 : decode cX3_partOfMean 5 = .ok (.ldc2_w 105, 3) := by decide +kernel
theorem dX3_partOfMean_8 : decode cX3_partOfMean 8 = .ok (.iload_n 1, 1) := by decide +kernel
theorem dX3_partOfMean_9 : decode cX3_partOfMean 9 = .ok (.invokestatic 107, 3) := by decide +kernel
theorem dX3_partOfMean_12 : decode cX3_partOfMean 12 = .ok (.lreturn, 1) := by decide +kernel
def f_X3_partOfMean : am_F := am_th (i_al 0) (am_th (i_gi 3 7) (am_th (i_i2l) (am_th (i_lc (100)) (am_th (i_il 1) (am_th (i_cs 3 d_X3_partOf) (r_l))))))
def d_X3_partOfMean : am_D := am_den 2 f_X3_partOfMean
set_option maxHeartbeats 4000000 in
set_option maxRecDepth 100000 in
theorem b_X3_partOfMean : am_Body yX3_partOfMean cX3_partOfMean 2 (some .long) 1 31 f_X3_partOfMean := by
  intro p l e R s m args below meth c g n0 z0 r0 u0 C hr hn
  have C : am_Cx p l e R s m args below meth c g RX3 cX3_partOfMean 2 n0 z0 (am_len u0) (am_wt u0) 1 31 := C
  unfold f_X3_partOfMean
  exact (so_th (so_aload_n C dX3_partOfMean_0 rfl) (so_th (so_geti C fl_RX3_85 (by decide) dX3_partOfMean_1) (so_th (so_i2l C dX3_partOfMean_4) (so_th (so_ldc2 C dX3_partOfMean_5 k_142) (so_th (so_iload_n C dX3_partOfMean_8 rfl) (so_th (so_cs C m_X3_partOf k_143 k_145 k_144 k_113 ⟨by decide, by decide, by decide +kernel⟩ (by decide) dX3_partOfMean_9) (so_rl C hr dX3_partOfMean_12)))))))
theorem m_X3_partOfMean : am_M yX3_partOfMean cX3_partOfMean 2 (some .long) 1 31 d_X3_partOfMean := am_M_of (by decide +kernel) b_X3_partOfMean
theorem dX4_init_0 : decode cX4_init 0 = .ok (.aload_n 0, 1) := by decide +kernel
theorem dX4_init_1 : decode cX4_init 1 = .ok (.invokespecial 3, 3) := by decide +kernel
theorem dX4_init_4 : decode cX4_init 4 = .ok (.aload_n 0, 1) := by decide +kernel
theorem dX4_init_5 : decode cX4_init 5 = .ok (.bipush 6, 2) := by decide +kernel
theorem dX4_init_7 : decode cX4_init 7 = .ok (.newarray .long, 2) := by decide +kernel
theorem dX4_init_9 : decode cX4_init 9 = .ok (.putfield 9, 3) := by decide +kernel
theorem dX4_init_12 : decode cX4_init 12 = .ok (.aload_n 0, 1) := by decide +kernel
theorem dX4_init_13 : decode cX4_init 13 = .ok (.bipush 6, 2) := by decide +kernel
theorem dX4_init_15 : decode cX4_init 15 = .ok (.newarray .long, 2) := by decide +kernel
theorem dX4_init_17 : decode cX4_init 17 = .ok (.putfield 15, 3) := by decide +kernel
theorem dX4_init_20 : decode cX4_init 20 = .ok (.return_, 1) := by decide +kernel
def f_X4_init : am_F := am_th (i_al 0) (am_th (i_oi) (am_th (i_al 0) (am_th (i_ic (6)) (am_th (i_na 2) (am_th (i_pr 4 12) (am_th (i_al 0) (am_th (i_ic (6)) (am_th (i_na 2) (am_th (i_pr 4 13) (r_v))))))))))
def d_X4_init : am_D := am_den 1 f_X4_init
set_option maxHeartbeats 4000000 in
set_option maxRecDepth 100000 in
theorem b_X4_init : am_Body yX4_init cX4_init 1 none 1 20 f_X4_init := by
  intro p l e R s m args below meth c g n0 z0 r0 u0 C hr hn
  have C : am_Cx p l e R s m args below meth c g RX4 cX4_init 1 n0 z0 (am_len u0) (am_wt u0) 1 20 := C
  unfold f_X4_init
  exact (so_th (so_aload_n C dX4_init_0 rfl) (so_th (so_oinit C k_146 k_1 k_2 (by decide) dX4_init_1) (so_th (so_aload_n C dX4_init_4 rfl) (so_th (so_bipush C dX4_init_5 (by decide)) (so_th (so_newL C k_147 dX4_init_7) (so_th (so_putr C fl_RX4_9 (Or.inr ⟨_, rfl⟩) fp_4 (Or.inr ⟨rfl, hn, rfl⟩) dX4_init_9) (so_th (so_aload_n C dX4_init_12 rfl) (so_th (so_bipush C dX4_init_13 (by decide)) (so_th (so_newL C k_147 dX4_init_15) (so_th (so_putr C fl_RX4_15 (Or.inr ⟨_, rfl⟩) fp_4 (Or.inr ⟨rfl, hn, rfl⟩) dX4_init_17) (so_rv C hr dX4_init_20)))))))))))
theorem m_X4_init : am_M yX4_init cX4_init 1 none 1 20 d_X4_init := am_M_of (by decide +kernel) b_X4_init
theorem dX5_empty_0 : decode cX5_empty 0 = .ok (.aload_n 0, 1) := by decide +kernel
theorem dX5_empty_1 : decode cX5_empty 1 = .ok (.iconst 0, 1) := by decide +kernel
theorem dX5_empty_2 : decode cX5_empty 2 = .ok (.putfield 39, 3) := by decide +kernel
theorem dX5_empty_5 : decode cX5_empty 5 = .ok (.aload_n 0, 1) := by decide +kernel
theorem dX5_empty_6 : decode cX5_empty 6 = .ok (.iconst 0, 1) := by decide +kernel
theorem dX5_empty_7 : decode cX5_empty 7 = .ok (.putfield 43, 3) := by decide +kernel
theorem dX5_empty_10 : decode cX5_empty 10 = .ok (.aload_n 0, 1) := by decide +kernel
theorem dX5_empty_11 : decode cX5_empty 11 = .ok (.iconst 0, 1) := by decide +kernel
theorem dX5_empty_12 : decode cX5_empty 12 = .ok (.putfield 46, 3) := by decide +kernel
theorem dX5_empty_15 : decode cX5_empty 15 = .ok (.aload_n 0, 1) := by decide +kernel
theorem dX5_empty_16 : decode cX5_empty 16 = .ok (.iconst 0, 1) := by decide +kernel
theorem dX5_empty_17 : decode cX5_empty 17 = .ok (.putfield 49, 3) := by decide +kernel
theorem dX5_empty_20 : decode cX5_empty 20 = .ok (.aload_n 0, 1) := by decide +kernel
theorem dX5_empty_21 : decode cX5_empty 21 = .ok (.iconst 0, 1) := by decide +kernel
theorem dX5_empty_22 : decode cX5_empty 22 = .ok (.putfield 52, 3) := by decide +kernel
theorem dX5_empty_25 : decode cX5_empty 25 = .ok (.aload_n 0, 1) := by decide +kernel
theorem dX5_empty_26 : decode cX5_empty 26 = .ok (.iconst 0, 1) := by decide +kernel
theorem dX5_empty_27 : decode cX5_empty 27 = .ok (.putfield 55, 3) := by decide +kernel
theorem dX5_empty_30 : decode cX5_empty 30 = .ok (.aload_n 0, 1) := by decide +kernel
theorem dX5_empty_31 : decode cX5_empty 31 = .ok (.iconst 0, 1) := by decide +kernel
theorem dX5_empty_32 : decode cX5_empty 32 = .ok (.putfield 58, 3) := by decide +kernel
theorem dX5_empty_35 : decode cX5_empty 35 = .ok (.aload_n 0, 1) := by decide +kernel
theorem dX5_empty_36 : decode cX5_empty 36 = .ok (.iconst 0, 1) := by decide +kernel
theorem dX5_empty_37 : decode cX5_empty 37 = .ok (.putfield 61, 3) := by decide +kernel
theorem dX5_empty_40 : decode cX5_empty 40 = .ok (.iconst 0, 1) := by decide +kernel
theorem dX5_empty_41 : decode cX5_empty 41 = .ok (.istore_n 1, 1) := by decide +kernel
theorem dX5_empty_42 : decode cX5_empty 42 = .ok (.iload_n 1, 1) := by decide +kernel
theorem dX5_empty_43 : decode cX5_empty 43 = .ok (.bipush 16, 2) := by decide +kernel
theorem dX5_empty_45 : decode cX5_empty 45 = .ok (.if_icmp .ge 16, 3) := by decide +kernel
theorem dX5_empty_48 : decode cX5_empty 48 = .ok (.aload_n 0, 1) := by decide +kernel
theorem dX5_empty_49 : decode cX5_empty 49 = .ok (.getfield 27, 3) := by decide +kernel
theorem dX5_empty_52 : decode cX5_empty 52 = .ok (.iload_n 1, 1) := by decide +kernel
theorem dX5_empty_53 : decode cX5_empty 53 = .ok (.iconst 0, 1) := by decide +kernel
theorem dX5_empty_54 : decode cX5_empty 54 = .ok (.iastore, 1) := by decide +kernel
theorem dX5_empty_55 : decode cX5_empty 55 = .ok (.iinc 1 1, 3) := by decide +kernel
theorem dX5_empty_58 : decode cX5_empty 58 = .ok (.goto (-16), 3) := by decide +kernel
theorem dX5_empty_61 : decode cX5_empty 61 = .ok (.iconst 0, 1) := by decide +kernel
theorem dX5_empty_62 : decode cX5_empty 62 = .ok (.istore_n 1, 1) := by decide +kernel
theorem dX5_empty_63 : decode cX5_empty 63 = .ok (.iload_n 1, 1) := by decide +kernel
theorem dX5_empty_64 : decode cX5_empty 64 = .ok (.sipush 144, 3) := by decide +kernel
theorem dX5_empty_67 : decode cX5_empty 67 = .ok (.if_icmp .ge 16, 3) := by decide +kernel
theorem dX5_empty_70 : decode cX5_empty 70 = .ok (.aload_n 0, 1) := by decide +kernel
theorem dX5_empty_71 : decode cX5_empty 71 = .ok (.getfield 30, 3) := by decide +kernel
theorem dX5_empty_74 : decode cX5_empty 74 = .ok (.iload_n 1, 1) := by decide +kernel
theorem dX5_empty_75 : decode cX5_empty 75 = .ok (.iconst 0, 1) := by decide +kernel
theorem dX5_empty_76 : decode cX5_empty 76 = .ok (.iastore, 1) := by decide +kernel
theorem dX5_empty_77 : decode cX5_empty 77 = .ok (.iinc 1 1, 3) := by decide +kernel
theorem dX5_empty_80 : decode cX5_empty 80 = .ok (.goto (-17), 3) := by decide +kernel
theorem dX5_empty_83 : decode cX5_empty 83 = .ok (.return_, 1) := by decide +kernel
def f_X5_empty_l42 : am_F := am_th (i_il 1) (am_th (i_ic (16)) (am_br (b_2 (fun x y => decide (y ≤ x))) (am_to 61) (am_th (i_al 0) (am_th (i_gr 5 13) (am_th (i_il 1) (am_th (i_ic (0)) (am_th (i_iS) (am_th (i_inc 1 (1)) (am_to 42)))))))))
def f_X5_empty_l63 : am_F := am_th (i_il 1) (am_th (i_ic (144)) (am_br (b_2 (fun x y => decide (y ≤ x))) (am_to 83) (am_th (i_al 0) (am_th (i_gr 5 14) (am_th (i_il 1) (am_th (i_ic (0)) (am_th (i_iS) (am_th (i_inc 1 (1)) (am_to 63)))))))))
def f_X5_empty : am_F := am_th (i_al 0) (am_th (i_ic (0)) (am_th (i_pi 5 0) (am_th (i_al 0) (am_th (i_ic (0)) (am_th (i_pi 5 1) (am_th (i_al 0) (am_th (i_ic (0)) (am_th (i_pi 5 2) (am_th (i_al 0) (am_th (i_ic (0)) (am_th (i_pi 5 3) (am_th (i_al 0) (am_th (i_ic (0)) (am_th (i_pi 5 4) (am_th (i_al 0) (am_th (i_ic (0)) (am_th (i_pi 5 5) (am_th (i_al 0) (am_th (i_ic (0)) (am_th (i_pi 5 6) (am_th (i_al 0) (am_th (i_ic (0)) (am_th (i_pi 5 7) (am_th (i_ic (0)) (am_th (i_is 1) (am_sq 61 (am_lp 5000 42 f_X5_empty_l42) (am_th (i_ic (0)) (am_th (i_is 1) (am_sq 83 (am_lp 5000 63 f_X5_empty_l63) (r_v))))))))))))))))))))))))))))))
def d_X5_empty : am_D := am_den 2 f_X5_empty
set_option maxHeartbeats 4000000 in
set_option maxRecDepth 100000 in
theorem b_X5_empty : am_Body yX5_empty cX5_empty 2 none 0 0 f_X5_empty := by
  intro p l e R s m args below meth c g n0 z0 r0 u0 C hr hn
  have C : am_Cx p l e R s m args below meth c g RX5 cX5_empty 2 n0 z0 (am_len u0) (am_wt u0) 0 0 := C
  have l42 : am_Snd (am_GM p l e R s m args below meth c g 2 n0 z0 r0 u0) (am_Rt r0 u0) 42 (f_X5_empty_l42) := by
    unfold f_X5_empty_l42
    exact (so_th (so_iload_n C dX5_empty_42 rfl) (so_th (so_bipush C dX5_empty_43 (by decide)) (so_br (so_icmp_ge C dX5_empty_45 (by decide)) (so_to) (so_th (so_aload_n C dX5_empty_48 rfl) (so_th (so_getr C fl_RX5_27 dX5_empty_49) (so_th (so_iload_n C dX5_empty_52 rfl) (so_th (so_iconst C dX5_empty_53 (by decide)) (so_th (so_iast C dX5_empty_54) (so_th (so_iinc C dX5_empty_55 (by decide) (by decide)) (so_goto C dX5_empty_58 (by decide) (so_to)))))))))))
  have l63 : am_Snd (am_GM p l e R s m args below meth c g 2 n0 z0 r0 u0) (am_Rt r0 u0) 63 (f_X5_empty_l63) := by
    unfold f_X5_empty_l63
    exact (so_th (so_iload_n C dX5_empty_63 rfl) (so_th (so_sipush C dX5_empty_64 (by decide)) (so_br (so_icmp_ge C dX5_empty_67 (by decide)) (so_to) (so_th (so_aload_n C dX5_empty_70 rfl) (so_th (so_getr C fl_RX5_30 dX5_empty_71) (so_th (so_iload_n C dX5_empty_74 rfl) (so_th (so_iconst C dX5_empty_75 (by decide)) (so_th (so_iast C dX5_empty_76) (so_th (so_iinc C dX5_empty_77 (by decide) (by decide)) (so_goto C dX5_empty_80 (by decide) (so_to)))))))))))
  unfold f_X5_empty
  exact (so_th (so_aload_n C dX5_empty_0 rfl) (so_th (so_iconst C dX5_empty_1 (by decide)) (so_th (so_puti C fl_RX5_39 fp_5 (Or.inl rfl) dX5_empty_2) (so_th (so_aload_n C dX5_empty_5 rfl) (so_th (so_iconst C dX5_empty_6 (by decide)) (so_th (so_puti C fl_RX5_43 fp_5 (Or.inl rfl) dX5_empty_7) (so_th (so_aload_n C dX5_empty_10 rfl) (so_th (so_iconst C dX5_empty_11 (by decide)) (so_th (so_puti C fl_RX5_46 fp_5 (Or.inl rfl) dX5_empty_12) (so_th (so_aload_n C dX5_empty_15 rfl) (so_th (so_iconst C dX5_empty_16 (by decide)) (so_th (so_puti C fl_RX5_49 fp_5 (Or.inl rfl) dX5_empty_17) (so_th (so_aload_n C dX5_empty_20 rfl) (so_th (so_iconst C dX5_empty_21 (by decide)) (so_th (so_puti C fl_RX5_52 fp_5 (Or.inl rfl) dX5_empty_22) (so_th (so_aload_n C dX5_empty_25 rfl) (so_th (so_iconst C dX5_empty_26 (by decide)) (so_th (so_puti C fl_RX5_55 fp_5 (Or.inl rfl) dX5_empty_27) (so_th (so_aload_n C dX5_empty_30 rfl) (so_th (so_iconst C dX5_empty_31 (by decide)) (so_th (so_puti C fl_RX5_58 fp_5 (Or.inl rfl) dX5_empty_32) (so_th (so_aload_n C dX5_empty_35 rfl) (so_th (so_iconst C dX5_empty_36 (by decide)) (so_th (so_puti C fl_RX5_61 fp_5 (Or.inl rfl) dX5_empty_37) (so_th (so_iconst C dX5_empty_40 (by decide)) (so_th (so_istore_n C dX5_empty_41 rfl (by decide)) (so_sq (so_lp l42 5000) (so_th (so_iconst C dX5_empty_61 (by decide)) (so_th (so_istore_n C dX5_empty_62 rfl (by decide)) (so_sq (so_lp l63 5000) (so_rv C hr dX5_empty_83)))))))))))))))))))))))))))))))
theorem m_X5_empty : am_M yX5_empty cX5_empty 2 none 0 0 d_X5_empty := am_M_of (by decide +kernel) b_X5_empty
