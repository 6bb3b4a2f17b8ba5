theorem dX4_readWord_0 : decode cX4_readWord 0 = .ok (.aload_n 0, 1) := by decide +kernel
theorem dX4_readWord_1 : decode cX4_readWord 1 = .ok (.getfield 65, 3) := by decide +kernel
theorem dX4_readWord_4 : decode cX4_readWord 4 = .ok (.istore_n 1, 1) := by decide +kernel
theorem dX4_readWord_5 : decode cX4_readWord 5 = .ok (.aload_n 0, 1) := by decide +kernel
theorem dX4_readWord_6 : decode cX4_readWord 6 = .ok (.lconst 0, 1) := by decide +kernel
theorem dX4_readWord_7 : decode cX4_readWord 7 = .ok (.putfield 74, 3) := by decide +kernel
theorem dX4_readWord_10 : decode cX4_readWord 10 = .ok (.iload_n 1, 1) := by decide +kernel
theorem dX4_readWord_11 : decode cX4_readWord 11 = .ok (.aload_n 0, 1) := by decide +kernel
theorem dX4_readWord_12 : decode cX4_readWord 12 = .ok (.getfield 22, 3) := by decide +kernel
theorem dX4_readWord_15 : decode cX4_readWord 15 = .ok (.if_icmp .ge 56, 3) := by decide +kernel
theorem dX4_readWord_18 : decode cX4_readWord 18 = .ok (.aload_n 0, 1) := by decide +kernel
theorem dX4_readWord_19 : decode cX4_readWord 19 = .ok (.getfield 18, 3) := by decide +kernel
theorem dX4_readWord_22 : decode cX4_readWord 22 = .ok (.iload_n 1, 1) := by decide +kernel
theorem dX4_readWord_23 : decode cX4_readWord 23 = .ok (.baload, 1) := by decide +kernel
theorem dX4_readWord_24 : decode cX4_readWord 24 = .ok (.bipush 97, 2) := by decide +kernel
theorem dX4_readWord_26 : decode cX4_readWord 26 = .ok (.if_icmp .lt 45, 3) := by decide +kernel
theorem dX4_readWord_29 : decode cX4_readWord 29 = .ok (.aload_n 0, 1) := by decide +kernel
theorem dX4_readWord_30 : decode cX4_readWord 30 = .ok (.getfield 18, 3) := by decide +kernel
theorem dX4_readWord_33 : decode cX4_readWord 33 = .ok (.iload_n 1, 1) := by decide +kernel
theorem dX4_readWord_34 : decode cX4_readWord 34 = .ok (.baload, 1) := by decide +kernel
theorem dX4_readWord_35 : decode cX4_readWord 35 = .ok (.bipush 122, 2) := by decide +kernel
theorem dX4_readWord_37 : decode cX4_readWord 37 = .ok (.if_icmp .gt 34, 3) := by decide +kernel
theorem dX4_readWord_40 : decode cX4_readWord 40 = .ok (.aload_n 0, 1) := by decide +kernel
theorem dX4_readWord_41 : decode cX4_readWord 41 = .ok (.aload_n 0, 1) := by decide +kernel
theorem dX4_readWord_42 : decode cX4_readWord 42 = .ok (.getfield 74, 3) := by decide +kernel
theorem dX4_readWord_45 : decode cX4_readWord 45 = .ok (.ldc2_w 78, 3) := by decide +kernel
theorem dX4_readWord_48 : decode cX4_readWord 48 = .ok (.lmul, 1) := by decide +kernel
theorem dX4_readWord_49 : decode cX4_readWord 49 = .ok (.aload_n 0, 1) := by decide +kernel
theorem dX4_readWord_50 : decode cX4_readWord 50 = .ok (.getfield 18, 3) := by decide +kernel
theorem dX4_readWord_53 : decode cX4_readWord 53 = .ok (.iload_n 1, 1) := by decide +kernel
theorem dX4_readWord_54 : decode cX4_readWord 54 = .ok (.baload, 1) := by decide +kernel
theorem dX4_readWord_55 : decode cX4_readWord 55 = .ok (.bipush 97, 2) := by decide +kernel
theorem dX4_readWord_57 : decode cX4_readWord 57 = .ok (.isub, 1) := by decide +kernel
theorem dX4_readWord_58 : decode cX4_readWord 58 = .ok (.iconst 1, 1) := by decide +kernel
theorem dX4_readWord_59 : decode cX4_readWord 59 = .ok (.iadd, 1) := by decide +kernel
theorem dX4_readWord_60 : decode cX4_readWord 60 = .ok (.i2l, 1) := by decide +kernel
theorem dX4_readWord_61 : decode cX4_readWord 61 = .ok (.ladd, 1) := by decide +kernel
theorem dX4_readWord_62 : decode cX4_readWord 62 = .ok (.putfield 74, 3) := by decide +kernel
theorem dX4_readWord_65 : decode cX4_readWord 65 = .ok (.iinc 1 1, 3) := by decide +kernel
theorem dX4_readWord_68 : decode cX4_readWord 68 = .ok (.goto (-58), 3) := by decide +kernel
theorem dX4_readWord_71 : decode cX4_readWord 71 = .ok (.aload_n 0, 1) := by decide +kernel
theorem dX4_readWord_72 : decode cX4_readWord 72 = .ok (.iload_n 1, 1) := by decide +kernel
theorem dX4_readWord_73 : decode cX4_readWord 73 = .ok (.putfield 45, 3) := by decide +kernel
theorem dX4_readWord_76 : decode cX4_readWord 76 = .ok (.aload_n 0, 1) := by decide +kernel
theorem dX4_readWord_77 : decode cX4_readWord 77 = .ok (.iload_n 1, 1) := by decide +kernel
theorem dX4_readWord_78 : decode cX4_readWord 78 = .ok (.aload_n 0, 1) := by decide +kernel
theorem dX4_readWord_79 : decode cX4_readWord 79 = .ok (.getfield 65, 3) := by decide +kernel
theorem dX4_readWord_82 : decode cX4_readWord 82 = .ok (.isub, 1) := by decide +kernel
theorem dX4_readWord_83 : decode cX4_readWord 83 = .ok (.bipush 8, 2) := by decide +kernel
theorem dX4_readWord_85 : decode cX4_readWord 85 = .ok (.if_icmp .gt 7, 3) := by decide +kernel
theorem dX4_readWord_88 : decode cX4_readWord 88 = .ok (.iconst 1, 1) := by decide +kernel
theorem dX4_readWord_89 : decode cX4_readWord 89 = .ok (.goto 4, 3) := by decide +kernel
theorem dX4_readWord_92 : decode cX4_readWord 92 = .ok (.iconst 4, 1) := by decide +kernel
theorem dX4_readWord_93 : decode cX4_readWord 93 = .ok (.putfield 55, 3) := by decide +kernel
theorem dX4_readWord_96 : decode cX4_readWord 96 = .ok (.return_, 1) := by decide +kernel
def f_X4_readWord_l10 : am_F := am_th (i_il 1) (am_th (i_al 0) (am_th (i_gi 4 3) (am_br (b_2 (fun x y => decide (y ≤ x))) (am_to 71) (am_th (i_al 0) (am_th (i_gr 4 2) (am_th (i_il 1) (am_th (i_ia 1) (am_th (i_ic (97)) (am_br (b_2 (fun x y => decide (x < y))) (am_to 71) (am_th (i_al 0) (am_th (i_gr 4 2) (am_th (i_il 1) (am_th (i_ia 1) (am_th (i_ic (122)) (am_br (b_2 (fun x y => decide (y < x))) (am_to 71) (am_th (i_al 0) (am_th (i_al 0) (am_th (i_gl 4 10) (am_th (i_lc (27)) (am_th (j_2 (fun x y => x * y)) (am_th (i_al 0) (am_th (i_gr 4 2) (am_th (i_il 1) (am_th (i_ia 1) (am_th (i_ic (97)) (am_th (i_2 (fun x y => x - y)) (am_th (i_ic (1)) (am_th (i_2 (fun x y => x + y)) (am_th (i_i2l) (am_th (j_2 (fun x y => x + y)) (am_th (i_pl 4 10) (am_th (i_inc 1 (1)) (am_to 10)))))))))))))))))))))))))))))))))
def f_X4_readWord : am_F := am_th (i_al 0) (am_th (i_gi 4 7) (am_th (i_is 1) (am_th (i_al 0) (am_th (i_lc (0)) (am_th (i_pl 4 10) (am_sq 71 (am_lp 5000 10 f_X4_readWord_l10) (am_th (i_al 0) (am_th (i_il 1) (am_th (i_pi 4 8) (am_th (i_al 0) (am_th (i_il 1) (am_th (i_al 0) (am_th (i_gi 4 7) (am_th (i_2 (fun x y => x - y)) (am_th (i_ic (8)) (am_br (b_2 (fun x y => decide (y < x))) (am_th (i_ic (4)) (am_th (i_pi 4 6) (r_v))) (am_th (i_ic (1)) (am_th (i_pi 4 6) (r_v)))))))))))))))))))
def d_X4_readWord : am_D := am_den 2 f_X4_readWord
set_option maxHeartbeats 4000000 in
set_option maxRecDepth 100000 in
theorem b_X4_readWord : am_Body yX4_readWord cX4_readWord 2 none 0 0 f_X4_readWord := by
  intro p l e R s m args below meth c g n0 z0 r0 u0 C hr hn
  have C : am_Cx p l e R s m args below meth c g RX4 cX4_readWord 2 n0 z0 (am_len u0) (am_wt u0) 0 0 := C
  have l10 : am_Snd (am_GM p l e R s m args below meth c g 2 n0 z0 r0 u0) (am_Rt r0 u0) 10 (f_X4_readWord_l10) := by
    unfold f_X4_readWord_l10
    exact (so_th (so_iload_n C dX4_readWord_10 rfl) (so_th (so_aload_n C dX4_readWord_11 rfl) (so_th (so_geti C fl_RX4_22 (by decide) dX4_readWord_12) (so_br (so_icmp_ge C dX4_readWord_15 (by decide)) (so_to) (so_th (so_aload_n C dX4_readWord_18 rfl) (so_th (so_getr C fl_RX4_18 dX4_readWord_19) (so_th (so_iload_n C dX4_readWord_22 rfl) (so_th (so_bald C dX4_readWord_23) (so_th (so_bipush C dX4_readWord_24 (by decide)) (so_br (so_icmp_lt C dX4_readWord_26 (by decide)) (so_to) (so_th (so_aload_n C dX4_readWord_29 rfl) (so_th (so_getr C fl_RX4_18 dX4_readWord_30) (so_th (so_iload_n C dX4_readWord_33 rfl) (so_th (so_bald C dX4_readWord_34) (so_th (so_bipush C dX4_readWord_35 (by decide)) (so_br (so_icmp_gt C dX4_readWord_37 (by decide)) (so_to) (so_th (so_aload_n C dX4_readWord_40 rfl) (so_th (so_aload_n C dX4_readWord_41 rfl) (so_th (so_getl C fl_RX4_74 dX4_readWord_42) (so_th (so_ldc2 C dX4_readWord_45 k_148) (so_th (so_lmul C dX4_readWord_48) (so_th (so_aload_n C dX4_readWord_49 rfl) (so_th (so_getr C fl_RX4_18 dX4_readWord_50) (so_th (so_iload_n C dX4_readWord_53 rfl) (so_th (so_bald C dX4_readWord_54) (so_th (so_bipush C dX4_readWord_55 (by decide)) (so_th (so_isub C dX4_readWord_57) (so_th (so_iconst C dX4_readWord_58 (by decide)) (so_th (so_iadd C dX4_readWord_59) (so_th (so_i2l C dX4_readWord_60) (so_th (so_ladd C dX4_readWord_61) (so_th (so_putl C fl_RX4_74 fp_4 (Or.inl rfl) dX4_readWord_62) (so_th (so_iinc C dX4_readWord_65 (by decide) (by decide)) (so_goto C dX4_readWord_68 (by decide) (so_to)))))))))))))))))))))))))))))))))))
  unfold f_X4_readWord
  exact (so_th (so_aload_n C dX4_readWord_0 rfl) (so_th (so_geti C fl_RX4_65 (by decide) dX4_readWord_1) (so_th (so_istore_n C dX4_readWord_4 rfl (by decide)) (so_th (so_aload_n C dX4_readWord_5 rfl) (so_th (so_lconst C dX4_readWord_6 (by decide)) (so_th (so_putl C fl_RX4_74 fp_4 (Or.inl rfl) dX4_readWord_7) (so_sq (so_lp l10 5000) (so_th (so_aload_n C dX4_readWord_71 rfl) (so_th (so_iload_n C dX4_readWord_72 rfl) (so_th (so_puti C fl_RX4_45 fp_4 (Or.inl rfl) dX4_readWord_73) (so_th (so_aload_n C dX4_readWord_76 rfl) (so_th (so_iload_n C dX4_readWord_77 rfl) (so_th (so_aload_n C dX4_readWord_78 rfl) (so_th (so_geti C fl_RX4_65 (by decide) dX4_readWord_79) (so_th (so_isub C dX4_readWord_82) (so_th (so_bipush C dX4_readWord_83 (by decide)) (so_br (so_icmp_gt C dX4_readWord_85 (by decide)) (so_th (so_iconst C dX4_readWord_92 (by decide)) (so_th (so_puti C fl_RX4_55 fp_4 (Or.inl rfl) dX4_readWord_93) (so_rv C hr dX4_readWord_96))) (so_th (so_iconst C dX4_readWord_88 (by decide)) (so_goto C dX4_readWord_89 (by decide) (so_th (so_puti C fl_RX4_55 fp_4 (Or.inl rfl) dX4_readWord_93) (so_rv C hr dX4_readWord_96)))))))))))))))))))))
theorem m_X4_readWord : am_M yX4_readWord cX4_readWord 2 none 0 0 d_X4_readWord := am_M_of (by decide +kernel) b_X4_readWord
theorem dX4_readWhole_0 : decode cX4_readWhole 0 = .ok (.aload_n 0, 1) := by decide +kernel
theorem dX4_readWhole_1 : decode cX4_readWhole 1 = .ok (.getfield 65, 3) := by decide +kernel
theorem dX4_readWhole_4 : decode cX4_readWhole 4 = .ok (.istore_n 1, 1) := by decide +kernel
theorem dX4_readWhole_5 : decode cX4_readWhole 5 = .ok (.aload_n 0, 1) := by decide +kernel
theorem dX4_readWhole_6 : decode cX4_readWhole 6 = .ok (.iconst 0, 1) := by decide +kernel
theorem dX4_readWhole_7 : decode cX4_readWhole 7 = .ok (.putfield 80, 3) := by decide +kernel
theorem dX4_readWhole_10 : decode cX4_readWhole 10 = .ok (.iload_n 1, 1) := by decide +kernel
theorem dX4_readWhole_11 : decode cX4_readWhole 11 = .ok (.aload_n 0, 1) := by decide +kernel
theorem dX4_readWhole_12 : decode cX4_readWhole 12 = .ok (.getfield 22, 3) := by decide +kernel
theorem dX4_readWhole_15 : decode cX4_readWhole 15 = .ok (.if_icmp .ge 52, 3) := by decide +kernel
theorem dX4_readWhole_18 : decode cX4_readWhole 18 = .ok (.aload_n 0, 1) := by decide +kernel
theorem dX4_readWhole_19 : decode cX4_readWhole 19 = .ok (.getfield 18, 3) := by decide +kernel
theorem dX4_readWhole_22 : decode cX4_readWhole 22 = .ok (.iload_n 1, 1) := by decide +kernel
theorem dX4_readWhole_23 : decode cX4_readWhole 23 = .ok (.baload, 1) := by decide +kernel
theorem dX4_readWhole_24 : decode cX4_readWhole 24 = .ok (.bipush 48, 2) := by decide +kernel
theorem dX4_readWhole_26 : decode cX4_readWhole 26 = .ok (.if_icmp .lt 41, 3) := by decide +kernel
theorem dX4_readWhole_29 : decode cX4_readWhole 29 = .ok (.aload_n 0, 1) := by decide +kernel
theorem dX4_readWhole_30 : decode cX4_readWhole 30 = .ok (.getfield 18, 3) := by decide +kernel
theorem dX4_readWhole_33 : decode cX4_readWhole 33 = .ok (.iload_n 1, 1) := by decide +kernel
theorem dX4_readWhole_34 : decode cX4_readWhole 34 = .ok (.baload, 1) := by decide +kernel
theorem dX4_readWhole_35 : decode cX4_readWhole 35 = .ok (.bipush 57, 2) := by decide +kernel
theorem dX4_readWhole_37 : decode cX4_readWhole 37 = .ok (.if_icmp .gt 30, 3) := by decide +kernel
theorem dX4_readWhole_40 : decode cX4_readWhole 40 = .ok (.aload_n 0, 1) := by decide +kernel
theorem dX4_readWhole_41 : decode cX4_readWhole 41 = .ok (.aload_n 0, 1) := by decide +kernel
theorem dX4_readWhole_42 : decode cX4_readWhole 42 = .ok (.getfield 80, 3) := by decide +kernel
theorem dX4_readWhole_45 : decode cX4_readWhole 45 = .ok (.bipush 10, 2) := by decide +kernel
theorem dX4_readWhole_47 : decode cX4_readWhole 47 = .ok (.imul, 1) := by decide +kernel
theorem dX4_readWhole_48 : decode cX4_readWhole 48 = .ok (.aload_n 0, 1) := by decide +kernel
theorem dX4_readWhole_49 : decode cX4_readWhole 49 = .ok (.getfield 18, 3) := by decide +kernel
theorem dX4_readWhole_52 : decode cX4_readWhole 52 = .ok (.iload_n 1, 1) := by decide +kernel
theorem dX4_readWhole_53 : decode cX4_readWhole 53 = .ok (.baload, 1) := by decide +kernel
theorem dX4_readWhole_54 : decode cX4_readWhole 54 = .ok (.bipush 48, 2) := by decide +kernel
theorem dX4_readWhole_56 : decode cX4_readWhole 56 = .ok (.isub, 1) := by decide +kernel
theorem dX4_readWhole_57 : decode cX4_readWhole 57 = .ok (.iadd, 1) := by decide +kernel
theorem dX4_readWhole_58 : decode cX4_readWhole 58 = .ok (.putfield 80, 3) := by decide +kernel
theorem dX4_readWhole_61 : decode cX4_readWhole 61 = .ok (.iinc 1 1, 3) := by decide +kernel
theorem dX4_readWhole_64 : decode cX4_readWhole 64 = .ok (.goto (-54), 3) := by decide +kernel
theorem dX4_readWhole_67 : decode cX4_readWhole 67 = .ok (.aload_n 0, 1) := by decide +kernel
theorem dX4_readWhole_68 : decode cX4_readWhole 68 = .ok (.iload_n 1, 1) := by decide +kernel
theorem dX4_readWhole_69 : decode cX4_readWhole 69 = .ok (.putfield 45, 3) := by decide +kernel
theorem dX4_readWhole_72 : decode cX4_readWhole 72 = .ok (.aload_n 0, 1) := by decide +kernel
theorem dX4_readWhole_73 : decode cX4_readWhole 73 = .ok (.iload_n 1, 1) := by decide +kernel
theorem dX4_readWhole_74 : decode cX4_readWhole 74 = .ok (.aload_n 0, 1) := by decide +kernel
theorem dX4_readWhole_75 : decode cX4_readWhole 75 = .ok (.getfield 65, 3) := by decide +kernel
theorem dX4_readWhole_78 : decode cX4_readWhole 78 = .ok (.isub, 1) := by decide +kernel
theorem dX4_readWhole_79 : decode cX4_readWhole 79 = .ok (.iconst 3, 1) := by decide +kernel
theorem dX4_readWhole_80 : decode cX4_readWhole 80 = .ok (.if_icmp .gt 7, 3) := by decide +kernel
theorem dX4_readWhole_83 : decode cX4_readWhole 83 = .ok (.iconst 2, 1) := by decide +kernel
theorem dX4_readWhole_84 : decode cX4_readWhole 84 = .ok (.goto 4, 3) := by decide +kernel
theorem dX4_readWhole_87 : decode cX4_readWhole 87 = .ok (.iconst 4, 1) := by decide +kernel
theorem dX4_readWhole_88 : decode cX4_readWhole 88 = .ok (.putfield 55, 3) := by decide +kernel
theorem dX4_readWhole_91 : decode cX4_readWhole 91 = .ok (.return_, 1) := by decide +kernel
def f_X4_readWhole_l10 : am_F := am_th (i_il 1) (am_th (i_al 0) (am_th (i_gi 4 3) (am_br (b_2 (fun x y => decide (y ≤ x))) (am_to 67) (am_th (i_al 0) (am_th (i_gr 4 2) (am_th (i_il 1) (am_th (i_ia 1) (am_th (i_ic (48)) (am_br (b_2 (fun x y => decide (x < y))) (am_to 67) (am_th (i_al 0) (am_th (i_gr 4 2) (am_th (i_il 1) (am_th (i_ia 1) (am_th (i_ic (57)) (am_br (b_2 (fun x y => decide (y < x))) (am_to 67) (am_th (i_al 0) (am_th (i_al 0) (am_th (i_gi 4 9) (am_th (i_ic (10)) (am_th (i_2 (fun x y => x * y)) (am_th (i_al 0) (am_th (i_gr 4 2) (am_th (i_il 1) (am_th (i_ia 1) (am_th (i_ic (48)) (am_th (i_2 (fun x y => x - y)) (am_th (i_2 (fun x y => x + y)) (am_th (i_pi 4 9) (am_th (i_inc 1 (1)) (am_to 10))))))))))))))))))))))))))))))
def f_X4_readWhole : am_F := am_th (i_al 0) (am_th (i_gi 4 7) (am_th (i_is 1) (am_th (i_al 0) (am_th (i_ic (0)) (am_th (i_pi 4 9) (am_sq 67 (am_lp 5000 10 f_X4_readWhole_l10) (am_th (i_al 0) (am_th (i_il 1) (am_th (i_pi 4 8) (am_th (i_al 0) (am_th (i_il 1) (am_th (i_al 0) (am_th (i_gi 4 7) (am_th (i_2 (fun x y => x - y)) (am_th (i_ic (3)) (am_br (b_2 (fun x y => decide (y < x))) (am_th (i_ic (4)) (am_th (i_pi 4 6) (r_v))) (am_th (i_ic (2)) (am_th (i_pi 4 6) (r_v)))))))))))))))))))
def d_X4_readWhole : am_D := am_den 2 f_X4_readWhole
set_option maxHeartbeats 4000000 in
set_option maxRecDepth 100000 in
theorem b_X4_readWhole : am_Body yX4_readWhole cX4_readWhole 2 none 0 0 f_X4_readWhole := by
  intro p l e R s m args below meth c g n0 z0 r0 u0 C hr hn
  have C : am_Cx p l e R s m args below meth c g RX4 cX4_readWhole 2 n0 z0 (am_len u0) (am_wt u0) 0 0 := C
  have l10 : am_Snd (am_GM p l e R s m args below meth c g 2 n0 z0 r0 u0) (am_Rt r0 u0) 10 (f_X4_readWhole_l10) := by
    unfold f_X4_readWhole_l10
    exact (so_th (so_iload_n C dX4_readWhole_10 rfl) (so_th (so_aload_n C dX4_readWhole_11 rfl) (so_th (so_geti C fl_RX4_22 (by decide) dX4_readWhole_12) (so_br (so_icmp_ge C dX4_readWhole_15 (by decide)) (so_to) (so_th (so_aload_n C dX4_readWhole_18 rfl) (so_th (so_getr C fl_RX4_18 dX4_readWhole_19) (so_th (so_iload_n C dX4_readWhole_22 rfl) (so_th (so_bald C dX4_readWhole_23) (so_th (so_bipush C dX4_readWhole_24 (by decide)) (so_br (so_icmp_lt C dX4_readWhole_26 (by decide)) (so_to) (so_th (so_aload_n C dX4_readWhole_29 rfl) (so_th (so_getr C fl_RX4_18 dX4_readWhole_30) (so_th (so_iload_n C dX4_readWhole_33 rfl) (so_th (so_bald C dX4_readWhole_34) (so_th (so_bipush C dX4_readWhole_35 (by decide)) (so_br (so_icmp_gt C dX4_readWhole_37 (by decide)) (so_to) (so_th (so_aload_n C dX4_readWhole_40 rfl) (so_th (so_aload_n C dX4_readWhole_41 rfl) (so_th (so_geti C fl_RX4_80 (by decide) dX4_readWhole_42) (so_th (so_bipush C dX4_readWhole_45 (by decide)) (so_th (so_imul C dX4_readWhole_47) (so_th (so_aload_n C dX4_readWhole_48 rfl) (so_th (so_getr C fl_RX4_18 dX4_readWhole_49) (so_th (so_iload_n C dX4_readWhole_52 rfl) (so_th (so_bald C dX4_readWhole_53) (so_th (so_bipush C dX4_readWhole_54 (by decide)) (so_th (so_isub C dX4_readWhole_56) (so_th (so_iadd C dX4_readWhole_57) (so_th (so_puti C fl_RX4_80 fp_4 (Or.inl rfl) dX4_readWhole_58) (so_th (so_iinc C dX4_readWhole_61 (by decide) (by decide)) (so_goto C dX4_readWhole_64 (by decide) (so_to))))))))))))))))))))))))))))))))
  unfold f_X4_readWhole
  exact (so_th (so_aload_n C dX4_readWhole_0 rfl) (so_th (so_geti C fl_RX4_65 (by decide) dX4_readWhole_1) (so_th (so_istore_n C dX4_readWhole_4 rfl (by decide)) (so_th (so_aload_n C dX4_readWhole_5 rfl) (so_th (so_iconst C dX4_readWhole_6 (by decide)) (so_th (so_puti C fl_RX4_80 fp_4 (Or.inl rfl) dX4_readWhole_7) (so_sq (so_lp l10 5000) (so_th (so_aload_n C dX4_readWhole_67 rfl) (so_th (so_iload_n C dX4_readWhole_68 rfl) (so_th (so_puti C fl_RX4_45 fp_4 (Or.inl rfl) dX4_readWhole_69) (so_th (so_aload_n C dX4_readWhole_72 rfl) (so_th (so_iload_n C dX4_readWhole_73 rfl) (so_th (so_aload_n C dX4_readWhole_74 rfl) (so_th (so_geti C fl_RX4_65 (by decide) dX4_readWhole_75) (so_th (so_isub C dX4_readWhole_78) (so_th (so_iconst C dX4_readWhole_79 (by decide)) (so_br (so_icmp_gt C dX4_readWhole_80 (by decide)) (so_th (so_iconst C dX4_readWhole_87 (by decide)) (so_th (so_puti C fl_RX4_55 fp_4 (Or.inl rfl) dX4_readWhole_88) (so_rv C hr dX4_readWhole_91))) (so_th (so_iconst C dX4_readWhole_83 (by decide)) (so_goto C dX4_readWhole_84 (by decide) (so_th (so_puti C fl_RX4_55 fp_4 (Or.inl rfl) dX4_readWhole_88) (so_rv C hr dX4_readWhole_91)))))))))))))))))))))
theorem m_X4_readWhole : am_M yX4_readWhole cX4_readWhole 2 none 0 0 d_X4_readWhole := am_M_of (by decide +kernel) b_X4_readWhole
theorem dX4_readToken_0 : decode cX4_readToken 0 = .ok (.aload_n 0, 1) := by decide +kernel
theorem dX4_readToken_1 : decode cX4_readToken 1 = .ok (.getfield 45, 3) := by decide +kernel
theorem dX4_readToken_4 : decode cX4_readToken 4 = .ok (.istore_n 1, 1) := by decide +kernel
theorem dX4_readToken_5 : decode cX4_readToken 5 = .ok (.iload_n 1, 1) := by decide +kernel
theorem dX4_readToken_6 : decode cX4_readToken 6 = .ok (.aload_n 0, 1) := by decide +kernel
theorem dX4_readToken_7 : decode cX4_readToken 7 = .ok (.getfield 22, 3) := by decide +kernel
theorem dX4_readToken_10 : decode cX4_readToken 10 = .ok (.if_icmp .ge 20, 3) := by decide +kernel
theorem dX4_readToken_13 : decode cX4_readToken 13 = .ok (.aload_n 0, 1) := by decide +kernel
theorem dX4_readToken_14 : decode cX4_readToken 14 = .ok (.getfield 18, 3) := by decide +kernel
theorem dX4_readToken_17 : decode cX4_readToken 17 = .ok (.iload_n 1, 1) := by decide +kernel
theorem dX4_readToken_18 : decode cX4_readToken 18 = .ok (.baload, 1) := by decide +kernel
theorem dX4_readToken_19 : decode cX4_readToken 19 = .ok (.bipush 32, 2) := by decide +kernel
theorem dX4_readToken_21 : decode cX4_readToken 21 = .ok (.if_icmp .ne 9, 3) := by decide +kernel
theorem dX4_readToken_24 : decode cX4_readToken 24 = .ok (.iinc 1 1, 3) := by decide +kernel
theorem dX4_readToken_27 : decode cX4_readToken 27 = .ok (.goto (-22), 3) := by decide +kernel
theorem dX4_readToken_30 : decode cX4_readToken 30 = .ok (.aload_n 0, 1) := by decide +kernel
theorem dX4_readToken_31 : decode cX4_readToken 31 = .ok (.iload_n 1, 1) := by decide +kernel
theorem dX4_readToken_32 : decode cX4_readToken 32 = .ok (.putfield 65, 3) := by decide +kernel
theorem dX4_readToken_35 : decode cX4_readToken 35 = .ok (.aload_n 0, 1) := by decide +kernel
theorem dX4_readToken_36 : decode cX4_readToken 36 = .ok (.iload_n 1, 1) := by decide +kernel
theorem dX4_readToken_37 : decode cX4_readToken 37 = .ok (.iconst 1, 1) := by decide +kernel
theorem dX4_readToken_38 : decode cX4_readToken 38 = .ok (.iadd, 1) := by decide +kernel
theorem dX4_readToken_39 : decode cX4_readToken 39 = .ok (.putfield 45, 3) := by decide +kernel
theorem dX4_readToken_42 : decode cX4_readToken 42 = .ok (.iload_n 1, 1) := by decide +kernel
theorem dX4_readToken_43 : decode cX4_readToken 43 = .ok (.aload_n 0, 1) := by decide +kernel
theorem dX4_readToken_44 : decode cX4_readToken 44 = .ok (.getfield 22, 3) := by decide +kernel
theorem dX4_readToken_47 : decode cX4_readToken 47 = .ok (.if_icmp .lt 16, 3) := by decide +kernel
theorem dX4_readToken_50 : decode cX4_readToken 50 = .ok (.aload_n 0, 1) := by decide +kernel
theorem dX4_readToken_51 : decode cX4_readToken 51 = .ok (.iconst 0, 1) := by decide +kernel
theorem dX4_readToken_52 : decode cX4_readToken 52 = .ok (.putfield 55, 3) := by decide +kernel
theorem dX4_readToken_55 : decode cX4_readToken 55 = .ok (.aload_n 0, 1) := by decide +kernel
theorem dX4_readToken_56 : decode cX4_readToken 56 = .ok (.iload_n 1, 1) := by decide +kernel
theorem dX4_readToken_57 : decode cX4_readToken 57 = .ok (.putfield 45, 3) := by decide +kernel
theorem dX4_readToken_60 : decode cX4_readToken 60 = .ok (.goto 85, 3) := by decide +kernel
theorem dX4_readToken_63 : decode cX4_readToken 63 = .ok (.aload_n 0, 1) := by decide +kernel
theorem dX4_readToken_64 : decode cX4_readToken 64 = .ok (.getfield 18, 3) := by decide +kernel
theorem dX4_readToken_67 : decode cX4_readToken 67 = .ok (.iload_n 1, 1) := by decide +kernel
theorem dX4_readToken_68 : decode cX4_readToken 68 = .ok (.baload, 1) := by decide +kernel
theorem dX4_readToken_69 : decode cX4_readToken 69 = .ok (.bipush 59, 2) := by decide +kernel
theorem dX4_readToken_71 : decode cX4_readToken 71 = .ok (.if_icmp .ne 11, 3) := by decide +kernel
theorem dX4_readToken_74 : decode cX4_readToken 74 = .ok (.aload_n 0, 1) := by decide +kernel
theorem dX4_readToken_75 : decode cX4_readToken 75 = .ok (.iconst 3, 1) := by decide +kernel
theorem dX4_readToken_76 : decode cX4_readToken 76 = .ok (.putfield 55, 3) := by decide +kernel
theorem dX4_readToken_79 : decode cX4_readToken 79 = .ok (.goto 66, 3) := by decide +kernel
theorem dX4_readToken_82 : decode cX4_readToken 82 = .ok (.aload_n 0, 1) := by decide +kernel
theorem dX4_readToken_83 : decode cX4_readToken 83 = .ok (.getfield 18, 3) := by decide +kernel
theorem dX4_readToken_86 : decode cX4_readToken 86 = .ok (.iload_n 1, 1) := by decide +kernel
theorem dX4_readToken_87 : decode cX4_readToken 87 = .ok (.baload, 1) := by decide +kernel
theorem dX4_readToken_88 : decode cX4_readToken 88 = .ok (.bipush 97, 2) := by decide +kernel
theorem dX4_readToken_90 : decode cX4_readToken 90 = .ok (.if_icmp .lt 21, 3) := by decide +kernel
theorem dX4_readToken_93 : decode cX4_readToken 93 = .ok (.aload_n 0, 1) := by decide +kernel
theorem dX4_readToken_94 : decode cX4_readToken 94 = .ok (.getfield 18, 3) := by decide +kernel
theorem dX4_readToken_97 : decode cX4_readToken 97 = .ok (.iload_n 1, 1) := by decide +kernel
theorem dX4_readToken_98 : decode cX4_readToken 98 = .ok (.baload, 1) := by decide +kernel
theorem dX4_readToken_99 : decode cX4_readToken 99 = .ok (.bipush 122, 2) := by decide +kernel
theorem dX4_readToken_101 : decode cX4_readToken 101 = .ok (.if_icmp .gt 10, 3) := by decide +kernel
theorem dX4_readToken_104 : decode cX4_readToken 104 = .ok (.aload_n 0, 1) := by decide +kernel
theorem dX4_readToken_105 : decode cX4_readToken 105 = .ok (.invokevirtual 68, 3) := by decide +kernel
theorem dX4_readToken_108 : decode cX4_readToken 108 = .ok (.goto 37, 3) := by decide +kernel
theorem dX4_readToken_111 : decode cX4_readToken 111 = .ok (.aload_n 0, 1) := by decide +kernel
theorem dX4_readToken_112 : decode cX4_readToken 112 = .ok (.getfield 18, 3) := by decide +kernel
theorem dX4_readToken_115 : decode cX4_readToken 115 = .ok (.iload_n 1, 1) := by decide +kernel
theorem dX4_readToken_116 : decode cX4_readToken 116 = .ok (.baload, 1) := by decide +kernel
theorem dX4_readToken_117 : decode cX4_readToken 117 = .ok (.bipush 48, 2) := by decide +kernel
theorem dX4_readToken_119 : decode cX4_readToken 119 = .ok (.if_icmp .lt 21, 3) := by decide +kernel
theorem dX4_readToken_122 : decode cX4_readToken 122 = .ok (.aload_n 0, 1) := by decide +kernel
theorem dX4_readToken_123 : decode cX4_readToken 123 = .ok (.getfield 18, 3) := by decide +kernel
theorem dX4_readToken_126 : decode cX4_readToken 126 = .ok (.iload_n 1, 1) := by decide +kernel
theorem dX4_readToken_127 : decode cX4_readToken 127 = .ok (.baload, 1) := by decide +kernel
theorem dX4_readToken_128 : decode cX4_readToken 128 = .ok (.bipush 57, 2) := by decide +kernel
theorem dX4_readToken_130 : decode cX4_readToken 130 = .ok (.if_icmp .gt 10, 3) := by decide +kernel
theorem dX4_readToken_133 : decode cX4_readToken 133 = .ok (.aload_n 0, 1) := by decide +kernel
theorem dX4_readToken_134 : decode cX4_readToken 134 = .ok (.invokevirtual 71, 3) := by decide +kernel
theorem dX4_readToken_137 : decode cX4_readToken 137 = .ok (.goto 8, 3) := by decide +kernel
theorem dX4_readToken_140 : decode cX4_readToken 140 = .ok (.aload_n 0, 1) := by decide +kernel
theorem dX4_readToken_141 : decode cX4_readToken 141 = .ok (.iconst 4, 1) := by decide +kernel
theorem dX4_readToken_142 : decode cX4_readToken 142 = .ok (.putfield 55, 3) := by decide +kernel
theorem dX4_readToken_145 : decode cX4_readToken 145 = .ok (.return_, 1) := by decide +kernel
def f_X4_readToken_l5 : am_F := am_th (i_il 1) (am_th (i_al 0) (am_th (i_gi 4 3) (am_br (b_2 (fun x y => decide (y ≤ x))) (am_to 30) (am_th (i_al 0) (am_th (i_gr 4 2) (am_th (i_il 1) (am_th (i_ia 1) (am_th (i_ic (32)) (am_br (b_2 (fun x y => decide (¬ x = y))) (am_to 30) (am_th (i_inc 1 (1)) (am_to 5)))))))))))
def f_X4_readToken : am_F := am_th (i_al 0) (am_th (i_gi 4 8) (am_th (i_is 1) (am_sq 30 (am_lp 5000 5 f_X4_readToken_l5) (am_th (i_al 0) (am_th (i_il 1) (am_th (i_pi 4 7) (am_th (i_al 0) (am_th (i_il 1) (am_th (i_ic (1)) (am_th (i_2 (fun x y => x + y)) (am_th (i_pi 4 8) (am_th (i_il 1) (am_th (i_al 0) (am_th (i_gi 4 3) (am_br (b_2 (fun x y => decide (x < y))) (am_th (i_al 0) (am_th (i_gr 4 2) (am_th (i_il 1) (am_th (i_ia 1) (am_th (i_ic (59)) (am_br (b_2 (fun x y => decide (¬ x = y))) (am_th (i_al 0) (am_th (i_gr 4 2) (am_th (i_il 1) (am_th (i_ia 1) (am_th (i_ic (97)) (am_br (b_2 (fun x y => decide (x < y))) (am_th (i_al 0) (am_th (i_gr 4 2) (am_th (i_il 1) (am_th (i_ia 1) (am_th (i_ic (48)) (am_br (b_2 (fun x y => decide (x < y))) (am_th (i_al 0) (am_th (i_ic (4)) (am_th (i_pi 4 6) (r_v)))) (am_th (i_al 0) (am_th (i_gr 4 2) (am_th (i_il 1) (am_th (i_ia 1) (am_th (i_ic (57)) (am_br (b_2 (fun x y => decide (y < x))) (am_th (i_al 0) (am_th (i_ic (4)) (am_th (i_pi 4 6) (r_v)))) (am_th (i_al 0) (am_th (i_cv 4 0 d_X4_readWhole) (r_v))))))))))))))) (am_th (i_al 0) (am_th (i_gr 4 2) (am_th (i_il 1) (am_th (i_ia 1) (am_th (i_ic (122)) (am_br (b_2 (fun x y => decide (y < x))) (am_th (i_al 0) (am_th (i_gr 4 2) (am_th (i_il 1) (am_th (i_ia 1) (am_th (i_ic (48)) (am_br (b_2 (fun x y => decide (x < y))) (am_th (i_al 0) (am_th (i_ic (4)) (am_th (i_pi 4 6) (r_v)))) (am_th (i_al 0) (am_th (i_gr 4 2) (am_th (i_il 1) (am_th (i_ia 1) (am_th (i_ic (57)) (am_br (b_2 (fun x y => decide (y < x))) (am_th (i_al 0) (am_th (i_ic (4)) (am_th (i_pi 4 6) (r_v)))) (am_th (i_al 0) (am_th (i_cv 4 0 d_X4_readWhole) (r_v))))))))))))))) (am_th (i_al 0) (am_th (i_cv 4 0 d_X4_readWord) (r_v))))))))))))))) (am_th (i_al 0) (am_th (i_ic (3)) (am_th (i_pi 4 6) (r_v)))))))))) (am_th (i_al 0) (am_th (i_ic (0)) (am_th (i_pi 4 6) (am_th (i_al 0) (am_th (i_il 1) (am_th (i_pi 4 8) (r_v))))))))))))))))))))))
def d_X4_readToken : am_D := am_den 2 f_X4_readToken
set_option maxHeartbeats 4000000 in
set_option maxRecDepth 100000 in
theorem b_X4_readToken : am_Body yX4_readToken cX4_readToken 2 none 1 21 f_X4_readToken := by
  intro p l e R s m args below meth c g n0 z0 r0 u0 C hr hn
  have C : am_Cx p l e R s m args below meth c g RX4 cX4_readToken 2 n0 z0 (am_len u0) (am_wt u0) 1 21 := C
  have l5 : am_Snd (am_GM p l e R s m args below meth c g 2 n0 z0 r0 u0) (am_Rt r0 u0) 5 (f_X4_readToken_l5) := by
    unfold f_X4_readToken_l5
    exact (so_th (so_iload_n C dX4_readToken_5 rfl) (so_th (so_aload_n C dX4_readToken_6 rfl) (so_th (so_geti C fl_RX4_22 (by decide) dX4_readToken_7) (so_br (so_icmp_ge C dX4_readToken_10 (by decide)) (so_to) (so_th (so_aload_n C dX4_readToken_13 rfl) (so_th (so_getr C fl_RX4_18 dX4_readToken_14) (so_th (so_iload_n C dX4_readToken_17 rfl) (so_th (so_bald C dX4_readToken_18) (so_th (so_bipush C dX4_readToken_19 (by decide)) (so_br (so_icmp_ne C dX4_readToken_21 (by decide)) (so_to) (so_th (so_iinc C dX4_readToken_24 (by decide) (by decide)) (so_goto C dX4_readToken_27 (by decide) (so_to)))))))))))))
  unfold f_X4_readToken
  exact (so_th (so_aload_n C dX4_readToken_0 rfl) (so_th (so_geti C fl_RX4_45 (by decide) dX4_readToken_1) (so_th (so_istore_n C dX4_readToken_4 rfl (by decide)) (so_sq (so_lp l5 5000) (so_th (so_aload_n C dX4_readToken_30 rfl) (so_th (so_iload_n C dX4_readToken_31 rfl) (so_th (so_puti C fl_RX4_65 fp_4 (Or.inl rfl) dX4_readToken_32) (so_th (so_aload_n C dX4_readToken_35 rfl) (so_th (so_iload_n C dX4_readToken_36 rfl) (so_th (so_iconst C dX4_readToken_37 (by decide)) (so_th (so_iadd C dX4_readToken_38) (so_th (so_puti C fl_RX4_45 fp_4 (Or.inl rfl) dX4_readToken_39) (so_th (so_iload_n C dX4_readToken_42 rfl) (so_th (so_aload_n C dX4_readToken_43 rfl) (so_th (so_geti C fl_RX4_22 (by decide) dX4_readToken_44) (so_br (so_icmp_lt C dX4_readToken_47 (by decide)) (so_th (so_aload_n C dX4_readToken_63 rfl) (so_th (so_getr C fl_RX4_18 dX4_readToken_64) (so_th (so_iload_n C dX4_readToken_67 rfl) (so_th (so_bald C dX4_readToken_68) (so_th (so_bipush C dX4_readToken_69 (by decide)) (so_br (so_icmp_ne C dX4_readToken_71 (by decide)) (so_th (so_aload_n C dX4_readToken_82 rfl) (so_th (so_getr C fl_RX4_18 dX4_readToken_83) (so_th (so_iload_n C dX4_readToken_86 rfl) (so_th (so_bald C dX4_readToken_87) (so_th (so_bipush C dX4_readToken_88 (by decide)) (so_br (so_icmp_lt C dX4_readToken_90 (by decide)) (so_th (so_aload_n C dX4_readToken_111 rfl) (so_th (so_getr C fl_RX4_18 dX4_readToken_112) (so_th (so_iload_n C dX4_readToken_115 rfl) (so_th (so_bald C dX4_readToken_116) (so_th (so_bipush C dX4_readToken_117 (by decide)) (so_br (so_icmp_lt C dX4_readToken_119 (by decide)) (so_th (so_aload_n C dX4_readToken_140 rfl) (so_th (so_iconst C dX4_readToken_141 (by decide)) (so_th (so_puti C fl_RX4_55 fp_4 (Or.inl rfl) dX4_readToken_142) (so_rv C hr dX4_readToken_145)))) (so_th (so_aload_n C dX4_readToken_122 rfl) (so_th (so_getr C fl_RX4_18 dX4_readToken_123) (so_th (so_iload_n C dX4_readToken_126 rfl) (so_th (so_bald C dX4_readToken_127) (so_th (so_bipush C dX4_readToken_128 (by decide)) (so_br (so_icmp_gt C dX4_readToken_130 (by decide)) (so_th (so_aload_n C dX4_readToken_140 rfl) (so_th (so_iconst C dX4_readToken_141 (by decide)) (so_th (so_puti C fl_RX4_55 fp_4 (Or.inl rfl) dX4_readToken_142) (so_rv C hr dX4_readToken_145)))) (so_th (so_aload_n C dX4_readToken_133 rfl) (so_th (so_cv C m_X4_readWhole rfl k_149 k_152 k_151 k_153 k_150 ⟨by decide, by decide, by decide +kernel⟩ (by decide) dX4_readToken_134) (so_goto C dX4_readToken_137 (by decide) (so_rv C hr dX4_readToken_145)))))))))))))))) (so_th (so_aload_n C dX4_readToken_93 rfl) (so_th (so_getr C fl_RX4_18 dX4_readToken_94) (so_th (so_iload_n C dX4_readToken_97 rfl) (so_th (so_bald C dX4_readToken_98) (so_th (so_bipush C dX4_readToken_99 (by decide)) (so_br (so_icmp_gt C dX4_readToken_101 (by decide)) (so_th (so_aload_n C dX4_readToken_111 rfl) (so_th (so_getr C fl_RX4_18 dX4_readToken_112) (so_th (so_iload_n C dX4_readToken_115 rfl) (so_th (so_bald C dX4_readToken_116) (so_th (so_bipush C dX4_readToken_117 (by decide)) (so_br (so_icmp_lt C dX4_readToken_119 (by decide)) (so_th (so_aload_n C dX4_readToken_140 rfl) (so_th (so_iconst C dX4_readToken_141 (by decide)) (so_th (so_puti C fl_RX4_55 fp_4 (Or.inl rfl) dX4_readToken_142) (so_rv C hr dX4_readToken_145)))) (so_th (so_aload_n C dX4_readToken_122 rfl) (so_th (so_getr C fl_RX4_18 dX4_readToken_123) (so_th (so_iload_n C dX4_readToken_126 rfl) (so_th (so_bald C dX4_readToken_127) (so_th (so_bipush C dX4_readToken_128 (by decide)) (so_br (so_icmp_gt C dX4_readToken_130 (by decide)) (so_th (so_aload_n C dX4_readToken_140 rfl) (so_th (so_iconst C dX4_readToken_141 (by decide)) (so_th (so_puti C fl_RX4_55 fp_4 (Or.inl rfl) dX4_readToken_142) (so_rv C hr dX4_readToken_145)))) (so_th (so_aload_n C dX4_readToken_133 rfl) (so_th (so_cv C m_X4_readWhole rfl k_149 k_152 k_151 k_153 k_150 ⟨by decide, by decide, by decide +kernel⟩ (by decide) dX4_readToken_134) (so_goto C dX4_readToken_137 (by decide) (so_rv C hr dX4_readToken_145)))))))))))))))) (so_th (so_aload_n C dX4_readToken_104 rfl) (so_th (so_cv C m_X4_readWord rfl k_154 k_156 k_155 k_157 k_150 ⟨by decide, by decide, by decide +kernel⟩ (by decide) dX4_readToken_105) (so_goto C dX4_readToken_108 (by decide) (so_rv C hr dX4_readToken_145)))))))))))))))) (so_th (so_aload_n C dX4_readToken_74 rfl) (so_th (so_iconst C dX4_readToken_75 (by decide)) (so_th (so_puti C fl_RX4_55 fp_4 (Or.inl rfl) dX4_readToken_76) (so_goto C dX4_readToken_79 (by decide) (so_rv C hr dX4_readToken_145))))))))))) (so_th (so_aload_n C dX4_readToken_50 rfl) (so_th (so_iconst C dX4_readToken_51 (by decide)) (so_th (so_puti C fl_RX4_55 fp_4 (Or.inl rfl) dX4_readToken_52) (so_th (so_aload_n C dX4_readToken_55 rfl) (so_th (so_iload_n C dX4_readToken_56 rfl) (so_th (so_puti C fl_RX4_45 fp_4 (Or.inl rfl) dX4_readToken_57) (so_goto C dX4_readToken_60 (by decide) (so_rv C hr dX4_readToken_145))))))))))))))))))))))))
theorem m_X4_readToken : am_M yX4_readToken cX4_readToken 2 none 1 21 d_X4_readToken := am_M_of (by decide +kernel) b_X4_readToken
theorem dX4_isWord_0 : decode cX4_isWord 0 = .ok (.aload_n 0, 1) := by decide +kernel
theorem dX4_isWord_1 : decode cX4_isWord 1 = .ok (.getfield 55, 3) := by decide +kernel
theorem dX4_isWord_4 : decode cX4_isWord 4 = .ok (.iconst 1, 1) := by decide +kernel
theorem dX4_isWord_5 : decode cX4_isWord 5 = .ok (.if_icmp .ne 19, 3) := by decide +kernel
theorem dX4_isWord_8 : decode cX4_isWord 8 = .ok (.aload_n 0, 1) := by decide +kernel
theorem dX4_isWord_9 : decode cX4_isWord 9 = .ok (.getfield 45, 3) := by decide +kernel
theorem dX4_isWord_12 : decode cX4_isWord 12 = .ok (.aload_n 0, 1) := by decide +kernel
theorem dX4_isWord_13 : decode cX4_isWord 13 = .ok (.getfield 65, 3) := by decide +kernel
theorem dX4_isWord_16 : decode cX4_isWord 16 = .ok (.isub, 1) := by decide +kernel
theorem dX4_isWord_17 : decode cX4_isWord 17 = .ok (.aload_n 1, 1) := by decide +kernel
theorem dX4_isWord_18 : decode cX4_isWord 18 = .ok (.invokevirtual 83, 3) := by decide +kernel
theorem dX4_isWord_21 : decode cX4_isWord 21 = .ok (.if_icmp .eq 5, 3) := by decide +kernel
theorem dX4_isWord_24 : decode cX4_isWord 24 = .ok (.iconst 0, 1) := by decide +kernel
theorem dX4_isWord_25 : decode cX4_isWord 25 = .ok (.ireturn, 1) := by decide +kernel
theorem dX4_isWord_26 : decode cX4_isWord 26 = .ok (.iconst 0, 1) := by decide +kernel
theorem dX4_isWord_27 : decode cX4_isWord 27 = .ok (.istore_n 2, 1) := by decide +kernel
theorem dX4_isWord_28 : decode cX4_isWord 28 = .ok (.iload_n 2, 1) := by decide +kernel
theorem dX4_isWord_29 : decode cX4_isWord 29 = .ok (.aload_n 1, 1) := by decide +kernel
theorem dX4_isWord_30 : decode cX4_isWord 30 = .ok (.invokevirtual 83, 3) := by decide +kernel
theorem dX4_isWord_33 : decode cX4_isWord 33 = .ok (.if_icmp .ge 30, 3) := by decide +kernel
theorem dX4_isWord_36 : decode cX4_isWord 36 = .ok (.aload_n 0, 1) := by decide +kernel
theorem dX4_isWord_37 : decode cX4_isWord 37 = .ok (.getfield 18, 3) := by decide +kernel
theorem dX4_isWord_40 : decode cX4_isWord 40 = .ok (.aload_n 0, 1) := by decide +kernel
theorem dX4_isWord_41 : decode cX4_isWord 41 = .ok (.getfield 65, 3) := by decide +kernel
theorem dX4_isWord_44 : decode cX4_isWord 44 = .ok (.iload_n 2, 1) := by decide +kernel
theorem dX4_isWord_45 : decode cX4_isWord 45 = .ok (.iadd, 1) := by decide +kernel
theorem dX4_isWord_46 : decode cX4_isWord 46 = .ok (.baload, 1) := by decide +kernel
theorem dX4_isWord_47 : decode cX4_isWord 47 = .ok (.aload_n 1, 1) := by decide +kernel
theorem dX4_isWord_48 : decode cX4_isWord 48 = .ok (.iload_n 2, 1) := by decide +kernel
theorem dX4_isWord_49 : decode cX4_isWord 49 = .ok (.invokevirtual 88, 3) := by decide +kernel
theorem dX4_isWord_52 : decode cX4_isWord 52 = .ok (.if_icmp .eq 5, 3) := by decide +kernel
theorem dX4_isWord_55 : decode cX4_isWord 55 = .ok (.iconst 0, 1) := by decide +kernel
theorem dX4_isWord_56 : decode cX4_isWord 56 = .ok (.ireturn, 1) := by decide +kernel
theorem dX4_isWord_57 : decode cX4_isWord 57 = .ok (.iinc 2 1, 3) := by decide +kernel
theorem dX4_isWord_60 : decode cX4_isWord 60 = .ok (.goto (-32), 3) := by decide +kernel
theorem dX4_isWord_63 : decode cX4_isWord 63 = .ok (.iconst 1, 1) := by decide +kernel
theorem dX4_isWord_64 : decode cX4_isWord 64 = .ok (.ireturn, 1) := by decide +kernel
def f_X4_isWord_l28 : am_F := am_th (i_il 2) (am_th (i_al 1) (am_th (i_ct 0 d_slen) (am_br (b_2 (fun x y => decide (y ≤ x))) (am_to 63) (am_th (i_al 0) (am_th (i_gr 4 2) (am_th (i_al 0) (am_th (i_gi 4 7) (am_th (i_il 2) (am_th (i_2 (fun x y => x + y)) (am_th (i_ia 1) (am_th (i_al 1) (am_th (i_il 2) (am_th (i_ct 1 d_sch) (am_br (b_2 (fun x y => decide (x = y))) (am_th (i_inc 2 (1)) (am_to 28)) (am_th (i_ic (0)) (r_z))))))))))))))))
def f_X4_isWord : am_F := am_th (i_al 0) (am_th (i_gi 4 6) (am_th (i_ic (1)) (am_br (b_2 (fun x y => decide (¬ x = y))) (am_th (i_ic (0)) (r_z)) (am_th (i_al 0) (am_th (i_gi 4 8) (am_th (i_al 0) (am_th (i_gi 4 7) (am_th (i_2 (fun x y => x - y)) (am_th (i_al 1) (am_th (i_ct 0 d_slen) (am_br (b_2 (fun x y => decide (x = y))) (am_th (i_ic (0)) (am_th (i_is 2) (am_sq 63 (am_lp 5000 28 f_X4_isWord_l28) (am_th (i_ic (1)) (r_z))))) (am_th (i_ic (0)) (r_z)))))))))))))
def d_X4_isWord : am_D := am_den 3 f_X4_isWord
set_option maxHeartbeats 4000000 in
set_option maxRecDepth 100000 in
theorem b_X4_isWord : am_Body yX4_isWord cX4_isWord 3 (some .boolean) 4 85 f_X4_isWord := by
  intro p l e R s m args below meth c g n0 z0 r0 u0 C hr hn
  have C : am_Cx p l e R s m args below meth c g RX4 cX4_isWord 3 n0 z0 (am_len u0) (am_wt u0) 4 85 := C
  have l28 : am_Snd (am_GM p l e R s m args below meth c g 3 n0 z0 r0 u0) (am_Rt r0 u0) 28 (f_X4_isWord_l28) := by
    unfold f_X4_isWord_l28
    exact (so_th (so_iload_n C dX4_isWord_28 rfl) (so_th (so_aload_n C dX4_isWord_29 rfl) (so_th (so_ct C m_slen k_158 k_161 k_160 k_162 k_159 ⟨by decide, by decide, by decide +kernel⟩ (by decide) dX4_isWord_30) (so_br (so_icmp_ge C dX4_isWord_33 (by decide)) (so_to) (so_th (so_aload_n C dX4_isWord_36 rfl) (so_th (so_getr C fl_RX4_18 dX4_isWord_37) (so_th (so_aload_n C dX4_isWord_40 rfl) (so_th (so_geti C fl_RX4_65 (by decide) dX4_isWord_41) (so_th (so_iload_n C dX4_isWord_44 rfl) (so_th (so_iadd C dX4_isWord_45) (so_th (so_bald C dX4_isWord_46) (so_th (so_aload_n C dX4_isWord_47 rfl) (so_th (so_iload_n C dX4_isWord_48 rfl) (so_th (so_ct C m_sch k_163 k_165 k_164 k_166 k_159 ⟨by decide, by decide, by decide +kernel⟩ (by decide) dX4_isWord_49) (so_br (so_icmp_eq C dX4_isWord_52 (by decide)) (so_th (so_iinc C dX4_isWord_57 (by decide) (by decide)) (so_goto C dX4_isWord_60 (by decide) (so_to))) (so_th (so_iconst C dX4_isWord_55 (by decide)) (so_rz C hr dX4_isWord_56)))))))))))))))))
  unfold f_X4_isWord
  exact (so_th (so_aload_n C dX4_isWord_0 rfl) (so_th (so_geti C fl_RX4_55 (by decide) dX4_isWord_1) (so_th (so_iconst C dX4_isWord_4 (by decide)) (so_br (so_icmp_ne C dX4_isWord_5 (by decide)) (so_th (so_iconst C dX4_isWord_24 (by decide)) (so_rz C hr dX4_isWord_25)) (so_th (so_aload_n C dX4_isWord_8 rfl) (so_th (so_geti C fl_RX4_45 (by decide) dX4_isWord_9) (so_th (so_aload_n C dX4_isWord_12 rfl) (so_th (so_geti C fl_RX4_65 (by decide) dX4_isWord_13) (so_th (so_isub C dX4_isWord_16) (so_th (so_aload_n C dX4_isWord_17 rfl) (so_th (so_ct C m_slen k_158 k_161 k_160 k_162 k_159 ⟨by decide, by decide, by decide +kernel⟩ (by decide) dX4_isWord_18) (so_br (so_icmp_eq C dX4_isWord_21 (by decide)) (so_th (so_iconst C dX4_isWord_26 (by decide)) (so_th (so_istore_n C dX4_isWord_27 rfl (by decide)) (so_sq (so_lp l28 5000) (so_th (so_iconst C dX4_isWord_63 (by decide)) (so_rz C hr dX4_isWord_64))))) (so_th (so_iconst C dX4_isWord_24 (by decide)) (so_rz C hr dX4_isWord_25))))))))))))))
theorem m_X4_isWord : am_M yX4_isWord cX4_isWord 3 (some .boolean) 4 85 d_X4_isWord := am_M_of (by decide +kernel) b_X4_isWord
theorem dX4_lineAtHand_0 : decode cX4_lineAtHand 0 = .ok (.aload_n 0, 1) := by decide +kernel
theorem dX4_lineAtHand_1 : decode cX4_lineAtHand 1 = .ok (.ldc 92, 2) := by decide +kernel
theorem dX4_lineAtHand_3 : decode cX4_lineAtHand 3 = .ok (.invokevirtual 94, 3) := by decide +kernel
theorem dX4_lineAtHand_6 : decode cX4_lineAtHand 6 = .ok (.ifCond .eq 7, 3) := by decide +kernel
theorem dX4_lineAtHand_9 : decode cX4_lineAtHand 9 = .ok (.iconst 0, 1) := by decide +kernel
theorem dX4_lineAtHand_10 : decode cX4_lineAtHand 10 = .ok (.goto 83, 3) := by decide +kernel
theorem dX4_lineAtHand_13 : decode cX4_lineAtHand 13 = .ok (.aload_n 0, 1) := by decide +kernel
theorem dX4_lineAtHand_14 : decode cX4_lineAtHand 14 = .ok (.ldc 98, 2) := by decide +kernel
theorem dX4_lineAtHand_16 : decode cX4_lineAtHand 16 = .ok (.invokevirtual 94, 3) := by decide +kernel
theorem dX4_lineAtHand_19 : decode cX4_lineAtHand 19 = .ok (.ifCond .eq 7, 3) := by decide +kernel
theorem dX4_lineAtHand_22 : decode cX4_lineAtHand 22 = .ok (.iconst 1, 1) := by decide +kernel
theorem dX4_lineAtHand_23 : decode cX4_lineAtHand 23 = .ok (.goto 70, 3) := by decide +kernel
theorem dX4_lineAtHand_26 : decode cX4_lineAtHand 26 = .ok (.aload_n 0, 1) := by decide +kernel
theorem dX4_lineAtHand_27 : decode cX4_lineAtHand 27 = .ok (.ldc 100, 2) := by decide +kernel
theorem dX4_lineAtHand_29 : decode cX4_lineAtHand 29 = .ok (.invokevirtual 94, 3) := by decide +kernel
theorem dX4_lineAtHand_32 : decode cX4_lineAtHand 32 = .ok (.ifCond .eq 7, 3) := by decide +kernel
theorem dX4_lineAtHand_35 : decode cX4_lineAtHand 35 = .ok (.iconst 2, 1) := by decide +kernel
theorem dX4_lineAtHand_36 : decode cX4_lineAtHand 36 = .ok (.goto 57, 3) := by decide +kernel
theorem dX4_lineAtHand_39 : decode cX4_lineAtHand 39 = .ok (.aload_n 0, 1) := by decide +kernel
theorem dX4_lineAtHand_40 : decode cX4_lineAtHand 40 = .ok (.ldc 102, 2) := by decide +kernel
theorem dX4_lineAtHand_42 : decode cX4_lineAtHand 42 = .ok (.invokevirtual 94, 3) := by decide +kernel
theorem dX4_lineAtHand_45 : decode cX4_lineAtHand 45 = .ok (.ifCond .eq 7, 3) := by decide +kernel
theorem dX4_lineAtHand_48 : decode cX4_lineAtHand 48 = .ok (.iconst 3, 1) := by decide +kernel
theorem dX4_lineAtHand_49 : decode cX4_lineAtHand 49 = .ok (.goto 44, 3) := by decide +kernel
theorem dX4_lineAtHand_52 : decode cX4_lineAtHand 52 = .ok (.aload_n 0, 1) := by decide +kernel
theorem dX4_lineAtHand_53 : decode cX4_lineAtHand 53 = .ok (.ldc 104, 2) := by decide +kernel
theorem dX4_lineAtHand_55 : decode cX4_lineAtHand 55 = .ok (.invokevirtual 94, 3) := by decide +kernel
theorem dX4_lineAtHand_58 : decode cX4_lineAtHand 58 = .ok (.ifCond .eq 7, 3) := by decide +kernel
theorem dX4_lineAtHand_61 : decode cX4_lineAtHand 61 = .ok (.iconst 4, 1) := by decide +kernel
theorem dX4_lineAtHand_62 : decode cX4_lineAtHand 62 = .ok (.goto 31, 3) := by decide +kernel
theorem dX4_lineAtHand_65 : decode cX4_lineAtHand 65 = .ok (.aload_n 0, 1) := by decide +kernel
theorem dX4_lineAtHand_66 : decode cX4_lineAtHand 66 = .ok (.ldc 106, 2) := by decide +kernel
theorem dX4_lineAtHand_68 : decode cX4_lineAtHand 68 = .ok (.invokevirtual 94, 3) := by decide +kernel
theorem dX4_lineAtHand_71 : decode cX4_lineAtHand 71 = .ok (.ifCond .eq 7, 3) := by decide +kernel
theorem dX4_lineAtHand_74 : decode cX4_lineAtHand 74 = .ok (.iconst 5, 1) := by decide +kernel
theorem dX4_lineAtHand_75 : decode cX4_lineAtHand 75 = .ok (.goto 18, 3) := by decide +kernel
theorem dX4_lineAtHand_78 : decode cX4_lineAtHand 78 = .ok (.aload_n 0, 1) := by decide +kernel
theorem dX4_lineAtHand_79 : decode cX4_lineAtHand 79 = .ok (.ldc 108, 2) := by decide +kernel
theorem dX4_lineAtHand_81 : decode cX4_lineAtHand 81 = .ok (.invokevirtual 94, 3) := by decide +kernel
theorem dX4_lineAtHand_84 : decode cX4_lineAtHand 84 = .ok (.ifCond .eq 8, 3) := by decide +kernel
theorem dX4_lineAtHand_87 : decode cX4_lineAtHand 87 = .ok (.bipush 6, 2) := by decide +kernel
theorem dX4_lineAtHand_89 : decode cX4_lineAtHand 89 = .ok (.goto 4, 3) := by decide +kernel
theorem dX4_lineAtHand_92 : decode cX4_lineAtHand 92 = .ok (.iconst (-1), 1) := by decide +kernel
theorem dX4_lineAtHand_93 : decode cX4_lineAtHand 93 = .ok (.ireturn, 1) := by decide +kernel
def f_X4_lineAtHand : am_F := am_th (i_al 0) (am_th (i_sg 0) (am_th (i_cv 4 1 d_X4_isWord) (am_br (b_1 (fun x => decide (x = 0))) (am_th (i_al 0) (am_th (i_sg 1) (am_th (i_cv 4 1 d_X4_isWord) (am_br (b_1 (fun x => decide (x = 0))) (am_th (i_al 0) (am_th (i_sg 2) (am_th (i_cv 4 1 d_X4_isWord) (am_br (b_1 (fun x => decide (x = 0))) (am_th (i_al 0) (am_th (i_sg 3) (am_th (i_cv 4 1 d_X4_isWord) (am_br (b_1 (fun x => decide (x = 0))) (am_th (i_al 0) (am_th (i_sg 4) (am_th (i_cv 4 1 d_X4_isWord) (am_br (b_1 (fun x => decide (x = 0))) (am_th (i_al 0) (am_th (i_sg 5) (am_th (i_cv 4 1 d_X4_isWord) (am_br (b_1 (fun x => decide (x = 0))) (am_th (i_al 0) (am_th (i_sg 6) (am_th (i_cv 4 1 d_X4_isWord) (am_br (b_1 (fun x => decide (x = 0))) (am_th (i_ic (-1)) (r_i)) (am_th (i_ic (6)) (r_i)))))) (am_th (i_ic (5)) (r_i)))))) (am_th (i_ic (4)) (r_i)))))) (am_th (i_ic (3)) (r_i)))))) (am_th (i_ic (2)) (r_i)))))) (am_th (i_ic (1)) (r_i)))))) (am_th (i_ic (0)) (r_i)))))
def d_X4_lineAtHand : am_D := am_den 1 f_X4_lineAtHand
set_option maxHeartbeats 4000000 in
set_option maxRecDepth 100000 in
theorem b_X4_lineAtHand : am_Body yX4_lineAtHand cX4_lineAtHand 1 (some .int) 5 107 f_X4_lineAtHand := by
  intro p l e R s m args below meth c g n0 z0 r0 u0 C hr hn
  have C : am_Cx p l e R s m args below meth c g RX4 cX4_lineAtHand 1 n0 z0 (am_len u0) (am_wt u0) 5 107 := C
  unfold f_X4_lineAtHand
  exact (so_th (so_aload_n C dX4_lineAtHand_0 rfl) (so_th (so_ldcS C dX4_lineAtHand_1 (List.mem_of_getElem? (i := 0) rfl)) (so_th (so_cv C m_X4_isWord rfl k_167 k_169 k_168 k_170 k_150 ⟨by decide, by decide, by decide +kernel⟩ (by decide) dX4_lineAtHand_3) (so_br (so_if_eq C dX4_lineAtHand_6 (by decide)) (so_th (so_aload_n C dX4_lineAtHand_13 rfl) (so_th (so_ldcS C dX4_lineAtHand_14 (List.mem_of_getElem? (i := 1) rfl)) (so_th (so_cv C m_X4_isWord rfl k_167 k_169 k_168 k_170 k_150 ⟨by decide, by decide, by decide +kernel⟩ (by decide) dX4_lineAtHand_16) (so_br (so_if_eq C dX4_lineAtHand_19 (by decide)) (so_th (so_aload_n C dX4_lineAtHand_26 rfl) (so_th (so_ldcS C dX4_lineAtHand_27 (List.mem_of_getElem? (i := 2) rfl)) (so_th (so_cv C m_X4_isWord rfl k_167 k_169 k_168 k_170 k_150 ⟨by decide, by decide, by decide +kernel⟩ (by decide) dX4_lineAtHand_29) (so_br (so_if_eq C dX4_lineAtHand_32 (by decide)) (so_th (so_aload_n C dX4_lineAtHand_39 rfl) (so_th (so_ldcS C dX4_lineAtHand_40 (List.mem_of_getElem? (i := 3) rfl)) (so_th (so_cv C m_X4_isWord rfl k_167 k_169 k_168 k_170 k_150 ⟨by decide, by decide, by decide +kernel⟩ (by decide) dX4_lineAtHand_42) (so_br (so_if_eq C dX4_lineAtHand_45 (by decide)) (so_th (so_aload_n C dX4_lineAtHand_52 rfl) (so_th (so_ldcS C dX4_lineAtHand_53 (List.mem_of_getElem? (i := 4) rfl)) (so_th (so_cv C m_X4_isWord rfl k_167 k_169 k_168 k_170 k_150 ⟨by decide, by decide, by decide +kernel⟩ (by decide) dX4_lineAtHand_55) (so_br (so_if_eq C dX4_lineAtHand_58 (by decide)) (so_th (so_aload_n C dX4_lineAtHand_65 rfl) (so_th (so_ldcS C dX4_lineAtHand_66 (List.mem_of_getElem? (i := 5) rfl)) (so_th (so_cv C m_X4_isWord rfl k_167 k_169 k_168 k_170 k_150 ⟨by decide, by decide, by decide +kernel⟩ (by decide) dX4_lineAtHand_68) (so_br (so_if_eq C dX4_lineAtHand_71 (by decide)) (so_th (so_aload_n C dX4_lineAtHand_78 rfl) (so_th (so_ldcS C dX4_lineAtHand_79 (List.mem_of_getElem? (i := 6) rfl)) (so_th (so_cv C m_X4_isWord rfl k_167 k_169 k_168 k_170 k_150 ⟨by decide, by decide, by decide +kernel⟩ (by decide) dX4_lineAtHand_81) (so_br (so_if_eq C dX4_lineAtHand_84 (by decide)) (so_th (so_iconst C dX4_lineAtHand_92 (by decide)) (so_ri C hr dX4_lineAtHand_93)) (so_th (so_bipush C dX4_lineAtHand_87 (by decide)) (so_goto C dX4_lineAtHand_89 (by decide) (so_ri C hr dX4_lineAtHand_93))))))) (so_th (so_iconst C dX4_lineAtHand_74 (by decide)) (so_goto C dX4_lineAtHand_75 (by decide) (so_ri C hr dX4_lineAtHand_93))))))) (so_th (so_iconst C dX4_lineAtHand_61 (by decide)) (so_goto C dX4_lineAtHand_62 (by decide) (so_ri C hr dX4_lineAtHand_93))))))) (so_th (so_iconst C dX4_lineAtHand_48 (by decide)) (so_goto C dX4_lineAtHand_49 (by decide) (so_ri C hr dX4_lineAtHand_93))))))) (so_th (so_iconst C dX4_lineAtHand_35 (by decide)) (so_goto C dX4_lineAtHand_36 (by decide) (so_ri C hr dX4_lineAtHand_93))))))) (so_th (so_iconst C dX4_lineAtHand_22 (by decide)) (so_goto C dX4_lineAtHand_23 (by decide) (so_ri C hr dX4_lineAtHand_93))))))) (so_th (so_iconst C dX4_lineAtHand_9 (by decide)) (so_goto C dX4_lineAtHand_10 (by decide) (so_ri C hr dX4_lineAtHand_93)))))))
theorem m_X4_lineAtHand : am_M yX4_lineAtHand cX4_lineAtHand 1 (some .int) 5 107 d_X4_lineAtHand := am_M_of (by decide +kernel) b_X4_lineAtHand
theorem dX4_fail_0 : decode cX4_fail 0 = .ok (.aload_n 0, 1) := by decide +kernel
theorem dX4_fail_1 : decode cX4_fail 1 = .ok (.iload_n 1, 1) := by decide +kernel
theorem dX4_fail_2 : decode cX4_fail 2 = .ok (.putfield 39, 3) := by decide +kernel
theorem dX4_fail_5 : decode cX4_fail 5 = .ok (.aload_n 0, 1) := by decide +kernel
theorem dX4_fail_6 : decode cX4_fail 6 = .ok (.aload_n 0, 1) := by decide +kernel
theorem dX4_fail_7 : decode cX4_fail 7 = .ok (.getfield 65, 3) := by decide +kernel
theorem dX4_fail_10 : decode cX4_fail 10 = .ok (.putfield 42, 3) := by decide +kernel
theorem dX4_fail_13 : decode cX4_fail 13 = .ok (.iconst 0, 1) := by decide +kernel
theorem dX4_fail_14 : decode cX4_fail 14 = .ok (.ireturn, 1) := by decide +kernel
def f_X4_fail : am_F := am_th (i_al 0) (am_th (i_il 1) (am_th (i_pi 4 0) (am_th (i_al 0) (am_th (i_al 0) (am_th (i_gi 4 7) (am_th (i_pi 4 1) (am_th (i_ic (0)) (r_z))))))))
def d_X4_fail : am_D := am_den 2 f_X4_fail
set_option maxHeartbeats 4000000 in
set_option maxRecDepth 100000 in
theorem b_X4_fail : am_Body yX4_fail cX4_fail 2 (some .boolean) 0 0 f_X4_fail := by
  intro p l e R s m args below meth c g n0 z0 r0 u0 C hr hn
  have C : am_Cx p l e R s m args below meth c g RX4 cX4_fail 2 n0 z0 (am_len u0) (am_wt u0) 0 0 := C
  unfold f_X4_fail
  exact (so_th (so_aload_n C dX4_fail_0 rfl) (so_th (so_iload_n C dX4_fail_1 rfl) (so_th (so_puti C fl_RX4_39 fp_4 (Or.inl rfl) dX4_fail_2) (so_th (so_aload_n C dX4_fail_5 rfl) (so_th (so_aload_n C dX4_fail_6 rfl) (so_th (so_geti C fl_RX4_65 (by decide) dX4_fail_7) (so_th (so_puti C fl_RX4_42 fp_4 (Or.inl rfl) dX4_fail_10) (so_th (so_iconst C dX4_fail_13 (by decide)) (so_rz C hr dX4_fail_14)))))))))
theorem m_X4_fail : am_M yX4_fail cX4_fail 2 (some .boolean) 0 0 d_X4_fail := am_M_of (by decide +kernel) b_X4_fail
theorem dX4_isFull_0 : decode cX4_isFull 0 = .ok (.iload_n 1, 1) := by decide +kernel
theorem dX4_isFull_1 : decode cX4_isFull 1 = .ok (.iconst 1, 1) := by decide +kernel
theorem dX4_isFull_2 : decode cX4_isFull 2 = .ok (.if_icmp .ne 15, 3) := by decide +kernel
theorem dX4_isFull_5 : decode cX4_isFull 5 = .ok (.aload_n 0, 1) := by decide +kernel
theorem dX4_isFull_6 : decode cX4_isFull 6 = .ok (.getfield 26, 3) := by decide +kernel
theorem dX4_isFull_9 : decode cX4_isFull 9 = .ok (.getfield 136, 3) := by decide +kernel
theorem dX4_isFull_12 : decode cX4_isFull 12 = .ok (.bipush 6, 2) := by decide +kernel
theorem dX4_isFull_14 : decode cX4_isFull 14 = .ok (.if_icmp .ge 72, 3) := by decide +kernel
theorem dX4_isFull_17 : decode cX4_isFull 17 = .ok (.iload_n 1, 1) := by decide +kernel
theorem dX4_isFull_18 : decode cX4_isFull 18 = .ok (.iconst 2, 1) := by decide +kernel
theorem dX4_isFull_19 : decode cX4_isFull 19 = .ok (.if_icmp .ne 15, 3) := by decide +kernel
theorem dX4_isFull_22 : decode cX4_isFull 22 = .ok (.aload_n 0, 1) := by decide +kernel
theorem dX4_isFull_23 : decode cX4_isFull 23 = .ok (.getfield 26, 3) := by decide +kernel
theorem dX4_isFull_26 : decode cX4_isFull 26 = .ok (.getfield 62, 3) := by decide +kernel
theorem dX4_isFull_29 : decode cX4_isFull 29 = .ok (.bipush 6, 2) := by decide +kernel
theorem dX4_isFull_31 : decode cX4_isFull 31 = .ok (.if_icmp .ge 55, 3) := by decide +kernel
theorem dX4_isFull_34 : decode cX4_isFull 34 = .ok (.iload_n 1, 1) := by decide +kernel
theorem dX4_isFull_35 : decode cX4_isFull 35 = .ok (.iconst 3, 1) := by decide +kernel
theorem dX4_isFull_36 : decode cX4_isFull 36 = .ok (.if_icmp .ne 15, 3) := by decide +kernel
theorem dX4_isFull_39 : decode cX4_isFull 39 = .ok (.aload_n 0, 1) := by decide +kernel
theorem dX4_isFull_40 : decode cX4_isFull 40 = .ok (.getfield 26, 3) := by decide +kernel
theorem dX4_isFull_43 : decode cX4_isFull 43 = .ok (.getfield 163, 3) := by decide +kernel
theorem dX4_isFull_46 : decode cX4_isFull 46 = .ok (.bipush 10, 2) := by decide +kernel
theorem dX4_isFull_48 : decode cX4_isFull 48 = .ok (.if_icmp .ge 38, 3) := by decide +kernel
theorem dX4_isFull_51 : decode cX4_isFull 51 = .ok (.iload_n 1, 1) := by decide +kernel
theorem dX4_isFull_52 : decode cX4_isFull 52 = .ok (.iconst 4, 1) := by decide +kernel
theorem dX4_isFull_53 : decode cX4_isFull 53 = .ok (.if_icmp .ne 15, 3) := by decide +kernel
theorem dX4_isFull_56 : decode cX4_isFull 56 = .ok (.aload_n 0, 1) := by decide +kernel
theorem dX4_isFull_57 : decode cX4_isFull 57 = .ok (.getfield 26, 3) := by decide +kernel
theorem dX4_isFull_60 : decode cX4_isFull 60 = .ok (.getfield 166, 3) := by decide +kernel
theorem dX4_isFull_63 : decode cX4_isFull 63 = .ok (.bipush 12, 2) := by decide +kernel
theorem dX4_isFull_65 : decode cX4_isFull 65 = .ok (.if_icmp .ge 21, 3) := by decide +kernel
theorem dX4_isFull_68 : decode cX4_isFull 68 = .ok (.iload_n 1, 1) := by decide +kernel
theorem dX4_isFull_69 : decode cX4_isFull 69 = .ok (.bipush 6, 2) := by decide +kernel
theorem dX4_isFull_71 : decode cX4_isFull 71 = .ok (.if_icmp .ne 19, 3) := by decide +kernel
theorem dX4_isFull_74 : decode cX4_isFull 74 = .ok (.aload_n 0, 1) := by decide +kernel
theorem dX4_isFull_75 : decode cX4_isFull 75 = .ok (.getfield 26, 3) := by decide +kernel
theorem dX4_isFull_78 : decode cX4_isFull 78 = .ok (.getfield 169, 3) := by decide +kernel
theorem dX4_isFull_81 : decode cX4_isFull 81 = .ok (.bipush 6, 2) := by decide +kernel
theorem dX4_isFull_83 : decode cX4_isFull 83 = .ok (.if_icmp .lt 7, 3) := by decide +kernel
theorem dX4_isFull_86 : decode cX4_isFull 86 = .ok (.iconst 1, 1) := by decide +kernel
theorem dX4_isFull_87 : decode cX4_isFull 87 = .ok (.goto 4, 3) := by decide +kernel
theorem dX4_isFull_90 : decode cX4_isFull 90 = .ok (.iconst 0, 1) := by decide +kernel
theorem dX4_isFull_91 : decode cX4_isFull 91 = .ok (.ireturn, 1) := by decide +kernel
def f_X4_isFull : am_F := am_th (i_il 1) (am_th (i_ic (1)) (am_br (b_2 (fun x y => decide (¬ x = y))) (am_th (i_il 1) (am_th (i_ic (2)) (am_br (b_2 (fun x y => decide (¬ x = y))) (am_th (i_il 1) (am_th (i_ic (3)) (am_br (b_2 (fun x y => decide (¬ x = y))) (am_th (i_il 1) (am_th (i_ic (4)) (am_br (b_2 (fun x y => decide (¬ x = y))) (am_th (i_il 1) (am_th (i_ic (6)) (am_br (b_2 (fun x y => decide (¬ x = y))) (am_th (i_ic (0)) (r_z)) (am_th (i_al 0) (am_th (i_gr 4 4) (am_th (i_gi 5 6) (am_th (i_ic (6)) (am_br (b_2 (fun x y => decide (x < y))) (am_th (i_ic (0)) (r_z)) (am_th (i_ic (1)) (r_z)))))))))) (am_th (i_al 0) (am_th (i_gr 4 4) (am_th (i_gi 5 5) (am_th (i_ic (12)) (am_br (b_2 (fun x y => decide (y ≤ x))) (am_th (i_ic (1)) (r_z)) (am_th (i_il 1) (am_th (i_ic (6)) (am_br (b_2 (fun x y => decide (¬ x = y))) (am_th (i_ic (0)) (r_z)) (am_th (i_al 0) (am_th (i_gr 4 4) (am_th (i_gi 5 6) (am_th (i_ic (6)) (am_br (b_2 (fun x y => decide (x < y))) (am_th (i_ic (0)) (r_z)) (am_th (i_ic (1)) (r_z)))))))))))))))))) (am_th (i_al 0) (am_th (i_gr 4 4) (am_th (i_gi 5 4) (am_th (i_ic (10)) (am_br (b_2 (fun x y => decide (y ≤ x))) (am_th (i_ic (1)) (r_z)) (am_th (i_il 1) (am_th (i_ic (4)) (am_br (b_2 (fun x y => decide (¬ x = y))) (am_th (i_il 1) (am_th (i_ic (6)) (am_br (b_2 (fun x y => decide (¬ x = y))) (am_th (i_ic (0)) (r_z)) (am_th (i_al 0) (am_th (i_gr 4 4) (am_th (i_gi 5 6) (am_th (i_ic (6)) (am_br (b_2 (fun x y => decide (x < y))) (am_th (i_ic (0)) (r_z)) (am_th (i_ic (1)) (r_z)))))))))) (am_th (i_al 0) (am_th (i_gr 4 4) (am_th (i_gi 5 5) (am_th (i_ic (12)) (am_br (b_2 (fun x y => decide (y ≤ x))) (am_th (i_ic (1)) (r_z)) (am_th (i_il 1) (am_th (i_ic (6)) (am_br (b_2 (fun x y => decide (¬ x = y))) (am_th (i_ic (0)) (r_z)) (am_th (i_al 0) (am_th (i_gr 4 4) (am_th (i_gi 5 6) (am_th (i_ic (6)) (am_br (b_2 (fun x y => decide (x < y))) (am_th (i_ic (0)) (r_z)) (am_th (i_ic (1)) (r_z)))))))))))))))))))))))))) (am_th (i_al 0) (am_th (i_gr 4 4) (am_th (i_gi 5 3) (am_th (i_ic (6)) (am_br (b_2 (fun x y => decide (y ≤ x))) (am_th (i_ic (1)) (r_z)) (am_th (i_il 1) (am_th (i_ic (3)) (am_br (b_2 (fun x y => decide (¬ x = y))) (am_th (i_il 1) (am_th (i_ic (4)) (am_br (b_2 (fun x y => decide (¬ x = y))) (am_th (i_il 1) (am_th (i_ic (6)) (am_br (b_2 (fun x y => decide (¬ x = y))) (am_th (i_ic (0)) (r_z)) (am_th (i_al 0) (am_th (i_gr 4 4) (am_th (i_gi 5 6) (am_th (i_ic (6)) (am_br (b_2 (fun x y => decide (x < y))) (am_th (i_ic (0)) (r_z)) (am_th (i_ic (1)) (r_z)))))))))) (am_th (i_al 0) (am_th (i_gr 4 4) (am_th (i_gi 5 5) (am_th (i_ic (12)) (am_br (b_2 (fun x y => decide (y ≤ x))) (am_th (i_ic (1)) (r_z)) (am_th (i_il 1) (am_th (i_ic (6)) (am_br (b_2 (fun x y => decide (¬ x = y))) (am_th (i_ic (0)) (r_z)) (am_th (i_al 0) (am_th (i_gr 4 4) (am_th (i_gi 5 6) (am_th (i_ic (6)) (am_br (b_2 (fun x y => decide (x < y))) (am_th (i_ic (0)) (r_z)) (am_th (i_ic (1)) (r_z)))))))))))))))))) (am_th (i_al 0) (am_th (i_gr 4 4) (am_th (i_gi 5 4) (am_th (i_ic (10)) (am_br (b_2 (fun x y => decide (y ≤ x))) (am_th (i_ic (1)) (r_z)) (am_th (i_il 1) (am_th (i_ic (4)) (am_br (b_2 (fun x y => decide (¬ x = y))) (am_th (i_il 1) (am_th (i_ic (6)) (am_br (b_2 (fun x y => decide (¬ x = y))) (am_th (i_ic (0)) (r_z)) (am_th (i_al 0) (am_th (i_gr 4 4) (am_th (i_gi 5 6) (am_th (i_ic (6)) (am_br (b_2 (fun x y => decide (x < y))) (am_th (i_ic (0)) (r_z)) (am_th (i_ic (1)) (r_z)))))))))) (am_th (i_al 0) (am_th (i_gr 4 4) (am_th (i_gi 5 5) (am_th (i_ic (12)) (am_br (b_2 (fun x y => decide (y ≤ x))) (am_th (i_ic (1)) (r_z)) (am_th (i_il 1) (am_th (i_ic (6)) (am_br (b_2 (fun x y => decide (¬ x = y))) (am_th (i_ic (0)) (r_z)) (am_th (i_al 0) (am_th (i_gr 4 4) (am_th (i_gi 5 6) (am_th (i_ic (6)) (am_br (b_2 (fun x y => decide (x < y))) (am_th (i_ic (0)) (r_z)) (am_th (i_ic (1)) (r_z)))))))))))))))))))))))))))))))))) (am_th (i_al 0) (am_th (i_gr 4 4) (am_th (i_gi 5 2) (am_th (i_ic (6)) (am_br (b_2 (fun x y => decide (y ≤ x))) (am_th (i_ic (1)) (r_z)) (am_th (i_il 1) (am_th (i_ic (2)) (am_br (b_2 (fun x y => decide (¬ x = y))) (am_th (i_il 1) (am_th (i_ic (3)) (am_br (b_2 (fun x y => decide (¬ x = y))) (am_th (i_il 1) (am_th (i_ic (4)) (am_br (b_2 (fun x y => decide (¬ x = y))) (am_th (i_il 1) (am_th (i_ic (6)) (am_br (b_2 (fun x y => decide (¬ x = y))) (am_th (i_ic (0)) (r_z)) (am_th (i_al 0) (am_th (i_gr 4 4) (am_th (i_gi 5 6) (am_th (i_ic (6)) (am_br (b_2 (fun x y => decide (x < y))) (am_th (i_ic (0)) (r_z)) (am_th (i_ic (1)) (r_z)))))))))) (am_th (i_al 0) (am_th (i_gr 4 4) (am_th (i_gi 5 5) (am_th (i_ic (12)) (am_br (b_2 (fun x y => decide (y ≤ x))) (am_th (i_ic (1)) (r_z)) (am_th (i_il 1) (am_th (i_ic (6)) (am_br (b_2 (fun x y => decide (¬ x = y))) (am_th (i_ic (0)) (r_z)) (am_th (i_al 0) (am_th (i_gr 4 4) (am_th (i_gi 5 6) (am_th (i_ic (6)) (am_br (b_2 (fun x y => decide (x < y))) (am_th (i_ic (0)) (r_z)) (am_th (i_ic (1)) (r_z)))))))))))))))))) (am_th (i_al 0) (am_th (i_gr 4 4) (am_th (i_gi 5 4) (am_th (i_ic (10)) (am_br (b_2 (fun x y => decide (y ≤ x))) (am_th (i_ic (1)) (r_z)) (am_th (i_il 1) (am_th (i_ic (4)) (am_br (b_2 (fun x y => decide (¬ x = y))) (am_th (i_il 1) (am_th (i_ic (6)) (am_br (b_2 (fun x y => decide (¬ x = y))) (am_th (i_ic (0)) (r_z)) (am_th (i_al 0) (am_th (i_gr 4 4) (am_th (i_gi 5 6) (am_th (i_ic (6)) (am_br (b_2 (fun x y => decide (x < y))) (am_th (i_ic (0)) (r_z)) (am_th (i_ic (1)) (r_z)))))))))) (am_th (i_al 0) (am_th (i_gr 4 4) (am_th (i_gi 5 5) (am_th (i_ic (12)) (am_br (b_2 (fun x y => decide (y ≤ x))) (am_th (i_ic (1)) (r_z)) (am_th (i_il 1) (am_th (i_ic (6)) (am_br (b_2 (fun x y => decide (¬ x = y))) (am_th (i_ic (0)) (r_z)) (am_th (i_al 0) (am_th (i_gr 4 4) (am_th (i_gi 5 6) (am_th (i_ic (6)) (am_br (b_2 (fun x y => decide (x < y))) (am_th (i_ic (0)) (r_z)) (am_th (i_ic (1)) (r_z)))))))))))))))))))))))))) (am_th (i_al 0) (am_th (i_gr 4 4) (am_th (i_gi 5 3) (am_th (i_ic (6)) (am_br (b_2 (fun x y => decide (y ≤ x))) (am_th (i_ic (1)) (r_z)) (am_th (i_il 1) (am_th (i_ic (3)) (am_br (b_2 (fun x y => decide (¬ x = y))) (am_th (i_il 1) (am_th (i_ic (4)) (am_br (b_2 (fun x y => decide (¬ x = y))) (am_th (i_il 1) (am_th (i_ic (6)) (am_br (b_2 (fun x y => decide (¬ x = y))) (am_th (i_ic (0)) (r_z)) (am_th (i_al 0) (am_th (i_gr 4 4) (am_th (i_gi 5 6) (am_th (i_ic (6)) (am_br (b_2 (fun x y => decide (x < y))) (am_th (i_ic (0)) (r_z)) (am_th (i_ic (1)) (r_z)))))))))) (am_th (i_al 0) (am_th (i_gr 4 4) (am_th (i_gi 5 5) (am_th (i_ic (12)) (am_br (b_2 (fun x y => decide (y ≤ x))) (am_th (i_ic (1)) (r_z)) (am_th (i_il 1) (am_th (i_ic (6)) (am_br (b_2 (fun x y => decide (¬ x = y))) (am_th (i_ic (0)) (r_z)) (am_th (i_al 0) (am_th (i_gr 4 4) (am_th (i_gi 5 6) (am_th (i_ic (6)) (am_br (b_2 (fun x y => decide (x < y))) (am_th (i_ic (0)) (r_z)) (am_th (i_ic (1)) (r_z)))))))))))))))))) (am_th (i_al 0) (am_th (i_gr 4 4) (am_th (i_gi 5 4) (am_th (i_ic (10)) (am_br (b_2 (fun x y => decide (y ≤ x))) (am_th (i_ic (1)) (r_z)) (am_th (i_il 1) (am_th (i_ic (4)) (am_br (b_2 (fun x y => decide (¬ x = y))) (am_th (i_il 1) (am_th (i_ic (6)) (am_br (b_2 (fun x y => decide (¬ x = y))) (am_th (i_ic (0)) (r_z)) (am_th (i_al 0) (am_th (i_gr 4 4) (am_th (i_gi 5 6) (am_th (i_ic (6)) (am_br (b_2 (fun x y => decide (x < y))) (am_th (i_ic (0)) (r_z)) (am_th (i_ic (1)) (r_z)))))))))) (am_th (i_al 0) (am_th (i_gr 4 4) (am_th (i_gi 5 5) (am_th (i_ic (12)) (am_br (b_2 (fun x y => decide (y ≤ x))) (am_th (i_ic (1)) (r_z)) (am_th (i_il 1) (am_th (i_ic (6)) (am_br (b_2 (fun x y => decide (¬ x = y))) (am_th (i_ic (0)) (r_z)) (am_th (i_al 0) (am_th (i_gr 4 4) (am_th (i_gi 5 6) (am_th (i_ic (6)) (am_br (b_2 (fun x y => decide (x < y))) (am_th (i_ic (0)) (r_z)) (am_th (i_ic (1)) (r_z)))))))))))))))))))))))))))))))))))))))))
def d_X4_isFull : am_D := am_den 2 f_X4_isFull
set_option maxHeartbeats 4000000 in
set_option maxRecDepth 100000 in
theorem b_X4_isFull : am_Body yX4_isFull cX4_isFull 2 (some .boolean) 0 0 f_X4_isFull := by
  intro p l e R s m args below meth c g n0 z0 r0 u0 C hr hn
  have C : am_Cx p l e R s m args below meth c g RX4 cX4_isFull 2 n0 z0 (am_len u0) (am_wt u0) 0 0 := C
  unfold f_X4_isFull
  exact (so_th (so_iload_n C dX4_isFull_0 rfl) (so_th (so_iconst C dX4_isFull_1 (by decide)) (so_br (so_icmp_ne C dX4_isFull_2 (by decide)) (so_th (so_iload_n C dX4_isFull_17 rfl) (so_th (so_iconst C dX4_isFull_18 (by decide)) (so_br (so_icmp_ne C dX4_isFull_19 (by decide)) (so_th (so_iload_n C dX4_isFull_34 rfl) (so_th (so_iconst C dX4_isFull_35 (by decide)) (so_br (so_icmp_ne C dX4_isFull_36 (by decide)) (so_th (so_iload_n C dX4_isFull_51 rfl) (so_th (so_iconst C dX4_isFull_52 (by decide)) (so_br (so_icmp_ne C dX4_isFull_53 (by decide)) (so_th (so_iload_n C dX4_isFull_68 rfl) (so_th (so_bipush C dX4_isFull_69 (by decide)) (so_br (so_icmp_ne C dX4_isFull_71 (by decide)) (so_th (so_iconst C dX4_isFull_90 (by decide)) (so_rz C hr dX4_isFull_91)) (so_th (so_aload_n C dX4_isFull_74 rfl) (so_th (so_getr C fl_RX4_26 dX4_isFull_75) (so_th (so_geti C fl_RX4_169 (by decide) dX4_isFull_78) (so_th (so_bipush C dX4_isFull_81 (by decide)) (so_br (so_icmp_lt C dX4_isFull_83 (by decide)) (so_th (so_iconst C dX4_isFull_90 (by decide)) (so_rz C hr dX4_isFull_91)) (so_th (so_iconst C dX4_isFull_86 (by decide)) (so_goto C dX4_isFull_87 (by decide) (so_rz C hr dX4_isFull_91))))))))))) (so_th (so_aload_n C dX4_isFull_56 rfl) (so_th (so_getr C fl_RX4_26 dX4_isFull_57) (so_th (so_geti C fl_RX4_166 (by decide) dX4_isFull_60) (so_th (so_bipush C dX4_isFull_63 (by decide)) (so_br (so_icmp_ge C dX4_isFull_65 (by decide)) (so_th (so_iconst C dX4_isFull_86 (by decide)) (so_goto C dX4_isFull_87 (by decide) (so_rz C hr dX4_isFull_91))) (so_th (so_iload_n C dX4_isFull_68 rfl) (so_th (so_bipush C dX4_isFull_69 (by decide)) (so_br (so_icmp_ne C dX4_isFull_71 (by decide)) (so_th (so_iconst C dX4_isFull_90 (by decide)) (so_rz C hr dX4_isFull_91)) (so_th (so_aload_n C dX4_isFull_74 rfl) (so_th (so_getr C fl_RX4_26 dX4_isFull_75) (so_th (so_geti C fl_RX4_169 (by decide) dX4_isFull_78) (so_th (so_bipush C dX4_isFull_81 (by decide)) (so_br (so_icmp_lt C dX4_isFull_83 (by decide)) (so_th (so_iconst C dX4_isFull_90 (by decide)) (so_rz C hr dX4_isFull_91)) (so_th (so_iconst C dX4_isFull_86 (by decide)) (so_goto C dX4_isFull_87 (by decide) (so_rz C hr dX4_isFull_91))))))))))))))))))) (so_th (so_aload_n C dX4_isFull_39 rfl) (so_th (so_getr C fl_RX4_26 dX4_isFull_40) (so_th (so_geti C fl_RX4_163 (by decide) dX4_isFull_43) (so_th (so_bipush C dX4_isFull_46 (by decide)) (so_br (so_icmp_ge C dX4_isFull_48 (by decide)) (so_th (so_iconst C dX4_isFull_86 (by decide)) (so_goto C dX4_isFull_87 (by decide) (so_rz C hr dX4_isFull_91))) (so_th (so_iload_n C dX4_isFull_51 rfl) (so_th (so_iconst C dX4_isFull_52 (by decide)) (so_br (so_icmp_ne C dX4_isFull_53 (by decide)) (so_th (so_iload_n C dX4_isFull_68 rfl) (so_th (so_bipush C dX4_isFull_69 (by decide)) (so_br (so_icmp_ne C dX4_isFull_71 (by decide)) (so_th (so_iconst C dX4_isFull_90 (by decide)) (so_rz C hr dX4_isFull_91)) (so_th (so_aload_n C dX4_isFull_74 rfl) (so_th (so_getr C fl_RX4_26 dX4_isFull_75) (so_th (so_geti C fl_RX4_169 (by decide) dX4_isFull_78) (so_th (so_bipush C dX4_isFull_81 (by decide)) (so_br (so_icmp_lt C dX4_isFull_83 (by decide)) (so_th (so_iconst C dX4_isFull_90 (by decide)) (so_rz C hr dX4_isFull_91)) (so_th (so_iconst C dX4_isFull_86 (by decide)) (so_goto C dX4_isFull_87 (by decide) (so_rz C hr dX4_isFull_91))))))))))) (so_th (so_aload_n C dX4_isFull_56 rfl) (so_th (so_getr C fl_RX4_26 dX4_isFull_57) (so_th (so_geti C fl_RX4_166 (by decide) dX4_isFull_60) (so_th (so_bipush C dX4_isFull_63 (by decide)) (so_br (so_icmp_ge C dX4_isFull_65 (by decide)) (so_th (so_iconst C dX4_isFull_86 (by decide)) (so_goto C dX4_isFull_87 (by decide) (so_rz C hr dX4_isFull_91))) (so_th (so_iload_n C dX4_isFull_68 rfl) (so_th (so_bipush C dX4_isFull_69 (by decide)) (so_br (so_icmp_ne C dX4_isFull_71 (by decide)) (so_th (so_iconst C dX4_isFull_90 (by decide)) (so_rz C hr dX4_isFull_91)) (so_th (so_aload_n C dX4_isFull_74 rfl) (so_th (so_getr C fl_RX4_26 dX4_isFull_75) (so_th (so_geti C fl_RX4_169 (by decide) dX4_isFull_78) (so_th (so_bipush C dX4_isFull_81 (by decide)) (so_br (so_icmp_lt C dX4_isFull_83 (by decide)) (so_th (so_iconst C dX4_isFull_90 (by decide)) (so_rz C hr dX4_isFull_91)) (so_th (so_iconst C dX4_isFull_86 (by decide)) (so_goto C dX4_isFull_87 (by decide) (so_rz C hr dX4_isFull_91))))))))))))))))))))))))))) (so_th (so_aload_n C dX4_isFull_22 rfl) (so_th (so_getr C fl_RX4_26 dX4_isFull_23) (so_th (so_geti C fl_RX4_62 (by decide) dX4_isFull_26) (so_th (so_bipush C dX4_isFull_29 (by decide)) (so_br (so_icmp_ge C dX4_isFull_31 (by decide)) (so_th (so_iconst C dX4_isFull_86 (by decide)) (so_goto C dX4_isFull_87 (by decide) (so_rz C hr dX4_isFull_91))) (so_th (so_iload_n C dX4_isFull_34 rfl) (so_th (so_iconst C dX4_isFull_35 (by decide)) (so_br (so_icmp_ne C dX4_isFull_36 (by decide)) (so_th (so_iload_n C dX4_isFull_51 rfl) (so_th (so_iconst C dX4_isFull_52 (by decide)) (so_br (so_icmp_ne C dX4_isFull_53 (by decide)) (so_th (so_iload_n C dX4_isFull_68 rfl) (so_th (so_bipush C dX4_isFull_69 (by decide)) (so_br (so_icmp_ne C dX4_isFull_71 (by decide)) (so_th (so_iconst C dX4_isFull_90 (by decide)) (so_rz C hr dX4_isFull_91)) (so_th (so_aload_n C dX4_isFull_74 rfl) (so_th (so_getr C fl_RX4_26 dX4_isFull_75) (so_th (so_geti C fl_RX4_169 (by decide) dX4_isFull_78) (so_th (so_bipush C dX4_isFull_81 (by decide)) (so_br (so_icmp_lt C dX4_isFull_83 (by decide)) (so_th (so_iconst C dX4_isFull_90 (by decide)) (so_rz C hr dX4_isFull_91)) (so_th (so_iconst C dX4_isFull_86 (by decide)) (so_goto C dX4_isFull_87 (by decide) (so_rz C hr dX4_isFull_91))))))))))) (so_th (so_aload_n C dX4_isFull_56 rfl) (so_th (so_getr C fl_RX4_26 dX4_isFull_57) (so_th (so_geti C fl_RX4_166 (by decide) dX4_isFull_60) (so_th (so_bipush C dX4_isFull_63 (by decide)) (so_br (so_icmp_ge C dX4_isFull_65 (by decide)) (so_th (so_iconst C dX4_isFull_86 (by decide)) (so_goto C dX4_isFull_87 (by decide) (so_rz C hr dX4_isFull_91))) (so_th (so_iload_n C dX4_isFull_68 rfl) (so_th (so_bipush C dX4_isFull_69 (by decide)) (so_br (so_icmp_ne C dX4_isFull_71 (by decide)) (so_th (so_iconst C dX4_isFull_90 (by decide)) (so_rz C hr dX4_isFull_91)) (so_th (so_aload_n C dX4_isFull_74 rfl) (so_th (so_getr C fl_RX4_26 dX4_isFull_75) (so_th (so_geti C fl_RX4_169 (by decide) dX4_isFull_78) (so_th (so_bipush C dX4_isFull_81 (by decide)) (so_br (so_icmp_lt C dX4_isFull_83 (by decide)) (so_th (so_iconst C dX4_isFull_90 (by decide)) (so_rz C hr dX4_isFull_91)) (so_th (so_iconst C dX4_isFull_86 (by decide)) (so_goto C dX4_isFull_87 (by decide) (so_rz C hr dX4_isFull_91))))))))))))))))))) (so_th (so_aload_n C dX4_isFull_39 rfl) (so_th (so_getr C fl_RX4_26 dX4_isFull_40) (so_th (so_geti C fl_RX4_163 (by decide) dX4_isFull_43) (so_th (so_bipush C dX4_isFull_46 (by decide)) (so_br (so_icmp_ge C dX4_isFull_48 (by decide)) (so_th (so_iconst C dX4_isFull_86 (by decide)) (so_goto C dX4_isFull_87 (by decide) (so_rz C hr dX4_isFull_91))) (so_th (so_iload_n C dX4_isFull_51 rfl) (so_th (so_iconst C dX4_isFull_52 (by decide)) (so_br (so_icmp_ne C dX4_isFull_53 (by decide)) (so_th (so_iload_n C dX4_isFull_68 rfl) (so_th (so_bipush C dX4_isFull_69 (by decide)) (so_br (so_icmp_ne C dX4_isFull_71 (by decide)) (so_th (so_iconst C dX4_isFull_90 (by decide)) (so_rz C hr dX4_isFull_91)) (so_th (so_aload_n C dX4_isFull_74 rfl) (so_th (so_getr C fl_RX4_26 dX4_isFull_75) (so_th (so_geti C fl_RX4_169 (by decide) dX4_isFull_78) (so_th (so_bipush C dX4_isFull_81 (by decide)) (so_br (so_icmp_lt C dX4_isFull_83 (by decide)) (so_th (so_iconst C dX4_isFull_90 (by decide)) (so_rz C hr dX4_isFull_91)) (so_th (so_iconst C dX4_isFull_86 (by decide)) (so_goto C dX4_isFull_87 (by decide) (so_rz C hr dX4_isFull_91))))))))))) (so_th (so_aload_n C dX4_isFull_56 rfl) (so_th (so_getr C fl_RX4_26 dX4_isFull_57) (so_th (so_geti C fl_RX4_166 (by decide) dX4_isFull_60) (so_th (so_bipush C dX4_isFull_63 (by decide)) (so_br (so_icmp_ge C dX4_isFull_65 (by decide)) (so_th (so_iconst C dX4_isFull_86 (by decide)) (so_goto C dX4_isFull_87 (by decide) (so_rz C hr dX4_isFull_91))) (so_th (so_iload_n C dX4_isFull_68 rfl) (so_th (so_bipush C dX4_isFull_69 (by decide)) (so_br (so_icmp_ne C dX4_isFull_71 (by decide)) (so_th (so_iconst C dX4_isFull_90 (by decide)) (so_rz C hr dX4_isFull_91)) (so_th (so_aload_n C dX4_isFull_74 rfl) (so_th (so_getr C fl_RX4_26 dX4_isFull_75) (so_th (so_geti C fl_RX4_169 (by decide) dX4_isFull_78) (so_th (so_bipush C dX4_isFull_81 (by decide)) (so_br (so_icmp_lt C dX4_isFull_83 (by decide)) (so_th (so_iconst C dX4_isFull_90 (by decide)) (so_rz C hr dX4_isFull_91)) (so_th (so_iconst C dX4_isFull_86 (by decide)) (so_goto C dX4_isFull_87 (by decide) (so_rz C hr dX4_isFull_91))))))))))))))))))))))))))))))))))) (so_th (so_aload_n C dX4_isFull_5 rfl) (so_th (so_getr C fl_RX4_26 dX4_isFull_6) (so_th (so_geti C fl_RX4_136 (by decide) dX4_isFull_9) (so_th (so_bipush C dX4_isFull_12 (by decide)) (so_br (so_icmp_ge C dX4_isFull_14 (by decide)) (so_th (so_iconst C dX4_isFull_86 (by decide)) (so_goto C dX4_isFull_87 (by decide) (so_rz C hr dX4_isFull_91))) (so_th (so_iload_n C dX4_isFull_17 rfl) (so_th (so_iconst C dX4_isFull_18 (by decide)) (so_br (so_icmp_ne C dX4_isFull_19 (by decide)) (so_th (so_iload_n C dX4_isFull_34 rfl) (so_th (so_iconst C dX4_isFull_35 (by decide)) (so_br (so_icmp_ne C dX4_isFull_36 (by decide)) (so_th (so_iload_n C dX4_isFull_51 rfl) (so_th (so_iconst C dX4_isFull_52 (by decide)) (so_br (so_icmp_ne C dX4_isFull_53 (by decide)) (so_th (so_iload_n C dX4_isFull_68 rfl) (so_th (so_bipush C dX4_isFull_69 (by decide)) (so_br (so_icmp_ne C dX4_isFull_71 (by decide)) (so_th (so_iconst C dX4_isFull_90 (by decide)) (so_rz C hr dX4_isFull_91)) (so_th (so_aload_n C dX4_isFull_74 rfl) (so_th (so_getr C fl_RX4_26 dX4_isFull_75) (so_th (so_geti C fl_RX4_169 (by decide) dX4_isFull_78) (so_th (so_bipush C dX4_isFull_81 (by decide)) (so_br (so_icmp_lt C dX4_isFull_83 (by decide)) (so_th (so_iconst C dX4_isFull_90 (by decide)) (so_rz C hr dX4_isFull_91)) (so_th (so_iconst C dX4_isFull_86 (by decide)) (so_goto C dX4_isFull_87 (by decide) (so_rz C hr dX4_isFull_91))))))))))) (so_th (so_aload_n C dX4_isFull_56 rfl) (so_th (so_getr C fl_RX4_26 dX4_isFull_57) (so_th (so_geti C fl_RX4_166 (by decide) dX4_isFull_60) (so_th (so_bipush C dX4_isFull_63 (by decide)) (so_br (so_icmp_ge C dX4_isFull_65 (by decide)) (so_th (so_iconst C dX4_isFull_86 (by decide)) (so_goto C dX4_isFull_87 (by decide) (so_rz C hr dX4_isFull_91))) (so_th (so_iload_n C dX4_isFull_68 rfl) (so_th (so_bipush C dX4_isFull_69 (by decide)) (so_br (so_icmp_ne C dX4_isFull_71 (by decide)) (so_th (so_iconst C dX4_isFull_90 (by decide)) (so_rz C hr dX4_isFull_91)) (so_th (so_aload_n C dX4_isFull_74 rfl) (so_th (so_getr C fl_RX4_26 dX4_isFull_75) (so_th (so_geti C fl_RX4_169 (by decide) dX4_isFull_78) (so_th (so_bipush C dX4_isFull_81 (by decide)) (so_br (so_icmp_lt C dX4_isFull_83 (by decide)) (so_th (so_iconst C dX4_isFull_90 (by decide)) (so_rz C hr dX4_isFull_91)) (so_th (so_iconst C dX4_isFull_86 (by decide)) (so_goto C dX4_isFull_87 (by decide) (so_rz C hr dX4_isFull_91))))))))))))))))))) (so_th (so_aload_n C dX4_isFull_39 rfl) (so_th (so_getr C fl_RX4_26 dX4_isFull_40) (so_th (so_geti C fl_RX4_163 (by decide) dX4_isFull_43) (so_th (so_bipush C dX4_isFull_46 (by decide)) (so_br (so_icmp_ge C dX4_isFull_48 (by decide)) (so_th (so_iconst C dX4_isFull_86 (by decide)) (so_goto C dX4_isFull_87 (by decide) (so_rz C hr dX4_isFull_91))) (so_th (so_iload_n C dX4_isFull_51 rfl) (so_th (so_iconst C dX4_isFull_52 (by decide)) (so_br (so_icmp_ne C dX4_isFull_53 (by decide)) (so_th (so_iload_n C dX4_isFull_68 rfl) (so_th (so_bipush C dX4_isFull_69 (by decide)) (so_br (so_icmp_ne C dX4_isFull_71 (by decide)) (so_th (so_iconst C dX4_isFull_90 (by decide)) (so_rz C hr dX4_isFull_91)) (so_th (so_aload_n C dX4_isFull_74 rfl) (so_th (so_getr C fl_RX4_26 dX4_isFull_75) (so_th (so_geti C fl_RX4_169 (by decide) dX4_isFull_78) (so_th (so_bipush C dX4_isFull_81 (by decide)) (so_br (so_icmp_lt C dX4_isFull_83 (by decide)) (so_th (so_iconst C dX4_isFull_90 (by decide)) (so_rz C hr dX4_isFull_91)) (so_th (so_iconst C dX4_isFull_86 (by decide)) (so_goto C dX4_isFull_87 (by decide) (so_rz C hr dX4_isFull_91))))))))))) (so_th (so_aload_n C dX4_isFull_56 rfl) (so_th (so_getr C fl_RX4_26 dX4_isFull_57) (so_th (so_geti C fl_RX4_166 (by decide) dX4_isFull_60) (so_th (so_bipush C dX4_isFull_63 (by decide)) (so_br (so_icmp_ge C dX4_isFull_65 (by decide)) (so_th (so_iconst C dX4_isFull_86 (by decide)) (so_goto C dX4_isFull_87 (by decide) (so_rz C hr dX4_isFull_91))) (so_th (so_iload_n C dX4_isFull_68 rfl) (so_th (so_bipush C dX4_isFull_69 (by decide)) (so_br (so_icmp_ne C dX4_isFull_71 (by decide)) (so_th (so_iconst C dX4_isFull_90 (by decide)) (so_rz C hr dX4_isFull_91)) (so_th (so_aload_n C dX4_isFull_74 rfl) (so_th (so_getr C fl_RX4_26 dX4_isFull_75) (so_th (so_geti C fl_RX4_169 (by decide) dX4_isFull_78) (so_th (so_bipush C dX4_isFull_81 (by decide)) (so_br (so_icmp_lt C dX4_isFull_83 (by decide)) (so_th (so_iconst C dX4_isFull_90 (by decide)) (so_rz C hr dX4_isFull_91)) (so_th (so_iconst C dX4_isFull_86 (by decide)) (so_goto C dX4_isFull_87 (by decide) (so_rz C hr dX4_isFull_91))))))))))))))))))))))))))) (so_th (so_aload_n C dX4_isFull_22 rfl) (so_th (so_getr C fl_RX4_26 dX4_isFull_23) (so_th (so_geti C fl_RX4_62 (by decide) dX4_isFull_26) (so_th (so_bipush C dX4_isFull_29 (by decide)) (so_br (so_icmp_ge C dX4_isFull_31 (by decide)) (so_th (so_iconst C dX4_isFull_86 (by decide)) (so_goto C dX4_isFull_87 (by decide) (so_rz C hr dX4_isFull_91))) (so_th (so_iload_n C dX4_isFull_34 rfl) (so_th (so_iconst C dX4_isFull_35 (by decide)) (so_br (so_icmp_ne C dX4_isFull_36 (by decide)) (so_th (so_iload_n C dX4_isFull_51 rfl) (so_th (so_iconst C dX4_isFull_52 (by decide)) (so_br (so_icmp_ne C dX4_isFull_53 (by decide)) (so_th (so_iload_n C dX4_isFull_68 rfl) (so_th (so_bipush C dX4_isFull_69 (by decide)) (so_br (so_icmp_ne C dX4_isFull_71 (by decide)) (so_th (so_iconst C dX4_isFull_90 (by decide)) (so_rz C hr dX4_isFull_91)) (so_th (so_aload_n C dX4_isFull_74 rfl) (so_th (so_getr C fl_RX4_26 dX4_isFull_75) (so_th (so_geti C fl_RX4_169 (by decide) dX4_isFull_78) (so_th (so_bipush C dX4_isFull_81 (by decide)) (so_br (so_icmp_lt C dX4_isFull_83 (by decide)) (so_th (so_iconst C dX4_isFull_90 (by decide)) (so_rz C hr dX4_isFull_91)) (so_th (so_iconst C dX4_isFull_86 (by decide)) (so_goto C dX4_isFull_87 (by decide) (so_rz C hr dX4_isFull_91))))))))))) (so_th (so_aload_n C dX4_isFull_56 rfl) (so_th (so_getr C fl_RX4_26 dX4_isFull_57) (so_th (so_geti C fl_RX4_166 (by decide) dX4_isFull_60) (so_th (so_bipush C dX4_isFull_63 (by decide)) (so_br (so_icmp_ge C dX4_isFull_65 (by decide)) (so_th (so_iconst C dX4_isFull_86 (by decide)) (so_goto C dX4_isFull_87 (by decide) (so_rz C hr dX4_isFull_91))) (so_th (so_iload_n C dX4_isFull_68 rfl) (so_th (so_bipush C dX4_isFull_69 (by decide)) (so_br (so_icmp_ne C dX4_isFull_71 (by decide)) (so_th (so_iconst C dX4_isFull_90 (by decide)) (so_rz C hr dX4_isFull_91)) (so_th (so_aload_n C dX4_isFull_74 rfl) (so_th (so_getr C fl_RX4_26 dX4_isFull_75) (so_th (so_geti C fl_RX4_169 (by decide) dX4_isFull_78) (so_th (so_bipush C dX4_isFull_81 (by decide)) (so_br (so_icmp_lt C dX4_isFull_83 (by decide)) (so_th (so_iconst C dX4_isFull_90 (by decide)) (so_rz C hr dX4_isFull_91)) (so_th (so_iconst C dX4_isFull_86 (by decide)) (so_goto C dX4_isFull_87 (by decide) (so_rz C hr dX4_isFull_91))))))))))))))))))) (so_th (so_aload_n C dX4_isFull_39 rfl) (so_th (so_getr C fl_RX4_26 dX4_isFull_40) (so_th (so_geti C fl_RX4_163 (by decide) dX4_isFull_43) (so_th (so_bipush C dX4_isFull_46 (by decide)) (so_br (so_icmp_ge C dX4_isFull_48 (by decide)) (so_th (so_iconst C dX4_isFull_86 (by decide)) (so_goto C dX4_isFull_87 (by decide) (so_rz C hr dX4_isFull_91))) (so_th (so_iload_n C dX4_isFull_51 rfl) (so_th (so_iconst C dX4_isFull_52 (by decide)) (so_br (so_icmp_ne C dX4_isFull_53 (by decide)) (so_th (so_iload_n C dX4_isFull_68 rfl) (so_th (so_bipush C dX4_isFull_69 (by decide)) (so_br (so_icmp_ne C dX4_isFull_71 (by decide)) (so_th (so_iconst C dX4_isFull_90 (by decide)) (so_rz C hr dX4_isFull_91)) (so_th (so_aload_n C dX4_isFull_74 rfl) (so_th (so_getr C fl_RX4_26 dX4_isFull_75) (so_th (so_geti C fl_RX4_169 (by decide) dX4_isFull_78) (so_th (so_bipush C dX4_isFull_81 (by decide)) (so_br (so_icmp_lt C dX4_isFull_83 (by decide)) (so_th (so_iconst C dX4_isFull_90 (by decide)) (so_rz C hr dX4_isFull_91)) (so_th (so_iconst C dX4_isFull_86 (by decide)) (so_goto C dX4_isFull_87 (by decide) (so_rz C hr dX4_isFull_91))))))))))) (so_th (so_aload_n C dX4_isFull_56 rfl) (so_th (so_getr C fl_RX4_26 dX4_isFull_57) (so_th (so_geti C fl_RX4_166 (by decide) dX4_isFull_60) (so_th (so_bipush C dX4_isFull_63 (by decide)) (so_br (so_icmp_ge C dX4_isFull_65 (by decide)) (so_th (so_iconst C dX4_isFull_86 (by decide)) (so_goto C dX4_isFull_87 (by decide) (so_rz C hr dX4_isFull_91))) (so_th (so_iload_n C dX4_isFull_68 rfl) (so_th (so_bipush C dX4_isFull_69 (by decide)) (so_br (so_icmp_ne C dX4_isFull_71 (by decide)) (so_th (so_iconst C dX4_isFull_90 (by decide)) (so_rz C hr dX4_isFull_91)) (so_th (so_aload_n C dX4_isFull_74 rfl) (so_th (so_getr C fl_RX4_26 dX4_isFull_75) (so_th (so_geti C fl_RX4_169 (by decide) dX4_isFull_78) (so_th (so_bipush C dX4_isFull_81 (by decide)) (so_br (so_icmp_lt C dX4_isFull_83 (by decide)) (so_th (so_iconst C dX4_isFull_90 (by decide)) (so_rz C hr dX4_isFull_91)) (so_th (so_iconst C dX4_isFull_86 (by decide)) (so_goto C dX4_isFull_87 (by decide) (so_rz C hr dX4_isFull_91)))))))))))))))))))))))))))))))))))))))))))
theorem m_X4_isFull : am_M yX4_isFull cX4_isFull 2 (some .boolean) 0 0 d_X4_isFull := am_M_of (by decide +kernel) b_X4_isFull
theorem dX4_takeWord_0 : decode cX4_takeWord 0 = .ok (.aload_n 0, 1) := by decide +kernel
theorem dX4_takeWord_1 : decode cX4_takeWord 1 = .ok (.aload_n 1, 1) := by decide +kernel
theorem dX4_takeWord_2 : decode cX4_takeWord 2 = .ok (.invokevirtual 94, 3) := by decide +kernel
theorem dX4_takeWord_5 : decode cX4_takeWord 5 = .ok (.ifCond .ne 9, 3) := by decide +kernel
theorem dX4_takeWord_8 : decode cX4_takeWord 8 = .ok (.aload_n 0, 1) := by decide +kernel
theorem dX4_takeWord_9 : decode cX4_takeWord 9 = .ok (.iconst 1, 1) := by decide +kernel
theorem dX4_takeWord_10 : decode cX4_takeWord 10 = .ok (.invokevirtual 58, 3) := by decide +kernel
theorem dX4_takeWord_13 : decode cX4_takeWord 13 = .ok (.ireturn, 1) := by decide +kernel
theorem dX4_takeWord_14 : decode cX4_takeWord 14 = .ok (.aload_n 0, 1) := by decide +kernel
theorem dX4_takeWord_15 : decode cX4_takeWord 15 = .ok (.invokevirtual 48, 3) := by decide +kernel
theorem dX4_takeWord_18 : decode cX4_takeWord 18 = .ok (.iconst 1, 1) := by decide +kernel
theorem dX4_takeWord_19 : decode cX4_takeWord 19 = .ok (.ireturn, 1) := by decide +kernel
def f_X4_takeWord : am_F := am_th (i_al 0) (am_th (i_al 1) (am_th (i_cv 4 1 d_X4_isWord) (am_br (b_1 (fun x => decide (¬ x = 0))) (am_th (i_al 0) (am_th (i_cv 4 0 d_X4_readToken) (am_th (i_ic (1)) (r_z)))) (am_th (i_al 0) (am_th (i_ic (1)) (am_th (i_cv 4 1 d_X4_fail) (r_z)))))))
def d_X4_takeWord : am_D := am_den 2 f_X4_takeWord
set_option maxHeartbeats 4000000 in
set_option maxRecDepth 100000 in
theorem b_X4_takeWord : am_Body yX4_takeWord cX4_takeWord 2 (some .boolean) 5 107 f_X4_takeWord := by
  intro p l e R s m args below meth c g n0 z0 r0 u0 C hr hn
  have C : am_Cx p l e R s m args below meth c g RX4 cX4_takeWord 2 n0 z0 (am_len u0) (am_wt u0) 5 107 := C
  unfold f_X4_takeWord
  exact (so_th (so_aload_n C dX4_takeWord_0 rfl) (so_th (so_aload_n C dX4_takeWord_1 rfl) (so_th (so_cv C m_X4_isWord rfl k_167 k_169 k_168 k_170 k_150 ⟨by decide, by decide, by decide +kernel⟩ (by decide) dX4_takeWord_2) (so_br (so_if_ne C dX4_takeWord_5 (by decide)) (so_th (so_aload_n C dX4_takeWord_14 rfl) (so_th (so_cv C m_X4_readToken rfl k_171 k_173 k_172 k_174 k_150 ⟨by decide, by decide, by decide +kernel⟩ (by decide) dX4_takeWord_15) (so_th (so_iconst C dX4_takeWord_18 (by decide)) (so_rz C hr dX4_takeWord_19)))) (so_th (so_aload_n C dX4_takeWord_8 rfl) (so_th (so_iconst C dX4_takeWord_9 (by decide)) (so_th (so_cv C m_X4_fail rfl k_175 k_177 k_176 k_178 k_150 ⟨by decide, by decide, by decide +kernel⟩ (by decide) dX4_takeWord_10) (so_rz C hr dX4_takeWord_13))))))))
theorem m_X4_takeWord : am_M yX4_takeWord cX4_takeWord 2 (some .boolean) 5 107 d_X4_takeWord := am_M_of (by decide +kernel) b_X4_takeWord
theorem dX4_takeWhole_0 : decode cX4_takeWhole 0 = .ok (.aload_n 0, 1) := by decide +kernel
theorem dX4_takeWhole_1 : decode cX4_takeWhole 1 = .ok (.getfield 55, 3) := by decide +kernel
theorem dX4_takeWhole_4 : decode cX4_takeWhole 4 = .ok (.iconst 2, 1) := by decide +kernel
theorem dX4_takeWhole_5 : decode cX4_takeWhole 5 = .ok (.if_icmp .eq 9, 3) := by decide +kernel
theorem dX4_takeWhole_8 : decode cX4_takeWhole 8 = .ok (.aload_n 0, 1) := by decide +kernel
theorem dX4_takeWhole_9 : decode cX4_takeWhole 9 = .ok (.iconst 1, 1) := by decide +kernel
theorem dX4_takeWhole_10 : decode cX4_takeWhole 10 = .ok (.invokevirtual 58, 3) := by decide +kernel
theorem dX4_takeWhole_13 : decode cX4_takeWhole 13 = .ok (.ireturn, 1) := by decide +kernel
theorem dX4_takeWhole_14 : decode cX4_takeWhole 14 = .ok (.aload_n 0, 1) := by decide +kernel
theorem dX4_takeWhole_15 : decode cX4_takeWhole 15 = .ok (.getfield 80, 3) := by decide +kernel
theorem dX4_takeWhole_18 : decode cX4_takeWhole 18 = .ok (.iload_n 1, 1) := by decide +kernel
theorem dX4_takeWhole_19 : decode cX4_takeWhole 19 = .ok (.if_icmp .lt 11, 3) := by decide +kernel
theorem dX4_takeWhole_22 : decode cX4_takeWhole 22 = .ok (.aload_n 0, 1) := by decide +kernel
theorem dX4_takeWhole_23 : decode cX4_takeWhole 23 = .ok (.getfield 80, 3) := by decide +kernel
theorem dX4_takeWhole_26 : decode cX4_takeWhole 26 = .ok (.iload_n 2, 1) := by decide +kernel
theorem dX4_takeWhole_27 : decode cX4_takeWhole 27 = .ok (.if_icmp .le 9, 3) := by decide +kernel
theorem dX4_takeWhole_30 : decode cX4_takeWhole 30 = .ok (.aload_n 0, 1) := by decide +kernel
theorem dX4_takeWhole_31 : decode cX4_takeWhole 31 = .ok (.iconst 4, 1) := by decide +kernel
theorem dX4_takeWhole_32 : decode cX4_takeWhole 32 = .ok (.invokevirtual 58, 3) := by decide +kernel
theorem dX4_takeWhole_35 : decode cX4_takeWhole 35 = .ok (.ireturn, 1) := by decide +kernel
theorem dX4_takeWhole_36 : decode cX4_takeWhole 36 = .ok (.aload_n 0, 1) := by decide +kernel
theorem dX4_takeWhole_37 : decode cX4_takeWhole 37 = .ok (.aload_n 0, 1) := by decide +kernel
theorem dX4_takeWhole_38 : decode cX4_takeWhole 38 = .ok (.getfield 80, 3) := by decide +kernel
theorem dX4_takeWhole_41 : decode cX4_takeWhole 41 = .ok (.putfield 118, 3) := by decide +kernel
theorem dX4_takeWhole_44 : decode cX4_takeWhole 44 = .ok (.aload_n 0, 1) := by decide +kernel
theorem dX4_takeWhole_45 : decode cX4_takeWhole 45 = .ok (.invokevirtual 48, 3) := by decide +kernel
theorem dX4_takeWhole_48 : decode cX4_takeWhole 48 = .ok (.iconst 1, 1) := by decide +kernel
theorem dX4_takeWhole_49 : decode cX4_takeWhole 49 = .ok (.ireturn, 1) := by decide +kernel
def f_X4_takeWhole : am_F := am_th (i_al 0) (am_th (i_gi 4 6) (am_th (i_ic (2)) (am_br (b_2 (fun x y => decide (x = y))) (am_th (i_al 0) (am_th (i_gi 4 9) (am_th (i_il 1) (am_br (b_2 (fun x y => decide (x < y))) (am_th (i_al 0) (am_th (i_ic (4)) (am_th (i_cv 4 1 d_X4_fail) (r_z)))) (am_th (i_al 0) (am_th (i_gi 4 9) (am_th (i_il 2) (am_br (b_2 (fun x y => decide (x ≤ y))) (am_th (i_al 0) (am_th (i_al 0) (am_th (i_gi 4 9) (am_th (i_pi 4 11) (am_th (i_al 0) (am_th (i_cv 4 0 d_X4_readToken) (am_th (i_ic (1)) (r_z)))))))) (am_th (i_al 0) (am_th (i_ic (4)) (am_th (i_cv 4 1 d_X4_fail) (r_z)))))))))))) (am_th (i_al 0) (am_th (i_ic (1)) (am_th (i_cv 4 1 d_X4_fail) (r_z)))))))
def d_X4_takeWhole : am_D := am_den 3 f_X4_takeWhole
set_option maxHeartbeats 4000000 in
set_option maxRecDepth 100000 in
theorem b_X4_takeWhole : am_Body yX4_takeWhole cX4_takeWhole 3 (some .boolean) 2 42 f_X4_takeWhole := by
  intro p l e R s m args below meth c g n0 z0 r0 u0 C hr hn
  have C : am_Cx p l e R s m args below meth c g RX4 cX4_takeWhole 3 n0 z0 (am_len u0) (am_wt u0) 2 42 := C
  unfold f_X4_takeWhole
  exact (so_th (so_aload_n C dX4_takeWhole_0 rfl) (so_th (so_geti C fl_RX4_55 (by decide) dX4_takeWhole_1) (so_th (so_iconst C dX4_takeWhole_4 (by decide)) (so_br (so_icmp_eq C dX4_takeWhole_5 (by decide)) (so_th (so_aload_n C dX4_takeWhole_14 rfl) (so_th (so_geti C fl_RX4_80 (by decide) dX4_takeWhole_15) (so_th (so_iload_n C dX4_takeWhole_18 rfl) (so_br (so_icmp_lt C dX4_takeWhole_19 (by decide)) (so_th (so_aload_n C dX4_takeWhole_30 rfl) (so_th (so_iconst C dX4_takeWhole_31 (by decide)) (so_th (so_cv C m_X4_fail rfl k_175 k_177 k_176 k_178 k_150 ⟨by decide, by decide, by decide +kernel⟩ (by decide) dX4_takeWhole_32) (so_rz C hr dX4_takeWhole_35)))) (so_th (so_aload_n C dX4_takeWhole_22 rfl) (so_th (so_geti C fl_RX4_80 (by decide) dX4_takeWhole_23) (so_th (so_iload_n C dX4_takeWhole_26 rfl) (so_br (so_icmp_le C dX4_takeWhole_27 (by decide)) (so_th (so_aload_n C dX4_takeWhole_36 rfl) (so_th (so_aload_n C dX4_takeWhole_37 rfl) (so_th (so_geti C fl_RX4_80 (by decide) dX4_takeWhole_38) (so_th (so_puti C fl_RX4_118 fp_4 (Or.inl rfl) dX4_takeWhole_41) (so_th (so_aload_n C dX4_takeWhole_44 rfl) (so_th (so_cv C m_X4_readToken rfl k_171 k_173 k_172 k_174 k_150 ⟨by decide, by decide, by decide +kernel⟩ (by decide) dX4_takeWhole_45) (so_th (so_iconst C dX4_takeWhole_48 (by decide)) (so_rz C hr dX4_takeWhole_49)))))))) (so_th (so_aload_n C dX4_takeWhole_30 rfl) (so_th (so_iconst C dX4_takeWhole_31 (by decide)) (so_th (so_cv C m_X4_fail rfl k_175 k_177 k_176 k_178 k_150 ⟨by decide, by decide, by decide +kernel⟩ (by decide) dX4_takeWhole_32) (so_rz C hr dX4_takeWhole_35)))))))))))) (so_th (so_aload_n C dX4_takeWhole_8 rfl) (so_th (so_iconst C dX4_takeWhole_9 (by decide)) (so_th (so_cv C m_X4_fail rfl k_175 k_177 k_176 k_178 k_150 ⟨by decide, by decide, by decide +kernel⟩ (by decide) dX4_takeWhole_10) (so_rz C hr dX4_takeWhole_13))))))))
theorem m_X4_takeWhole : am_M yX4_takeWhole cX4_takeWhole 3 (some .boolean) 2 42 d_X4_takeWhole := am_M_of (by decide +kernel) b_X4_takeWhole
theorem dX4_takeValley_0 : decode cX4_takeValley 0 = .ok (.aload_n 0, 1) := by decide +kernel
theorem dX4_takeValley_1 : decode cX4_takeValley 1 = .ok (.iconst 1, 1) := by decide +kernel
theorem dX4_takeValley_2 : decode cX4_takeValley 2 = .ok (.putfield 35, 3) := by decide +kernel
theorem dX4_takeValley_5 : decode cX4_takeValley 5 = .ok (.aload_n 0, 1) := by decide +kernel
theorem dX4_takeValley_6 : decode cX4_takeValley 6 = .ok (.ldc 172, 2) := by decide +kernel
theorem dX4_takeValley_8 : decode cX4_takeValley 8 = .ok (.invokevirtual 174, 3) := by decide +kernel
theorem dX4_takeValley_11 : decode cX4_takeValley 11 = .ok (.ifCond .eq 13, 3) := by decide +kernel
theorem dX4_takeValley_14 : decode cX4_takeValley 14 = .ok (.aload_n 0, 1) := by decide +kernel
theorem dX4_takeValley_15 : decode cX4_takeValley 15 = .ok (.iconst 0, 1) := by decide +kernel
theorem dX4_takeValley_16 : decode cX4_takeValley 16 = .ok (.bipush 9, 2) := by decide +kernel
theorem dX4_takeValley_18 : decode cX4_takeValley 18 = .ok (.invokevirtual 177, 3) := by decide +kernel
theorem dX4_takeValley_21 : decode cX4_takeValley 21 = .ok (.ifCond .ne 5, 3) := by decide +kernel
theorem dX4_takeValley_24 : decode cX4_takeValley 24 = .ok (.iconst 0, 1) := by decide +kernel
theorem dX4_takeValley_25 : decode cX4_takeValley 25 = .ok (.ireturn, 1) := by decide +kernel
theorem dX4_takeValley_26 : decode cX4_takeValley 26 = .ok (.aload_n 0, 1) := by decide +kernel
theorem dX4_takeValley_27 : decode cX4_takeValley 27 = .ok (.getfield 26, 3) := by decide +kernel
theorem dX4_takeValley_30 : decode cX4_takeValley 30 = .ok (.aload_n 0, 1) := by decide +kernel
theorem dX4_takeValley_31 : decode cX4_takeValley 31 = .ok (.getfield 118, 3) := by decide +kernel
theorem dX4_takeValley_34 : decode cX4_takeValley 34 = .ok (.putfield 181, 3) := by decide +kernel
theorem dX4_takeValley_37 : decode cX4_takeValley 37 = .ok (.aload_n 0, 1) := by decide +kernel
theorem dX4_takeValley_38 : decode cX4_takeValley 38 = .ok (.ldc 183, 2) := by decide +kernel
theorem dX4_takeValley_40 : decode cX4_takeValley 40 = .ok (.invokevirtual 174, 3) := by decide +kernel
theorem dX4_takeValley_43 : decode cX4_takeValley 43 = .ok (.ifCond .eq 13, 3) := by decide +kernel
theorem dX4_takeValley_46 : decode cX4_takeValley 46 = .ok (.aload_n 0, 1) := by decide +kernel
theorem dX4_takeValley_47 : decode cX4_takeValley 47 = .ok (.iconst 4, 1) := by decide +kernel
theorem dX4_takeValley_48 : decode cX4_takeValley 48 = .ok (.bipush 30, 2) := by decide +kernel
theorem dX4_takeValley_50 : decode cX4_takeValley 50 = .ok (.invokevirtual 177, 3) := by decide +kernel
theorem dX4_takeValley_53 : decode cX4_takeValley 53 = .ok (.ifCond .ne 5, 3) := by decide +kernel
theorem dX4_takeValley_56 : decode cX4_takeValley 56 = .ok (.iconst 0, 1) := by decide +kernel
theorem dX4_takeValley_57 : decode cX4_takeValley 57 = .ok (.ireturn, 1) := by decide +kernel
theorem dX4_takeValley_58 : decode cX4_takeValley 58 = .ok (.aload_n 0, 1) := by decide +kernel
theorem dX4_takeValley_59 : decode cX4_takeValley 59 = .ok (.getfield 26, 3) := by decide +kernel
theorem dX4_takeValley_62 : decode cX4_takeValley 62 = .ok (.aload_n 0, 1) := by decide +kernel
theorem dX4_takeValley_63 : decode cX4_takeValley 63 = .ok (.getfield 118, 3) := by decide +kernel
theorem dX4_takeValley_66 : decode cX4_takeValley 66 = .ok (.putfield 185, 3) := by decide +kernel
theorem dX4_takeValley_69 : decode cX4_takeValley 69 = .ok (.aload_n 0, 1) := by decide +kernel
theorem dX4_takeValley_70 : decode cX4_takeValley 70 = .ok (.ldc 187, 2) := by decide +kernel
theorem dX4_takeValley_72 : decode cX4_takeValley 72 = .ok (.invokevirtual 174, 3) := by decide +kernel
theorem dX4_takeValley_75 : decode cX4_takeValley 75 = .ok (.ifCond .ne 5, 3) := by decide +kernel
theorem dX4_takeValley_78 : decode cX4_takeValley 78 = .ok (.iconst 0, 1) := by decide +kernel
theorem dX4_takeValley_79 : decode cX4_takeValley 79 = .ok (.ireturn, 1) := by decide +kernel
theorem dX4_takeValley_80 : decode cX4_takeValley 80 = .ok (.iconst 0, 1) := by decide +kernel
theorem dX4_takeValley_81 : decode cX4_takeValley 81 = .ok (.istore_n 1, 1) := by decide +kernel
theorem dX4_takeValley_82 : decode cX4_takeValley 82 = .ok (.iload_n 1, 1) := by decide +kernel
theorem dX4_takeValley_83 : decode cX4_takeValley 83 = .ok (.iconst 4, 1) := by decide +kernel
theorem dX4_takeValley_84 : decode cX4_takeValley 84 = .ok (.if_icmp .ge 34, 3) := by decide +kernel
theorem dX4_takeValley_87 : decode cX4_takeValley 87 = .ok (.aload_n 0, 1) := by decide +kernel
theorem dX4_takeValley_88 : decode cX4_takeValley 88 = .ok (.iconst 1, 1) := by decide +kernel
theorem dX4_takeValley_89 : decode cX4_takeValley 89 = .ok (.bipush 9, 2) := by decide +kernel
theorem dX4_takeValley_91 : decode cX4_takeValley 91 = .ok (.invokevirtual 177, 3) := by decide +kernel
theorem dX4_takeValley_94 : decode cX4_takeValley 94 = .ok (.ifCond .ne 5, 3) := by decide +kernel
theorem dX4_takeValley_97 : decode cX4_takeValley 97 = .ok (.iconst 0, 1) := by decide +kernel
theorem dX4_takeValley_98 : decode cX4_takeValley 98 = .ok (.ireturn, 1) := by decide +kernel
theorem dX4_takeValley_99 : decode cX4_takeValley 99 = .ok (.aload_n 0, 1) := by decide +kernel
theorem dX4_takeValley_100 : decode cX4_takeValley 100 = .ok (.getfield 26, 3) := by decide +kernel
theorem dX4_takeValley_103 : decode cX4_takeValley 103 = .ok (.getfield 189, 3) := by decide +kernel
theorem dX4_takeValley_106 : decode cX4_takeValley 106 = .ok (.iload_n 1, 1) := by decide +kernel
theorem dX4_takeValley_107 : decode cX4_takeValley 107 = .ok (.aload_n 0, 1) := by decide +kernel
theorem dX4_takeValley_108 : decode cX4_takeValley 108 = .ok (.getfield 118, 3) := by decide +kernel
theorem dX4_takeValley_111 : decode cX4_takeValley 111 = .ok (.iastore, 1) := by decide +kernel
theorem dX4_takeValley_112 : decode cX4_takeValley 112 = .ok (.iinc 1 1, 3) := by decide +kernel
theorem dX4_takeValley_115 : decode cX4_takeValley 115 = .ok (.goto (-33), 3) := by decide +kernel
theorem dX4_takeValley_118 : decode cX4_takeValley 118 = .ok (.iconst 1, 1) := by decide +kernel
theorem dX4_takeValley_119 : decode cX4_takeValley 119 = .ok (.ireturn, 1) := by decide +kernel
def f_X4_takeValley_l82 : am_F := am_th (i_il 1) (am_th (i_ic (4)) (am_br (b_2 (fun x y => decide (y ≤ x))) (am_to 118) (am_th (i_al 0) (am_th (i_ic (1)) (am_th (i_ic (9)) (am_th (i_cv 4 2 d_X4_takeWhole) (am_br (b_1 (fun x => decide (¬ x = 0))) (am_th (i_al 0) (am_th (i_gr 4 4) (am_th (i_gr 5 8) (am_th (i_il 1) (am_th (i_al 0) (am_th (i_gi 4 11) (am_th (i_iS) (am_th (i_inc 1 (1)) (am_to 82))))))))) (am_th (i_ic (0)) (r_z)))))))))
def f_X4_takeValley : am_F := am_th (i_al 0) (am_th (i_ic (1)) (am_th (i_pz 4 5) (am_th (i_al 0) (am_th (i_sg 7) (am_th (i_cv 4 1 d_X4_takeWord) (am_br (b_1 (fun x => decide (x = 0))) (am_th (i_ic (0)) (r_z)) (am_th (i_al 0) (am_th (i_ic (0)) (am_th (i_ic (9)) (am_th (i_cv 4 2 d_X4_takeWhole) (am_br (b_1 (fun x => decide (¬ x = 0))) (am_th (i_al 0) (am_th (i_gr 4 4) (am_th (i_al 0) (am_th (i_gi 4 11) (am_th (i_pi 5 0) (am_th (i_al 0) (am_th (i_sg 8) (am_th (i_cv 4 1 d_X4_takeWord) (am_br (b_1 (fun x => decide (x = 0))) (am_th (i_ic (0)) (r_z)) (am_th (i_al 0) (am_th (i_ic (4)) (am_th (i_ic (30)) (am_th (i_cv 4 2 d_X4_takeWhole) (am_br (b_1 (fun x => decide (¬ x = 0))) (am_th (i_al 0) (am_th (i_gr 4 4) (am_th (i_al 0) (am_th (i_gi 4 11) (am_th (i_pi 5 1) (am_th (i_al 0) (am_th (i_sg 9) (am_th (i_cv 4 1 d_X4_takeWord) (am_br (b_1 (fun x => decide (¬ x = 0))) (am_th (i_ic (0)) (am_th (i_is 1) (am_sq 118 (am_lp 5000 82 f_X4_takeValley_l82) (am_th (i_ic (1)) (r_z))))) (am_th (i_ic (0)) (r_z))))))))))) (am_th (i_ic (0)) (r_z)))))))))))))))) (am_th (i_ic (0)) (r_z)))))))))))))
def d_X4_takeValley : am_D := am_den 2 f_X4_takeValley
set_option maxHeartbeats 4000000 in
set_option maxRecDepth 100000 in
theorem b_X4_takeValley : am_Body yX4_takeValley cX4_takeValley 2 (some .boolean) 6 128 f_X4_takeValley := by
  intro p l e R s m args below meth c g n0 z0 r0 u0 C hr hn
  have C : am_Cx p l e R s m args below meth c g RX4 cX4_takeValley 2 n0 z0 (am_len u0) (am_wt u0) 6 128 := C
  have l82 : am_Snd (am_GM p l e R s m args below meth c g 2 n0 z0 r0 u0) (am_Rt r0 u0) 82 (f_X4_takeValley_l82) := by
    unfold f_X4_takeValley_l82
    exact (so_th (so_iload_n C dX4_takeValley_82 rfl) (so_th (so_iconst C dX4_takeValley_83 (by decide)) (so_br (so_icmp_ge C dX4_takeValley_84 (by decide)) (so_to) (so_th (so_aload_n C dX4_takeValley_87 rfl) (so_th (so_iconst C dX4_takeValley_88 (by decide)) (so_th (so_bipush C dX4_takeValley_89 (by decide)) (so_th (so_cv C m_X4_takeWhole rfl k_183 k_185 k_184 k_186 k_150 ⟨by decide, by decide, by decide +kernel⟩ (by decide) dX4_takeValley_91) (so_br (so_if_ne C dX4_takeValley_94 (by decide)) (so_th (so_aload_n C dX4_takeValley_99 rfl) (so_th (so_getr C fl_RX4_26 dX4_takeValley_100) (so_th (so_getr C fl_RX4_189 dX4_takeValley_103) (so_th (so_iload_n C dX4_takeValley_106 rfl) (so_th (so_aload_n C dX4_takeValley_107 rfl) (so_th (so_geti C fl_RX4_118 (by decide) dX4_takeValley_108) (so_th (so_iast C dX4_takeValley_111) (so_th (so_iinc C dX4_takeValley_112 (by decide) (by decide)) (so_goto C dX4_takeValley_115 (by decide) (so_to)))))))))) (so_th (so_iconst C dX4_takeValley_97 (by decide)) (so_rz C hr dX4_takeValley_98))))))))))
  unfold f_X4_takeValley
  exact (so_th (so_aload_n C dX4_takeValley_0 rfl) (so_th (so_iconst C dX4_takeValley_1 (by decide)) (so_th (so_putz C fl_RX4_35 fp_4 (Or.inl rfl) dX4_takeValley_2) (so_th (so_aload_n C dX4_takeValley_5 rfl) (so_th (so_ldcS C dX4_takeValley_6 (List.mem_of_getElem? (i := 7) rfl)) (so_th (so_cv C m_X4_takeWord rfl k_179 k_181 k_180 k_182 k_150 ⟨by decide, by decide, by decide +kernel⟩ (by decide) dX4_takeValley_8) (so_br (so_if_eq C dX4_takeValley_11 (by decide)) (so_th (so_iconst C dX4_takeValley_24 (by decide)) (so_rz C hr dX4_takeValley_25)) (so_th (so_aload_n C dX4_takeValley_14 rfl) (so_th (so_iconst C dX4_takeValley_15 (by decide)) (so_th (so_bipush C dX4_takeValley_16 (by decide)) (so_th (so_cv C m_X4_takeWhole rfl k_183 k_185 k_184 k_186 k_150 ⟨by decide, by decide, by decide +kernel⟩ (by decide) dX4_takeValley_18) (so_br (so_if_ne C dX4_takeValley_21 (by decide)) (so_th (so_aload_n C dX4_takeValley_26 rfl) (so_th (so_getr C fl_RX4_26 dX4_takeValley_27) (so_th (so_aload_n C dX4_takeValley_30 rfl) (so_th (so_geti C fl_RX4_118 (by decide) dX4_takeValley_31) (so_th (so_puti C fl_RX4_181 fp_5 (Or.inl rfl) dX4_takeValley_34) (so_th (so_aload_n C dX4_takeValley_37 rfl) (so_th (so_ldcS C dX4_takeValley_38 (List.mem_of_getElem? (i := 8) rfl)) (so_th (so_cv C m_X4_takeWord rfl k_179 k_181 k_180 k_182 k_150 ⟨by decide, by decide, by decide +kernel⟩ (by decide) dX4_takeValley_40) (so_br (so_if_eq C dX4_takeValley_43 (by decide)) (so_th (so_iconst C dX4_takeValley_56 (by decide)) (so_rz C hr dX4_takeValley_57)) (so_th (so_aload_n C dX4_takeValley_46 rfl) (so_th (so_iconst C dX4_takeValley_47 (by decide)) (so_th (so_bipush C dX4_takeValley_48 (by decide)) (so_th (so_cv C m_X4_takeWhole rfl k_183 k_185 k_184 k_186 k_150 ⟨by decide, by decide, by decide +kernel⟩ (by decide) dX4_takeValley_50) (so_br (so_if_ne C dX4_takeValley_53 (by decide)) (so_th (so_aload_n C dX4_takeValley_58 rfl) (so_th (so_getr C fl_RX4_26 dX4_takeValley_59) (so_th (so_aload_n C dX4_takeValley_62 rfl) (so_th (so_geti C fl_RX4_118 (by decide) dX4_takeValley_63) (so_th (so_puti C fl_RX4_185 fp_5 (Or.inl rfl) dX4_takeValley_66) (so_th (so_aload_n C dX4_takeValley_69 rfl) (so_th (so_ldcS C dX4_takeValley_70 (List.mem_of_getElem? (i := 9) rfl)) (so_th (so_cv C m_X4_takeWord rfl k_179 k_181 k_180 k_182 k_150 ⟨by decide, by decide, by decide +kernel⟩ (by decide) dX4_takeValley_72) (so_br (so_if_ne C dX4_takeValley_75 (by decide)) (so_th (so_iconst C dX4_takeValley_80 (by decide)) (so_th (so_istore_n C dX4_takeValley_81 rfl (by decide)) (so_sq (so_lp l82 5000) (so_th (so_iconst C dX4_takeValley_118 (by decide)) (so_rz C hr dX4_takeValley_119))))) (so_th (so_iconst C dX4_takeValley_78 (by decide)) (so_rz C hr dX4_takeValley_79))))))))))) (so_th (so_iconst C dX4_takeValley_56 (by decide)) (so_rz C hr dX4_takeValley_57)))))))))))))))) (so_th (so_iconst C dX4_takeValley_24 (by decide)) (so_rz C hr dX4_takeValley_25))))))))))))))
theorem m_X4_takeValley : am_M yX4_takeValley cX4_takeValley 2 (some .boolean) 6 128 d_X4_takeValley := am_M_of (by decide +kernel) b_X4_takeValley
theorem dX4_familyAtHand_0 : decode cX4_familyAtHand 0 = .ok (.iconst 0, 1) := by decide +kernel
theorem dX4_familyAtHand_1 : decode cX4_familyAtHand 1 = .ok (.istore_n 1, 1) := by decide +kernel
theorem dX4_familyAtHand_2 : decode cX4_familyAtHand 2 = .ok (.iload_n 1, 1) := by decide +kernel
theorem dX4_familyAtHand_3 : decode cX4_familyAtHand 3 = .ok (.aload_n 0, 1) := by decide +kernel
theorem dX4_familyAtHand_4 : decode cX4_familyAtHand 4 = .ok (.getfield 26, 3) := by decide +kernel
theorem dX4_familyAtHand_7 : decode cX4_familyAtHand 7 = .ok (.getfield 136, 3) := by decide +kernel
theorem dX4_familyAtHand_10 : decode cX4_familyAtHand 10 = .ok (.if_icmp .ge 25, 3) := by decide +kernel
theorem dX4_familyAtHand_13 : decode cX4_familyAtHand 13 = .ok (.aload_n 0, 1) := by decide +kernel
theorem dX4_familyAtHand_14 : decode cX4_familyAtHand 14 = .ok (.getfield 9, 3) := by decide +kernel
theorem dX4_familyAtHand_17 : decode cX4_familyAtHand 17 = .ok (.iload_n 1, 1) := by decide +kernel
theorem dX4_familyAtHand_18 : decode cX4_familyAtHand 18 = .ok (.laload, 1) := by decide +kernel
theorem dX4_familyAtHand_19 : decode cX4_familyAtHand 19 = .ok (.aload_n 0, 1) := by decide +kernel
theorem dX4_familyAtHand_20 : decode cX4_familyAtHand 20 = .ok (.getfield 74, 3) := by decide +kernel
theorem dX4_familyAtHand_23 : decode cX4_familyAtHand 23 = .ok (.lcmp, 1) := by decide +kernel
theorem dX4_familyAtHand_24 : decode cX4_familyAtHand 24 = .ok (.ifCond .ne 5, 3) := by decide +kernel
theorem dX4_familyAtHand_27 : decode cX4_familyAtHand 27 = .ok (.iload_n 1, 1) := by decide +kernel
theorem dX4_familyAtHand_28 : decode cX4_familyAtHand 28 = .ok (.ireturn, 1) := by decide +kernel
theorem dX4_familyAtHand_29 : decode cX4_familyAtHand 29 = .ok (.iinc 1 1, 3) := by decide +kernel
theorem dX4_familyAtHand_32 : decode cX4_familyAtHand 32 = .ok (.goto (-30), 3) := by decide +kernel
theorem dX4_familyAtHand_35 : decode cX4_familyAtHand 35 = .ok (.iconst (-1), 1) := by decide +kernel
theorem dX4_familyAtHand_36 : decode cX4_familyAtHand 36 = .ok (.ireturn, 1) := by decide +kernel
def f_X4_familyAtHand_l2 : am_F := am_th (i_il 1) (am_th (i_al 0) (am_th (i_gr 4 4) (am_th (i_gi 5 2) (am_br (b_2 (fun x y => decide (y ≤ x))) (am_to 35) (am_th (i_al 0) (am_th (i_gr 4 12) (am_th (i_il 1) (am_th (i_la) (am_th (i_al 0) (am_th (i_gl 4 10) (am_th (j_cmp) (am_br (b_1 (fun x => decide (¬ x = 0))) (am_th (i_inc 1 (1)) (am_to 2)) (am_th (i_il 1) (r_i))))))))))))))
def f_X4_familyAtHand : am_F := am_th (i_ic (0)) (am_th (i_is 1) (am_sq 35 (am_lp 5000 2 f_X4_familyAtHand_l2) (am_th (i_ic (-1)) (r_i))))
def d_X4_familyAtHand : am_D := am_den 2 f_X4_familyAtHand
set_option maxHeartbeats 4000000 in
set_option maxRecDepth 100000 in
theorem b_X4_familyAtHand : am_Body yX4_familyAtHand cX4_familyAtHand 2 (some .int) 0 0 f_X4_familyAtHand := by
  intro p l e R s m args below meth c g n0 z0 r0 u0 C hr hn
  have C : am_Cx p l e R s m args below meth c g RX4 cX4_familyAtHand 2 n0 z0 (am_len u0) (am_wt u0) 0 0 := C
  have l2 : am_Snd (am_GM p l e R s m args below meth c g 2 n0 z0 r0 u0) (am_Rt r0 u0) 2 (f_X4_familyAtHand_l2) := by
    unfold f_X4_familyAtHand_l2
    exact (so_th (so_iload_n C dX4_familyAtHand_2 rfl) (so_th (so_aload_n C dX4_familyAtHand_3 rfl) (so_th (so_getr C fl_RX4_26 dX4_familyAtHand_4) (so_th (so_geti C fl_RX4_136 (by decide) dX4_familyAtHand_7) (so_br (so_icmp_ge C dX4_familyAtHand_10 (by decide)) (so_to) (so_th (so_aload_n C dX4_familyAtHand_13 rfl) (so_th (so_getr C fl_RX4_9 dX4_familyAtHand_14) (so_th (so_iload_n C dX4_familyAtHand_17 rfl) (so_th (so_lald C dX4_familyAtHand_18) (so_th (so_aload_n C dX4_familyAtHand_19 rfl) (so_th (so_getl C fl_RX4_74 dX4_familyAtHand_20) (so_th (so_lcmp C dX4_familyAtHand_23) (so_br (so_if_ne C dX4_familyAtHand_24 (by decide)) (so_th (so_iinc C dX4_familyAtHand_29 (by decide) (by decide)) (so_goto C dX4_familyAtHand_32 (by decide) (so_to))) (so_th (so_iload_n C dX4_familyAtHand_27 rfl) (so_ri C hr dX4_familyAtHand_28)))))))))))))))
  unfold f_X4_familyAtHand
  exact (so_th (so_iconst C dX4_familyAtHand_0 (by decide)) (so_th (so_istore_n C dX4_familyAtHand_1 rfl (by decide)) (so_sq (so_lp l2 5000) (so_th (so_iconst C dX4_familyAtHand_35 (by decide)) (so_ri C hr dX4_familyAtHand_36)))))
theorem m_X4_familyAtHand : am_M yX4_familyAtHand cX4_familyAtHand 2 (some .int) 0 0 d_X4_familyAtHand := am_M_of (by decide +kernel) b_X4_familyAtHand
theorem dX4_quarrelAtHand_0 : decode cX4_quarrelAtHand 0 = .ok (.iconst 0, 1) := by decide +kernel
theorem dX4_quarrelAtHand_1 : decode cX4_quarrelAtHand 1 = .ok (.istore_n 1, 1) := by decide +kernel
theorem dX4_quarrelAtHand_2 : decode cX4_quarrelAtHand 2 = .ok (.iload_n 1, 1) := by decide +kernel
theorem dX4_quarrelAtHand_3 : decode cX4_quarrelAtHand 3 = .ok (.aload_n 0, 1) := by decide +kernel
theorem dX4_quarrelAtHand_4 : decode cX4_quarrelAtHand 4 = .ok (.getfield 26, 3) := by decide +kernel
theorem dX4_quarrelAtHand_7 : decode cX4_quarrelAtHand 7 = .ok (.getfield 62, 3) := by decide +kernel
theorem dX4_quarrelAtHand_10 : decode cX4_quarrelAtHand 10 = .ok (.if_icmp .ge 25, 3) := by decide +kernel
theorem dX4_quarrelAtHand_13 : decode cX4_quarrelAtHand 13 = .ok (.aload_n 0, 1) := by decide +kernel
theorem dX4_quarrelAtHand_14 : decode cX4_quarrelAtHand 14 = .ok (.getfield 15, 3) := by decide +kernel
theorem dX4_quarrelAtHand_17 : decode cX4_quarrelAtHand 17 = .ok (.iload_n 1, 1) := by decide +kernel
theorem dX4_quarrelAtHand_18 : decode cX4_quarrelAtHand 18 = .ok (.laload, 1) := by decide +kernel
theorem dX4_quarrelAtHand_19 : decode cX4_quarrelAtHand 19 = .ok (.aload_n 0, 1) := by decide +kernel
theorem dX4_quarrelAtHand_20 : decode cX4_quarrelAtHand 20 = .ok (.getfield 74, 3) := by decide +kernel
theorem dX4_quarrelAtHand_23 : decode cX4_quarrelAtHand 23 = .ok (.lcmp, 1) := by decide +kernel
theorem dX4_quarrelAtHand_24 : decode cX4_quarrelAtHand 24 = .ok (.ifCond .ne 5, 3) := by decide +kernel
theorem dX4_quarrelAtHand_27 : decode cX4_quarrelAtHand 27 = .ok (.iload_n 1, 1) := by decide +kernel
theorem dX4_quarrelAtHand_28 : decode cX4_quarrelAtHand 28 = .ok (.ireturn, 1) := by decide +kernel
theorem dX4_quarrelAtHand_29 : decode cX4_quarrelAtHand 29 = .ok (.iinc 1 1, 3) := by decide +kernel
theorem dX4_quarrelAtHand_32 : decode cX4_quarrelAtHand 32 = .ok (.goto (-30), 3) := by decide +kernel
theorem dX4_quarrelAtHand_35 : decode cX4_quarrelAtHand 35 = .ok (.iconst (-1), 1) := by decide +kernel
theorem dX4_quarrelAtHand_36 : decode cX4_quarrelAtHand 36 = .ok (.ireturn, 1) := by decide +kernel
def f_X4_quarrelAtHand_l2 : am_F := am_th (i_il 1) (am_th (i_al 0) (am_th (i_gr 4 4) (am_th (i_gi 5 3) (am_br (b_2 (fun x y => decide (y ≤ x))) (am_to 35) (am_th (i_al 0) (am_th (i_gr 4 13) (am_th (i_il 1) (am_th (i_la) (am_th (i_al 0) (am_th (i_gl 4 10) (am_th (j_cmp) (am_br (b_1 (fun x => decide (¬ x = 0))) (am_th (i_inc 1 (1)) (am_to 2)) (am_th (i_il 1) (r_i))))))))))))))
def f_X4_quarrelAtHand : am_F := am_th (i_ic (0)) (am_th (i_is 1) (am_sq 35 (am_lp 5000 2 f_X4_quarrelAtHand_l2) (am_th (i_ic (-1)) (r_i))))
def d_X4_quarrelAtHand : am_D := am_den 2 f_X4_quarrelAtHand
set_option maxHeartbeats 4000000 in
set_option maxRecDepth 100000 in
theorem b_X4_quarrelAtHand : am_Body yX4_quarrelAtHand cX4_quarrelAtHand 2 (some .int) 0 0 f_X4_quarrelAtHand := by
  intro p l e R s m args below meth c g n0 z0 r0 u0 C hr hn
  have C : am_Cx p l e R s m args below meth c g RX4 cX4_quarrelAtHand 2 n0 z0 (am_len u0) (am_wt u0) 0 0 := C
  have l2 : am_Snd (am_GM p l e R s m args below meth c g 2 n0 z0 r0 u0) (am_Rt r0 u0) 2 (f_X4_quarrelAtHand_l2) := by
    unfold f_X4_quarrelAtHand_l2
    exact (so_th (so_iload_n C dX4_quarrelAtHand_2 rfl) (so_th (so_aload_n C dX4_quarrelAtHand_3 rfl) (so_th (so_getr C fl_RX4_26 dX4_quarrelAtHand_4) (so_th (so_geti C fl_RX4_62 (by decide) dX4_quarrelAtHand_7) (so_br (so_icmp_ge C dX4_quarrelAtHand_10 (by decide)) (so_to) (so_th (so_aload_n C dX4_quarrelAtHand_13 rfl) (so_th (so_getr C fl_RX4_15 dX4_quarrelAtHand_14) (so_th (so_iload_n C dX4_quarrelAtHand_17 rfl) (so_th (so_lald C dX4_quarrelAtHand_18) (so_th (so_aload_n C dX4_quarrelAtHand_19 rfl) (so_th (so_getl C fl_RX4_74 dX4_quarrelAtHand_20) (so_th (so_lcmp C dX4_quarrelAtHand_23) (so_br (so_if_ne C dX4_quarrelAtHand_24 (by decide)) (so_th (so_iinc C dX4_quarrelAtHand_29 (by decide) (by decide)) (so_goto C dX4_quarrelAtHand_32 (by decide) (so_to))) (so_th (so_iload_n C dX4_quarrelAtHand_27 rfl) (so_ri C hr dX4_quarrelAtHand_28)))))))))))))))
  unfold f_X4_quarrelAtHand
  exact (so_th (so_iconst C dX4_quarrelAtHand_0 (by decide)) (so_th (so_istore_n C dX4_quarrelAtHand_1 rfl (by decide)) (so_sq (so_lp l2 5000) (so_th (so_iconst C dX4_quarrelAtHand_35 (by decide)) (so_ri C hr dX4_quarrelAtHand_36)))))
theorem m_X4_quarrelAtHand : am_M yX4_quarrelAtHand cX4_quarrelAtHand 2 (some .int) 0 0 d_X4_quarrelAtHand := am_M_of (by decide +kernel) b_X4_quarrelAtHand
theorem dX4_takeNewName_0 : decode cX4_takeNewName 0 = .ok (.aload_n 0, 1) := by decide +kernel
theorem dX4_takeNewName_1 : decode cX4_takeNewName 1 = .ok (.getfield 55, 3) := by decide +kernel
theorem dX4_takeNewName_4 : decode cX4_takeNewName 4 = .ok (.iconst 1, 1) := by decide +kernel
theorem dX4_takeNewName_5 : decode cX4_takeNewName 5 = .ok (.if_icmp .ne 11, 3) := by decide +kernel
theorem dX4_takeNewName_8 : decode cX4_takeNewName 8 = .ok (.aload_n 0, 1) := by decide +kernel
theorem dX4_takeNewName_9 : decode cX4_takeNewName 9 = .ok (.invokevirtual 124, 3) := by decide +kernel
theorem dX4_takeNewName_12 : decode cX4_takeNewName 12 = .ok (.iconst (-1), 1) := by decide +kernel
theorem dX4_takeNewName_13 : decode cX4_takeNewName 13 = .ok (.if_icmp .eq 9, 3) := by decide +kernel
theorem dX4_takeNewName_16 : decode cX4_takeNewName 16 = .ok (.aload_n 0, 1) := by decide +kernel
theorem dX4_takeNewName_17 : decode cX4_takeNewName 17 = .ok (.iconst 1, 1) := by decide +kernel
theorem dX4_takeNewName_18 : decode cX4_takeNewName 18 = .ok (.invokevirtual 58, 3) := by decide +kernel
theorem dX4_takeNewName_21 : decode cX4_takeNewName 21 = .ok (.ireturn, 1) := by decide +kernel
theorem dX4_takeNewName_22 : decode cX4_takeNewName 22 = .ok (.aload_n 0, 1) := by decide +kernel
theorem dX4_takeNewName_23 : decode cX4_takeNewName 23 = .ok (.invokevirtual 127, 3) := by decide +kernel
theorem dX4_takeNewName_26 : decode cX4_takeNewName 26 = .ok (.ifCond .ge 10, 3) := by decide +kernel
theorem dX4_takeNewName_29 : decode cX4_takeNewName 29 = .ok (.aload_n 0, 1) := by decide +kernel
theorem dX4_takeNewName_30 : decode cX4_takeNewName 30 = .ok (.invokevirtual 130, 3) := by decide +kernel
theorem dX4_takeNewName_33 : decode cX4_takeNewName 33 = .ok (.ifCond .lt 9, 3) := by decide +kernel
theorem dX4_takeNewName_36 : decode cX4_takeNewName 36 = .ok (.aload_n 0, 1) := by decide +kernel
theorem dX4_takeNewName_37 : decode cX4_takeNewName 37 = .ok (.iconst 3, 1) := by decide +kernel
theorem dX4_takeNewName_38 : decode cX4_takeNewName 38 = .ok (.invokevirtual 58, 3) := by decide +kernel
theorem dX4_takeNewName_41 : decode cX4_takeNewName 41 = .ok (.ireturn, 1) := by decide +kernel
theorem dX4_takeNewName_42 : decode cX4_takeNewName 42 = .ok (.iload_n 2, 1) := by decide +kernel
theorem dX4_takeNewName_43 : decode cX4_takeNewName 43 = .ok (.aload_n 1, 1) := by decide +kernel
theorem dX4_takeNewName_44 : decode cX4_takeNewName 44 = .ok (.arraylength, 1) := by decide +kernel
theorem dX4_takeNewName_45 : decode cX4_takeNewName 45 = .ok (.if_icmp .ge 10, 3) := by decide +kernel
theorem dX4_takeNewName_48 : decode cX4_takeNewName 48 = .ok (.aload_n 1, 1) := by decide +kernel
theorem dX4_takeNewName_49 : decode cX4_takeNewName 49 = .ok (.iload_n 2, 1) := by decide +kernel
theorem dX4_takeNewName_50 : decode cX4_takeNewName 50 = .ok (.aload_n 0, 1) := by decide +kernel
theorem dX4_takeNewName_51 : decode cX4_takeNewName 51 = .ok (.getfield 74, 3) := by decide +kernel
theorem dX4_takeNewName_54 : decode cX4_takeNewName 54 = .ok (.lastore, 1) := by decide +kernel
theorem dX4_takeNewName_55 : decode cX4_takeNewName 55 = .ok (.aload_n 0, 1) := by decide +kernel
theorem dX4_takeNewName_56 : decode cX4_takeNewName 56 = .ok (.invokevirtual 48, 3) := by decide +kernel
theorem dX4_takeNewName_59 : decode cX4_takeNewName 59 = .ok (.iconst 1, 1) := by decide +kernel
theorem dX4_takeNewName_60 : decode cX4_takeNewName 60 = .ok (.ireturn, 1) := by decide +kernel
def f_X4_takeNewName : am_F := am_th (i_al 0) (am_th (i_gi 4 6) (am_th (i_ic (1)) (am_br (b_2 (fun x y => decide (¬ x = y))) (am_th (i_al 0) (am_th (i_ic (1)) (am_th (i_cv 4 1 d_X4_fail) (r_z)))) (am_th (i_al 0) (am_th (i_cv 4 0 d_X4_lineAtHand) (am_th (i_ic (-1)) (am_br (b_2 (fun x y => decide (x = y))) (am_th (i_al 0) (am_th (i_cv 4 0 d_X4_familyAtHand) (am_br (b_1 (fun x => decide (0 ≤ x))) (am_th (i_al 0) (am_th (i_ic (3)) (am_th (i_cv 4 1 d_X4_fail) (r_z)))) (am_th (i_al 0) (am_th (i_cv 4 0 d_X4_quarrelAtHand) (am_br (b_1 (fun x => decide (x < 0))) (am_th (i_il 2) (am_th (i_al 1) (am_th (i_len) (am_br (b_2 (fun x y => decide (y ≤ x))) (am_th (i_al 0) (am_th (i_cv 4 0 d_X4_readToken) (am_th (i_ic (1)) (r_z)))) (am_th (i_al 1) (am_th (i_il 2) (am_th (i_al 0) (am_th (i_gl 4 10) (am_th (i_lS) (am_th (i_al 0) (am_th (i_cv 4 0 d_X4_readToken) (am_th (i_ic (1)) (r_z))))))))))))) (am_th (i_al 0) (am_th (i_ic (3)) (am_th (i_cv 4 1 d_X4_fail) (r_z)))))))))) (am_th (i_al 0) (am_th (i_ic (1)) (am_th (i_cv 4 1 d_X4_fail) (r_z)))))))))))
def d_X4_takeNewName : am_D := am_den 3 f_X4_takeNewName
set_option maxHeartbeats 4000000 in
set_option maxRecDepth 100000 in
theorem b_X4_takeNewName : am_Body yX4_takeNewName cX4_takeNewName 3 (some .boolean) 6 127 f_X4_takeNewName := by
  intro p l e R s m args below meth c g n0 z0 r0 u0 C hr hn
  have C : am_Cx p l e R s m args below meth c g RX4 cX4_takeNewName 3 n0 z0 (am_len u0) (am_wt u0) 6 127 := C
  unfold f_X4_takeNewName
  exact (so_th (so_aload_n C dX4_takeNewName_0 rfl) (so_th (so_geti C fl_RX4_55 (by decide) dX4_takeNewName_1) (so_th (so_iconst C dX4_takeNewName_4 (by decide)) (so_br (so_icmp_ne C dX4_takeNewName_5 (by decide)) (so_th (so_aload_n C dX4_takeNewName_16 rfl) (so_th (so_iconst C dX4_takeNewName_17 (by decide)) (so_th (so_cv C m_X4_fail rfl k_175 k_177 k_176 k_178 k_150 ⟨by decide, by decide, by decide +kernel⟩ (by decide) dX4_takeNewName_18) (so_rz C hr dX4_takeNewName_21)))) (so_th (so_aload_n C dX4_takeNewName_8 rfl) (so_th (so_cv C m_X4_lineAtHand rfl k_187 k_189 k_188 k_190 k_150 ⟨by decide, by decide, by decide +kernel⟩ (by decide) dX4_takeNewName_9) (so_th (so_iconst C dX4_takeNewName_12 (by decide)) (so_br (so_icmp_eq C dX4_takeNewName_13 (by decide)) (so_th (so_aload_n C dX4_takeNewName_22 rfl) (so_th (so_cv C m_X4_familyAtHand rfl k_191 k_193 k_192 k_194 k_150 ⟨by decide, by decide, by decide +kernel⟩ (by decide) dX4_takeNewName_23) (so_br (so_if_ge C dX4_takeNewName_26 (by decide)) (so_th (so_aload_n C dX4_takeNewName_36 rfl) (so_th (so_iconst C dX4_takeNewName_37 (by decide)) (so_th (so_cv C m_X4_fail rfl k_175 k_177 k_176 k_178 k_150 ⟨by decide, by decide, by decide +kernel⟩ (by decide) dX4_takeNewName_38) (so_rz C hr dX4_takeNewName_41)))) (so_th (so_aload_n C dX4_takeNewName_29 rfl) (so_th (so_cv C m_X4_quarrelAtHand rfl k_195 k_197 k_196 k_198 k_150 ⟨by decide, by decide, by decide +kernel⟩ (by decide) dX4_takeNewName_30) (so_br (so_if_lt C dX4_takeNewName_33 (by decide)) (so_th (so_iload_n C dX4_takeNewName_42 rfl) (so_th (so_aload_n C dX4_takeNewName_43 rfl) (so_th (so_alen C dX4_takeNewName_44) (so_br (so_icmp_ge C dX4_takeNewName_45 (by decide)) (so_th (so_aload_n C dX4_takeNewName_55 rfl) (so_th (so_cv C m_X4_readToken rfl k_171 k_173 k_172 k_174 k_150 ⟨by decide, by decide, by decide +kernel⟩ (by decide) dX4_takeNewName_56) (so_th (so_iconst C dX4_takeNewName_59 (by decide)) (so_rz C hr dX4_takeNewName_60)))) (so_th (so_aload_n C dX4_takeNewName_48 rfl) (so_th (so_iload_n C dX4_takeNewName_49 rfl) (so_th (so_aload_n C dX4_takeNewName_50 rfl) (so_th (so_getl C fl_RX4_74 dX4_takeNewName_51) (so_th (so_last C dX4_takeNewName_54) (so_th (so_aload_n C dX4_takeNewName_55 rfl) (so_th (so_cv C m_X4_readToken rfl k_171 k_173 k_172 k_174 k_150 ⟨by decide, by decide, by decide +kernel⟩ (by decide) dX4_takeNewName_56) (so_th (so_iconst C dX4_takeNewName_59 (by decide)) (so_rz C hr dX4_takeNewName_60))))))))))))) (so_th (so_aload_n C dX4_takeNewName_36 rfl) (so_th (so_iconst C dX4_takeNewName_37 (by decide)) (so_th (so_cv C m_X4_fail rfl k_175 k_177 k_176 k_178 k_150 ⟨by decide, by decide, by decide +kernel⟩ (by decide) dX4_takeNewName_38) (so_rz C hr dX4_takeNewName_41)))))))))) (so_th (so_aload_n C dX4_takeNewName_16 rfl) (so_th (so_iconst C dX4_takeNewName_17 (by decide)) (so_th (so_cv C m_X4_fail rfl k_175 k_177 k_176 k_178 k_150 ⟨by decide, by decide, by decide +kernel⟩ (by decide) dX4_takeNewName_18) (so_rz C hr dX4_takeNewName_21))))))))))))
theorem m_X4_takeNewName : am_M yX4_takeNewName cX4_takeNewName 3 (some .boolean) 6 127 d_X4_takeNewName := am_M_of (by decide +kernel) b_X4_takeNewName
theorem dX4_takeFamilyLine_0 : decode cX4_takeFamilyLine 0 = .ok (.aload_n 0, 1) := by decide +kernel
theorem dX4_takeFamilyLine_1 : decode cX4_takeFamilyLine 1 = .ok (.getfield 26, 3) := by decide +kernel
theorem dX4_takeFamilyLine_4 : decode cX4_takeFamilyLine 4 = .ok (.getfield 136, 3) := by decide +kernel
theorem dX4_takeFamilyLine_7 : decode cX4_takeFamilyLine 7 = .ok (.istore_n 1, 1) := by decide +kernel
theorem dX4_takeFamilyLine_8 : decode cX4_takeFamilyLine 8 = .ok (.aload_n 0, 1) := by decide +kernel
theorem dX4_takeFamilyLine_9 : decode cX4_takeFamilyLine 9 = .ok (.aload_n 0, 1) := by decide +kernel
theorem dX4_takeFamilyLine_10 : decode cX4_takeFamilyLine 10 = .ok (.getfield 9, 3) := by decide +kernel
theorem dX4_takeFamilyLine_13 : decode cX4_takeFamilyLine 13 = .ok (.iload_n 1, 1) := by decide +kernel
theorem dX4_takeFamilyLine_14 : decode cX4_takeFamilyLine 14 = .ok (.invokevirtual 192, 3) := by decide +kernel
theorem dX4_takeFamilyLine_17 : decode cX4_takeFamilyLine 17 = .ok (.ifCond .eq 22, 3) := by decide +kernel
theorem dX4_takeFamilyLine_20 : decode cX4_takeFamilyLine 20 = .ok (.aload_n 0, 1) := by decide +kernel
theorem dX4_takeFamilyLine_21 : decode cX4_takeFamilyLine 21 = .ok (.ldc 196, 2) := by decide +kernel
theorem dX4_takeFamilyLine_23 : decode cX4_takeFamilyLine 23 = .ok (.invokevirtual 174, 3) := by decide +kernel
theorem dX4_takeFamilyLine_26 : decode cX4_takeFamilyLine 26 = .ok (.ifCond .eq 13, 3) := by decide +kernel
theorem dX4_takeFamilyLine_29 : decode cX4_takeFamilyLine 29 = .ok (.aload_n 0, 1) := by decide +kernel
theorem dX4_takeFamilyLine_30 : decode cX4_takeFamilyLine 30 = .ok (.iconst 1, 1) := by decide +kernel
theorem dX4_takeFamilyLine_31 : decode cX4_takeFamilyLine 31 = .ok (.bipush 99, 2) := by decide +kernel
theorem dX4_takeFamilyLine_33 : decode cX4_takeFamilyLine 33 = .ok (.invokevirtual 177, 3) := by decide +kernel
theorem dX4_takeFamilyLine_36 : decode cX4_takeFamilyLine 36 = .ok (.ifCond .ne 5, 3) := by decide +kernel
theorem dX4_takeFamilyLine_39 : decode cX4_takeFamilyLine 39 = .ok (.iconst 0, 1) := by decide +kernel
theorem dX4_takeFamilyLine_40 : decode cX4_takeFamilyLine 40 = .ok (.ireturn, 1) := by decide +kernel
theorem dX4_takeFamilyLine_41 : decode cX4_takeFamilyLine 41 = .ok (.aload_n 0, 1) := by decide +kernel
theorem dX4_takeFamilyLine_42 : decode cX4_takeFamilyLine 42 = .ok (.getfield 26, 3) := by decide +kernel
theorem dX4_takeFamilyLine_45 : decode cX4_takeFamilyLine 45 = .ok (.getfield 198, 3) := by decide +kernel
theorem dX4_takeFamilyLine_48 : decode cX4_takeFamilyLine 48 = .ok (.iload_n 1, 1) := by decide +kernel
theorem dX4_takeFamilyLine_49 : decode cX4_takeFamilyLine 49 = .ok (.aload_n 0, 1) := by decide +kernel
theorem dX4_takeFamilyLine_50 : decode cX4_takeFamilyLine 50 = .ok (.getfield 118, 3) := by decide +kernel
theorem dX4_takeFamilyLine_53 : decode cX4_takeFamilyLine 53 = .ok (.iastore, 1) := by decide +kernel
theorem dX4_takeFamilyLine_54 : decode cX4_takeFamilyLine 54 = .ok (.aload_n 0, 1) := by decide +kernel
theorem dX4_takeFamilyLine_55 : decode cX4_takeFamilyLine 55 = .ok (.getfield 26, 3) := by decide +kernel
theorem dX4_takeFamilyLine_58 : decode cX4_takeFamilyLine 58 = .ok (.dup, 1) := by decide +kernel
theorem dX4_takeFamilyLine_59 : decode cX4_takeFamilyLine 59 = .ok (.getfield 136, 3) := by decide +kernel
theorem dX4_takeFamilyLine_62 : decode cX4_takeFamilyLine 62 = .ok (.iconst 1, 1) := by decide +kernel
theorem dX4_takeFamilyLine_63 : decode cX4_takeFamilyLine 63 = .ok (.iadd, 1) := by decide +kernel
theorem dX4_takeFamilyLine_64 : decode cX4_takeFamilyLine 64 = .ok (.putfield 136, 3) := by decide +kernel
theorem dX4_takeFamilyLine_67 : decode cX4_takeFamilyLine 67 = .ok (.iconst 1, 1) := by decide +kernel
theorem dX4_takeFamilyLine_68 : decode cX4_takeFamilyLine 68 = .ok (.ireturn, 1) := by decide +kernel
def f_X4_takeFamilyLine : am_F := am_th (i_al 0) (am_th (i_gr 4 4) (am_th (i_gi 5 2) (am_th (i_is 1) (am_th (i_al 0) (am_th (i_al 0) (am_th (i_gr 4 12) (am_th (i_il 1) (am_th (i_cv 4 2 d_X4_takeNewName) (am_br (b_1 (fun x => decide (x = 0))) (am_th (i_ic (0)) (r_z)) (am_th (i_al 0) (am_th (i_sg 10) (am_th (i_cv 4 1 d_X4_takeWord) (am_br (b_1 (fun x => decide (x = 0))) (am_th (i_ic (0)) (r_z)) (am_th (i_al 0) (am_th (i_ic (1)) (am_th (i_ic (99)) (am_th (i_cv 4 2 d_X4_takeWhole) (am_br (b_1 (fun x => decide (¬ x = 0))) (am_th (i_al 0) (am_th (i_gr 4 4) (am_th (i_gr 5 9) (am_th (i_il 1) (am_th (i_al 0) (am_th (i_gi 4 11) (am_th (i_iS) (am_th (i_al 0) (am_th (i_gr 4 4) (am_th (i_dup) (am_th (i_gi 5 2) (am_th (i_ic (1)) (am_th (i_2 (fun x y => x + y)) (am_th (i_pi 5 2) (am_th (i_ic (1)) (r_z)))))))))))))))) (am_th (i_ic (0)) (r_z))))))))))))))))))))
def d_X4_takeFamilyLine : am_D := am_den 2 f_X4_takeFamilyLine
set_option maxHeartbeats 4000000 in
set_option maxRecDepth 100000 in
theorem b_X4_takeFamilyLine : am_Body yX4_takeFamilyLine cX4_takeFamilyLine 2 (some .boolean) 7 149 f_X4_takeFamilyLine := by
  intro p l e R s m args below meth c g n0 z0 r0 u0 C hr hn
  have C : am_Cx p l e R s m args below meth c g RX4 cX4_takeFamilyLine 2 n0 z0 (am_len u0) (am_wt u0) 7 149 := C
  unfold f_X4_takeFamilyLine
  exact (so_th (so_aload_n C dX4_takeFamilyLine_0 rfl) (so_th (so_getr C fl_RX4_26 dX4_takeFamilyLine_1) (so_th (so_geti C fl_RX4_136 (by decide) dX4_takeFamilyLine_4) (so_th (so_istore_n C dX4_takeFamilyLine_7 rfl (by decide)) (so_th (so_aload_n C dX4_takeFamilyLine_8 rfl) (so_th (so_aload_n C dX4_takeFamilyLine_9 rfl) (so_th (so_getr C fl_RX4_9 dX4_takeFamilyLine_10) (so_th (so_iload_n C dX4_takeFamilyLine_13 rfl) (so_th (so_cv C m_X4_takeNewName rfl k_199 k_201 k_200 k_202 k_150 ⟨by decide, by decide, by decide +kernel⟩ (by decide) dX4_takeFamilyLine_14) (so_br (so_if_eq C dX4_takeFamilyLine_17 (by decide)) (so_th (so_iconst C dX4_takeFamilyLine_39 (by decide)) (so_rz C hr dX4_takeFamilyLine_40)) (so_th (so_aload_n C dX4_takeFamilyLine_20 rfl) (so_th (so_ldcS C dX4_takeFamilyLine_21 (List.mem_of_getElem? (i := 10) rfl)) (so_th (so_cv C m_X4_takeWord rfl k_179 k_181 k_180 k_182 k_150 ⟨by decide, by decide, by decide +kernel⟩ (by decide) dX4_takeFamilyLine_23) (so_br (so_if_eq C dX4_takeFamilyLine_26 (by decide)) (so_th (so_iconst C dX4_takeFamilyLine_39 (by decide)) (so_rz C hr dX4_takeFamilyLine_40)) (so_th (so_aload_n C dX4_takeFamilyLine_29 rfl) (so_th (so_iconst C dX4_takeFamilyLine_30 (by decide)) (so_th (so_bipush C dX4_takeFamilyLine_31 (by decide)) (so_th (so_cv C m_X4_takeWhole rfl k_183 k_185 k_184 k_186 k_150 ⟨by decide, by decide, by decide +kernel⟩ (by decide) dX4_takeFamilyLine_33) (so_br (so_if_ne C dX4_takeFamilyLine_36 (by decide)) (so_th (so_aload_n C dX4_takeFamilyLine_41 rfl) (so_th (so_getr C fl_RX4_26 dX4_takeFamilyLine_42) (so_th (so_getr C fl_RX4_198 dX4_takeFamilyLine_45) (so_th (so_iload_n C dX4_takeFamilyLine_48 rfl) (so_th (so_aload_n C dX4_takeFamilyLine_49 rfl) (so_th (so_geti C fl_RX4_118 (by decide) dX4_takeFamilyLine_50) (so_th (so_iast C dX4_takeFamilyLine_53) (so_th (so_aload_n C dX4_takeFamilyLine_54 rfl) (so_th (so_getr C fl_RX4_26 dX4_takeFamilyLine_55) (so_th (so_dup C dX4_takeFamilyLine_58) (so_th (so_geti C fl_RX4_136 (by decide) dX4_takeFamilyLine_59) (so_th (so_iconst C dX4_takeFamilyLine_62 (by decide)) (so_th (so_iadd C dX4_takeFamilyLine_63) (so_th (so_puti C fl_RX4_136 fp_5 (Or.inl rfl) dX4_takeFamilyLine_64) (so_th (so_iconst C dX4_takeFamilyLine_67 (by decide)) (so_rz C hr dX4_takeFamilyLine_68)))))))))))))))) (so_th (so_iconst C dX4_takeFamilyLine_39 (by decide)) (so_rz C hr dX4_takeFamilyLine_40)))))))))))))))))))))
theorem m_X4_takeFamilyLine : am_M yX4_takeFamilyLine cX4_takeFamilyLine 2 (some .boolean) 7 149 d_X4_takeFamilyLine := am_M_of (by decide +kernel) b_X4_takeFamilyLine
theorem dX4_kindAtHand_0 : decode cX4_kindAtHand 0 = .ok (.aload_n 0, 1) := by decide +kernel
theorem dX4_kindAtHand_1 : decode cX4_kindAtHand 1 = .ok (.ldc 110, 2) := by decide +kernel
theorem dX4_kindAtHand_3 : decode cX4_kindAtHand 3 = .ok (.invokevirtual 94, 3) := by decide +kernel
theorem dX4_kindAtHand_6 : decode cX4_kindAtHand 6 = .ok (.ifCond .eq 7, 3) := by decide +kernel
theorem dX4_kindAtHand_9 : decode cX4_kindAtHand 9 = .ok (.iconst 0, 1) := by decide +kernel
theorem dX4_kindAtHand_10 : decode cX4_kindAtHand 10 = .ok (.goto 43, 3) := by decide +kernel
theorem dX4_kindAtHand_13 : decode cX4_kindAtHand 13 = .ok (.aload_n 0, 1) := by decide +kernel
theorem dX4_kindAtHand_14 : decode cX4_kindAtHand 14 = .ok (.ldc 112, 2) := by decide +kernel
theorem dX4_kindAtHand_16 : decode cX4_kindAtHand 16 = .ok (.invokevirtual 94, 3) := by decide +kernel
theorem dX4_kindAtHand_19 : decode cX4_kindAtHand 19 = .ok (.ifCond .eq 7, 3) := by decide +kernel
theorem dX4_kindAtHand_22 : decode cX4_kindAtHand 22 = .ok (.iconst 1, 1) := by decide +kernel
theorem dX4_kindAtHand_23 : decode cX4_kindAtHand 23 = .ok (.goto 30, 3) := by decide +kernel
theorem dX4_kindAtHand_26 : decode cX4_kindAtHand 26 = .ok (.aload_n 0, 1) := by decide +kernel
theorem dX4_kindAtHand_27 : decode cX4_kindAtHand 27 = .ok (.ldc 114, 2) := by decide +kernel
theorem dX4_kindAtHand_29 : decode cX4_kindAtHand 29 = .ok (.invokevirtual 94, 3) := by decide +kernel
theorem dX4_kindAtHand_32 : decode cX4_kindAtHand 32 = .ok (.ifCond .eq 7, 3) := by decide +kernel
theorem dX4_kindAtHand_35 : decode cX4_kindAtHand 35 = .ok (.iconst 2, 1) := by decide +kernel
theorem dX4_kindAtHand_36 : decode cX4_kindAtHand 36 = .ok (.goto 17, 3) := by decide +kernel
theorem dX4_kindAtHand_39 : decode cX4_kindAtHand 39 = .ok (.aload_n 0, 1) := by decide +kernel
theorem dX4_kindAtHand_40 : decode cX4_kindAtHand 40 = .ok (.ldc 116, 2) := by decide +kernel
theorem dX4_kindAtHand_42 : decode cX4_kindAtHand 42 = .ok (.invokevirtual 94, 3) := by decide +kernel
theorem dX4_kindAtHand_45 : decode cX4_kindAtHand 45 = .ok (.ifCond .eq 7, 3) := by decide +kernel
theorem dX4_kindAtHand_48 : decode cX4_kindAtHand 48 = .ok (.iconst 3, 1) := by decide +kernel
theorem dX4_kindAtHand_49 : decode cX4_kindAtHand 49 = .ok (.goto 4, 3) := by decide +kernel
theorem dX4_kindAtHand_52 : decode cX4_kindAtHand 52 = .ok (.iconst (-1), 1) := by decide +kernel
theorem dX4_kindAtHand_53 : decode cX4_kindAtHand 53 = .ok (.ireturn, 1) := by decide +kernel
def f_X4_kindAtHand : am_F := am_th (i_al 0) (am_th (i_sg 11) (am_th (i_cv 4 1 d_X4_isWord) (am_br (b_1 (fun x => decide (x = 0))) (am_th (i_al 0) (am_th (i_sg 12) (am_th (i_cv 4 1 d_X4_isWord) (am_br (b_1 (fun x => decide (x = 0))) (am_th (i_al 0) (am_th (i_sg 13) (am_th (i_cv 4 1 d_X4_isWord) (am_br (b_1 (fun x => decide (x = 0))) (am_th (i_al 0) (am_th (i_sg 14) (am_th (i_cv 4 1 d_X4_isWord) (am_br (b_1 (fun x => decide (x = 0))) (am_th (i_ic (-1)) (r_i)) (am_th (i_ic (3)) (r_i)))))) (am_th (i_ic (2)) (r_i)))))) (am_th (i_ic (1)) (r_i)))))) (am_th (i_ic (0)) (r_i)))))
def d_X4_kindAtHand : am_D := am_den 1 f_X4_kindAtHand
set_option maxHeartbeats 4000000 in
set_option maxRecDepth 100000 in
theorem b_X4_kindAtHand : am_Body yX4_kindAtHand cX4_kindAtHand 1 (some .int) 5 107 f_X4_kindAtHand := by
  intro p l e R s m args below meth c g n0 z0 r0 u0 C hr hn
  have C : am_Cx p l e R s m args below meth c g RX4 cX4_kindAtHand 1 n0 z0 (am_len u0) (am_wt u0) 5 107 := C
  unfold f_X4_kindAtHand
  exact (so_th (so_aload_n C dX4_kindAtHand_0 rfl) (so_th (so_ldcS C dX4_kindAtHand_1 (List.mem_of_getElem? (i := 11) rfl)) (so_th (so_cv C m_X4_isWord rfl k_167 k_169 k_168 k_170 k_150 ⟨by decide, by decide, by decide +kernel⟩ (by decide) dX4_kindAtHand_3) (so_br (so_if_eq C dX4_kindAtHand_6 (by decide)) (so_th (so_aload_n C dX4_kindAtHand_13 rfl) (so_th (so_ldcS C dX4_kindAtHand_14 (List.mem_of_getElem? (i := 12) rfl)) (so_th (so_cv C m_X4_isWord rfl k_167 k_169 k_168 k_170 k_150 ⟨by decide, by decide, by decide +kernel⟩ (by decide) dX4_kindAtHand_16) (so_br (so_if_eq C dX4_kindAtHand_19 (by decide)) (so_th (so_aload_n C dX4_kindAtHand_26 rfl) (so_th (so_ldcS C dX4_kindAtHand_27 (List.mem_of_getElem? (i := 13) rfl)) (so_th (so_cv C m_X4_isWord rfl k_167 k_169 k_168 k_170 k_150 ⟨by decide, by decide, by decide +kernel⟩ (by decide) dX4_kindAtHand_29) (so_br (so_if_eq C dX4_kindAtHand_32 (by decide)) (so_th (so_aload_n C dX4_kindAtHand_39 rfl) (so_th (so_ldcS C dX4_kindAtHand_40 (List.mem_of_getElem? (i := 14) rfl)) (so_th (so_cv C m_X4_isWord rfl k_167 k_169 k_168 k_170 k_150 ⟨by decide, by decide, by decide +kernel⟩ (by decide) dX4_kindAtHand_42) (so_br (so_if_eq C dX4_kindAtHand_45 (by decide)) (so_th (so_iconst C dX4_kindAtHand_52 (by decide)) (so_ri C hr dX4_kindAtHand_53)) (so_th (so_iconst C dX4_kindAtHand_48 (by decide)) (so_goto C dX4_kindAtHand_49 (by decide) (so_ri C hr dX4_kindAtHand_53))))))) (so_th (so_iconst C dX4_kindAtHand_35 (by decide)) (so_goto C dX4_kindAtHand_36 (by decide) (so_ri C hr dX4_kindAtHand_53))))))) (so_th (so_iconst C dX4_kindAtHand_22 (by decide)) (so_goto C dX4_kindAtHand_23 (by decide) (so_ri C hr dX4_kindAtHand_53))))))) (so_th (so_iconst C dX4_kindAtHand_9 (by decide)) (so_goto C dX4_kindAtHand_10 (by decide) (so_ri C hr dX4_kindAtHand_53)))))))
theorem m_X4_kindAtHand : am_M yX4_kindAtHand cX4_kindAtHand 1 (some .int) 5 107 d_X4_kindAtHand := am_M_of (by decide +kernel) b_X4_kindAtHand
theorem dX4_takeKind_0 : decode cX4_takeKind 0 = .ok (.aload_n 0, 1) := by decide +kernel
theorem dX4_takeKind_1 : decode cX4_takeKind 1 = .ok (.aload_n 0, 1) := by decide +kernel
theorem dX4_takeKind_2 : decode cX4_takeKind 2 = .ok (.invokevirtual 121, 3) := by decide +kernel
theorem dX4_takeKind_5 : decode cX4_takeKind 5 = .ok (.putfield 118, 3) := by decide +kernel
theorem dX4_takeKind_8 : decode cX4_takeKind 8 = .ok (.aload_n 0, 1) := by decide +kernel
theorem dX4_takeKind_9 : decode cX4_takeKind 9 = .ok (.getfield 118, 3) := by decide +kernel
theorem dX4_takeKind_12 : decode cX4_takeKind 12 = .ok (.ifCond .ge 9, 3) := by decide +kernel
theorem dX4_takeKind_15 : decode cX4_takeKind 15 = .ok (.aload_n 0, 1) := by decide +kernel
theorem dX4_takeKind_16 : decode cX4_takeKind 16 = .ok (.iconst 1, 1) := by decide +kernel
theorem dX4_takeKind_17 : decode cX4_takeKind 17 = .ok (.invokevirtual 58, 3) := by decide +kernel
theorem dX4_takeKind_20 : decode cX4_takeKind 20 = .ok (.ireturn, 1) := by decide +kernel
theorem dX4_takeKind_21 : decode cX4_takeKind 21 = .ok (.aload_n 0, 1) := by decide +kernel
theorem dX4_takeKind_22 : decode cX4_takeKind 22 = .ok (.invokevirtual 48, 3) := by decide +kernel
theorem dX4_takeKind_25 : decode cX4_takeKind 25 = .ok (.iconst 1, 1) := by decide +kernel
theorem dX4_takeKind_26 : decode cX4_takeKind 26 = .ok (.ireturn, 1) := by decide +kernel
def f_X4_takeKind : am_F := am_th (i_al 0) (am_th (i_al 0) (am_th (i_cv 4 0 d_X4_kindAtHand) (am_th (i_pi 4 11) (am_th (i_al 0) (am_th (i_gi 4 11) (am_br (b_1 (fun x => decide (0 ≤ x))) (am_th (i_al 0) (am_th (i_cv 4 0 d_X4_readToken) (am_th (i_ic (1)) (r_z)))) (am_th (i_al 0) (am_th (i_ic (1)) (am_th (i_cv 4 1 d_X4_fail) (r_z))))))))))
def d_X4_takeKind : am_D := am_den 1 f_X4_takeKind
set_option maxHeartbeats 4000000 in
set_option maxRecDepth 100000 in
theorem b_X4_takeKind : am_Body yX4_takeKind cX4_takeKind 1 (some .boolean) 6 127 f_X4_takeKind := by
  intro p l e R s m args below meth c g n0 z0 r0 u0 C hr hn
  have C : am_Cx p l e R s m args below meth c g RX4 cX4_takeKind 1 n0 z0 (am_len u0) (am_wt u0) 6 127 := C
  unfold f_X4_takeKind
  exact (so_th (so_aload_n C dX4_takeKind_0 rfl) (so_th (so_aload_n C dX4_takeKind_1 rfl) (so_th (so_cv C m_X4_kindAtHand rfl k_203 k_205 k_204 k_206 k_150 ⟨by decide, by decide, by decide +kernel⟩ (by decide) dX4_takeKind_2) (so_th (so_puti C fl_RX4_118 fp_4 (Or.inl rfl) dX4_takeKind_5) (so_th (so_aload_n C dX4_takeKind_8 rfl) (so_th (so_geti C fl_RX4_118 (by decide) dX4_takeKind_9) (so_br (so_if_ge C dX4_takeKind_12 (by decide)) (so_th (so_aload_n C dX4_takeKind_21 rfl) (so_th (so_cv C m_X4_readToken rfl k_171 k_173 k_172 k_174 k_150 ⟨by decide, by decide, by decide +kernel⟩ (by decide) dX4_takeKind_22) (so_th (so_iconst C dX4_takeKind_25 (by decide)) (so_rz C hr dX4_takeKind_26)))) (so_th (so_aload_n C dX4_takeKind_15 rfl) (so_th (so_iconst C dX4_takeKind_16 (by decide)) (so_th (so_cv C m_X4_fail rfl k_175 k_177 k_176 k_178 k_150 ⟨by decide, by decide, by decide +kernel⟩ (by decide) dX4_takeKind_17) (so_rz C hr dX4_takeKind_20)))))))))))
theorem m_X4_takeKind : am_M yX4_takeKind cX4_takeKind 1 (some .boolean) 6 127 d_X4_takeKind := am_M_of (by decide +kernel) b_X4_takeKind
theorem dX4_takeFamily_0 : decode cX4_takeFamily 0 = .ok (.aload_n 0, 1) := by decide +kernel
theorem dX4_takeFamily_1 : decode cX4_takeFamily 1 = .ok (.getfield 55, 3) := by decide +kernel
theorem dX4_takeFamily_4 : decode cX4_takeFamily 4 = .ok (.iconst 1, 1) := by decide +kernel
theorem dX4_takeFamily_5 : decode cX4_takeFamily 5 = .ok (.if_icmp .ne 11, 3) := by decide +kernel
theorem dX4_takeFamily_8 : decode cX4_takeFamily 8 = .ok (.aload_n 0, 1) := by decide +kernel
theorem dX4_takeFamily_9 : decode cX4_takeFamily 9 = .ok (.invokevirtual 124, 3) := by decide +kernel
theorem dX4_takeFamily_12 : decode cX4_takeFamily 12 = .ok (.iconst (-1), 1) := by decide +kernel
theorem dX4_takeFamily_13 : decode cX4_takeFamily 13 = .ok (.if_icmp .eq 9, 3) := by decide +kernel
theorem dX4_takeFamily_16 : decode cX4_takeFamily 16 = .ok (.aload_n 0, 1) := by decide +kernel
theorem dX4_takeFamily_17 : decode cX4_takeFamily 17 = .ok (.iconst 1, 1) := by decide +kernel
theorem dX4_takeFamily_18 : decode cX4_takeFamily 18 = .ok (.invokevirtual 58, 3) := by decide +kernel
theorem dX4_takeFamily_21 : decode cX4_takeFamily 21 = .ok (.ireturn, 1) := by decide +kernel
theorem dX4_takeFamily_22 : decode cX4_takeFamily 22 = .ok (.aload_n 0, 1) := by decide +kernel
theorem dX4_takeFamily_23 : decode cX4_takeFamily 23 = .ok (.aload_n 0, 1) := by decide +kernel
theorem dX4_takeFamily_24 : decode cX4_takeFamily 24 = .ok (.invokevirtual 127, 3) := by decide +kernel
theorem dX4_takeFamily_27 : decode cX4_takeFamily 27 = .ok (.putfield 118, 3) := by decide +kernel
theorem dX4_takeFamily_30 : decode cX4_takeFamily 30 = .ok (.aload_n 0, 1) := by decide +kernel
theorem dX4_takeFamily_31 : decode cX4_takeFamily 31 = .ok (.getfield 118, 3) := by decide +kernel
theorem dX4_takeFamily_34 : decode cX4_takeFamily 34 = .ok (.ifCond .ge 9, 3) := by decide +kernel
theorem dX4_takeFamily_37 : decode cX4_takeFamily 37 = .ok (.aload_n 0, 1) := by decide +kernel
theorem dX4_takeFamily_38 : decode cX4_takeFamily 38 = .ok (.iconst 2, 1) := by decide +kernel
theorem dX4_takeFamily_39 : decode cX4_takeFamily 39 = .ok (.invokevirtual 58, 3) := by decide +kernel
theorem dX4_takeFamily_42 : decode cX4_takeFamily 42 = .ok (.ireturn, 1) := by decide +kernel
theorem dX4_takeFamily_43 : decode cX4_takeFamily 43 = .ok (.aload_n 0, 1) := by decide +kernel
theorem dX4_takeFamily_44 : decode cX4_takeFamily 44 = .ok (.getfield 118, 3) := by decide +kernel
theorem dX4_takeFamily_47 : decode cX4_takeFamily 47 = .ok (.iload_n 1, 1) := by decide +kernel
theorem dX4_takeFamily_48 : decode cX4_takeFamily 48 = .ok (.if_icmp .ne 9, 3) := by decide +kernel
theorem dX4_takeFamily_51 : decode cX4_takeFamily 51 = .ok (.aload_n 0, 1) := by decide +kernel
theorem dX4_takeFamily_52 : decode cX4_takeFamily 52 = .ok (.iconst 3, 1) := by decide +kernel
theorem dX4_takeFamily_53 : decode cX4_takeFamily 53 = .ok (.invokevirtual 58, 3) := by decide +kernel
theorem dX4_takeFamily_56 : decode cX4_takeFamily 56 = .ok (.ireturn, 1) := by decide +kernel
theorem dX4_takeFamily_57 : decode cX4_takeFamily 57 = .ok (.aload_n 0, 1) := by decide +kernel
theorem dX4_takeFamily_58 : decode cX4_takeFamily 58 = .ok (.invokevirtual 48, 3) := by decide +kernel
theorem dX4_takeFamily_61 : decode cX4_takeFamily 61 = .ok (.iconst 1, 1) := by decide +kernel
theorem dX4_takeFamily_62 : decode cX4_takeFamily 62 = .ok (.ireturn, 1) := by decide +kernel
def f_X4_takeFamily : am_F := am_th (i_al 0) (am_th (i_gi 4 6) (am_th (i_ic (1)) (am_br (b_2 (fun x y => decide (¬ x = y))) (am_th (i_al 0) (am_th (i_ic (1)) (am_th (i_cv 4 1 d_X4_fail) (r_z)))) (am_th (i_al 0) (am_th (i_cv 4 0 d_X4_lineAtHand) (am_th (i_ic (-1)) (am_br (b_2 (fun x y => decide (x = y))) (am_th (i_al 0) (am_th (i_al 0) (am_th (i_cv 4 0 d_X4_familyAtHand) (am_th (i_pi 4 11) (am_th (i_al 0) (am_th (i_gi 4 11) (am_br (b_1 (fun x => decide (0 ≤ x))) (am_th (i_al 0) (am_th (i_gi 4 11) (am_th (i_il 1) (am_br (b_2 (fun x y => decide (¬ x = y))) (am_th (i_al 0) (am_th (i_cv 4 0 d_X4_readToken) (am_th (i_ic (1)) (r_z)))) (am_th (i_al 0) (am_th (i_ic (3)) (am_th (i_cv 4 1 d_X4_fail) (r_z)))))))) (am_th (i_al 0) (am_th (i_ic (2)) (am_th (i_cv 4 1 d_X4_fail) (r_z))))))))))) (am_th (i_al 0) (am_th (i_ic (1)) (am_th (i_cv 4 1 d_X4_fail) (r_z)))))))))))
def d_X4_takeFamily : am_D := am_den 2 f_X4_takeFamily
set_option maxHeartbeats 4000000 in
set_option maxRecDepth 100000 in
theorem b_X4_takeFamily : am_Body yX4_takeFamily cX4_takeFamily 2 (some .boolean) 6 127 f_X4_takeFamily := by
  intro p l e R s m args below meth c g n0 z0 r0 u0 C hr hn
  have C : am_Cx p l e R s m args below meth c g RX4 cX4_takeFamily 2 n0 z0 (am_len u0) (am_wt u0) 6 127 := C
  unfold f_X4_takeFamily
  exact (so_th (so_aload_n C dX4_takeFamily_0 rfl) (so_th (so_geti C fl_RX4_55 (by decide) dX4_takeFamily_1) (so_th (so_iconst C dX4_takeFamily_4 (by decide)) (so_br (so_icmp_ne C dX4_takeFamily_5 (by decide)) (so_th (so_aload_n C dX4_takeFamily_16 rfl) (so_th (so_iconst C dX4_takeFamily_17 (by decide)) (so_th (so_cv C m_X4_fail rfl k_175 k_177 k_176 k_178 k_150 ⟨by decide, by decide, by decide +kernel⟩ (by decide) dX4_takeFamily_18) (so_rz C hr dX4_takeFamily_21)))) (so_th (so_aload_n C dX4_takeFamily_8 rfl) (so_th (so_cv C m_X4_lineAtHand rfl k_187 k_189 k_188 k_190 k_150 ⟨by decide, by decide, by decide +kernel⟩ (by decide) dX4_takeFamily_9) (so_th (so_iconst C dX4_takeFamily_12 (by decide)) (so_br (so_icmp_eq C dX4_takeFamily_13 (by decide)) (so_th (so_aload_n C dX4_takeFamily_22 rfl) (so_th (so_aload_n C dX4_takeFamily_23 rfl) (so_th (so_cv C m_X4_familyAtHand rfl k_191 k_193 k_192 k_194 k_150 ⟨by decide, by decide, by decide +kernel⟩ (by decide) dX4_takeFamily_24) (so_th (so_puti C fl_RX4_118 fp_4 (Or.inl rfl) dX4_takeFamily_27) (so_th (so_aload_n C dX4_takeFamily_30 rfl) (so_th (so_geti C fl_RX4_118 (by decide) dX4_takeFamily_31) (so_br (so_if_ge C dX4_takeFamily_34 (by decide)) (so_th (so_aload_n C dX4_takeFamily_43 rfl) (so_th (so_geti C fl_RX4_118 (by decide) dX4_takeFamily_44) (so_th (so_iload_n C dX4_takeFamily_47 rfl) (so_br (so_icmp_ne C dX4_takeFamily_48 (by decide)) (so_th (so_aload_n C dX4_takeFamily_57 rfl) (so_th (so_cv C m_X4_readToken rfl k_171 k_173 k_172 k_174 k_150 ⟨by decide, by decide, by decide +kernel⟩ (by decide) dX4_takeFamily_58) (so_th (so_iconst C dX4_takeFamily_61 (by decide)) (so_rz C hr dX4_takeFamily_62)))) (so_th (so_aload_n C dX4_takeFamily_51 rfl) (so_th (so_iconst C dX4_takeFamily_52 (by decide)) (so_th (so_cv C m_X4_fail rfl k_175 k_177 k_176 k_178 k_150 ⟨by decide, by decide, by decide +kernel⟩ (by decide) dX4_takeFamily_53) (so_rz C hr dX4_takeFamily_56)))))))) (so_th (so_aload_n C dX4_takeFamily_37 rfl) (so_th (so_iconst C dX4_takeFamily_38 (by decide)) (so_th (so_cv C m_X4_fail rfl k_175 k_177 k_176 k_178 k_150 ⟨by decide, by decide, by decide +kernel⟩ (by decide) dX4_takeFamily_39) (so_rz C hr dX4_takeFamily_42))))))))))) (so_th (so_aload_n C dX4_takeFamily_16 rfl) (so_th (so_iconst C dX4_takeFamily_17 (by decide)) (so_th (so_cv C m_X4_fail rfl k_175 k_177 k_176 k_178 k_150 ⟨by decide, by decide, by decide +kernel⟩ (by decide) dX4_takeFamily_18) (so_rz C hr dX4_takeFamily_21))))))))))))
theorem m_X4_takeFamily : am_M yX4_takeFamily cX4_takeFamily 2 (some .boolean) 6 127 d_X4_takeFamily := am_M_of (by decide +kernel) b_X4_takeFamily
theorem dX4_takeQuarrelLine_0 : decode cX4_takeQuarrelLine 0 = .ok (.aload_n 0, 1) := by decide +kernel
theorem dX4_takeQuarrelLine_1 : decode cX4_takeQuarrelLine 1 = .ok (.getfield 26, 3) := by decide +kernel
theorem dX4_takeQuarrelLine_4 : decode cX4_takeQuarrelLine 4 = .ok (.getfield 62, 3) := by decide +kernel
theorem dX4_takeQuarrelLine_7 : decode cX4_takeQuarrelLine 7 = .ok (.istore_n 1, 1) := by decide +kernel
theorem dX4_takeQuarrelLine_8 : decode cX4_takeQuarrelLine 8 = .ok (.aload_n 0, 1) := by decide +kernel
theorem dX4_takeQuarrelLine_9 : decode cX4_takeQuarrelLine 9 = .ok (.aload_n 0, 1) := by decide +kernel
theorem dX4_takeQuarrelLine_10 : decode cX4_takeQuarrelLine 10 = .ok (.getfield 15, 3) := by decide +kernel
theorem dX4_takeQuarrelLine_13 : decode cX4_takeQuarrelLine 13 = .ok (.iload_n 1, 1) := by decide +kernel
theorem dX4_takeQuarrelLine_14 : decode cX4_takeQuarrelLine 14 = .ok (.invokevirtual 192, 3) := by decide +kernel
theorem dX4_takeQuarrelLine_17 : decode cX4_takeQuarrelLine 17 = .ok (.ifCond .eq 10, 3) := by decide +kernel
theorem dX4_takeQuarrelLine_20 : decode cX4_takeQuarrelLine 20 = .ok (.aload_n 0, 1) := by decide +kernel
theorem dX4_takeQuarrelLine_21 : decode cX4_takeQuarrelLine 21 = .ok (.invokevirtual 200, 3) := by decide +kernel
theorem dX4_takeQuarrelLine_24 : decode cX4_takeQuarrelLine 24 = .ok (.ifCond .ne 5, 3) := by decide +kernel
theorem dX4_takeQuarrelLine_27 : decode cX4_takeQuarrelLine 27 = .ok (.iconst 0, 1) := by decide +kernel
theorem dX4_takeQuarrelLine_28 : decode cX4_takeQuarrelLine 28 = .ok (.ireturn, 1) := by decide +kernel
theorem dX4_takeQuarrelLine_29 : decode cX4_takeQuarrelLine 29 = .ok (.aload_n 0, 1) := by decide +kernel
theorem dX4_takeQuarrelLine_30 : decode cX4_takeQuarrelLine 30 = .ok (.getfield 26, 3) := by decide +kernel
theorem dX4_takeQuarrelLine_33 : decode cX4_takeQuarrelLine 33 = .ok (.getfield 203, 3) := by decide +kernel
theorem dX4_takeQuarrelLine_36 : decode cX4_takeQuarrelLine 36 = .ok (.iload_n 1, 1) := by decide +kernel
theorem dX4_takeQuarrelLine_37 : decode cX4_takeQuarrelLine 37 = .ok (.aload_n 0, 1) := by decide +kernel
theorem dX4_takeQuarrelLine_38 : decode cX4_takeQuarrelLine 38 = .ok (.getfield 118, 3) := by decide +kernel
theorem dX4_takeQuarrelLine_41 : decode cX4_takeQuarrelLine 41 = .ok (.iastore, 1) := by decide +kernel
theorem dX4_takeQuarrelLine_42 : decode cX4_takeQuarrelLine 42 = .ok (.aload_n 0, 1) := by decide +kernel
theorem dX4_takeQuarrelLine_43 : decode cX4_takeQuarrelLine 43 = .ok (.ldc 206, 2) := by decide +kernel
theorem dX4_takeQuarrelLine_45 : decode cX4_takeQuarrelLine 45 = .ok (.invokevirtual 174, 3) := by decide +kernel
theorem dX4_takeQuarrelLine_48 : decode cX4_takeQuarrelLine 48 = .ok (.ifCond .eq 11, 3) := by decide +kernel
theorem dX4_takeQuarrelLine_51 : decode cX4_takeQuarrelLine 51 = .ok (.aload_n 0, 1) := by decide +kernel
theorem dX4_takeQuarrelLine_52 : decode cX4_takeQuarrelLine 52 = .ok (.iconst (-1), 1) := by decide +kernel
theorem dX4_takeQuarrelLine_53 : decode cX4_takeQuarrelLine 53 = .ok (.invokevirtual 208, 3) := by decide +kernel
theorem dX4_takeQuarrelLine_56 : decode cX4_takeQuarrelLine 56 = .ok (.ifCond .ne 5, 3) := by decide +kernel
theorem dX4_takeQuarrelLine_59 : decode cX4_takeQuarrelLine 59 = .ok (.iconst 0, 1) := by decide +kernel
theorem dX4_takeQuarrelLine_60 : decode cX4_takeQuarrelLine 60 = .ok (.ireturn, 1) := by decide +kernel
theorem dX4_takeQuarrelLine_61 : decode cX4_takeQuarrelLine 61 = .ok (.aload_n 0, 1) := by decide +kernel
theorem dX4_takeQuarrelLine_62 : decode cX4_takeQuarrelLine 62 = .ok (.getfield 118, 3) := by decide +kernel
theorem dX4_takeQuarrelLine_65 : decode cX4_takeQuarrelLine 65 = .ok (.istore_n 2, 1) := by decide +kernel
theorem dX4_takeQuarrelLine_66 : decode cX4_takeQuarrelLine 66 = .ok (.aload_n 0, 1) := by decide +kernel
theorem dX4_takeQuarrelLine_67 : decode cX4_takeQuarrelLine 67 = .ok (.iload_n 2, 1) := by decide +kernel
theorem dX4_takeQuarrelLine_68 : decode cX4_takeQuarrelLine 68 = .ok (.invokevirtual 208, 3) := by decide +kernel
theorem dX4_takeQuarrelLine_71 : decode cX4_takeQuarrelLine 71 = .ok (.ifCond .ne 5, 3) := by decide +kernel
theorem dX4_takeQuarrelLine_74 : decode cX4_takeQuarrelLine 74 = .ok (.iconst 0, 1) := by decide +kernel
theorem dX4_takeQuarrelLine_75 : decode cX4_takeQuarrelLine 75 = .ok (.ireturn, 1) := by decide +kernel
theorem dX4_takeQuarrelLine_76 : decode cX4_takeQuarrelLine 76 = .ok (.aload_n 0, 1) := by decide +kernel
theorem dX4_takeQuarrelLine_77 : decode cX4_takeQuarrelLine 77 = .ok (.getfield 26, 3) := by decide +kernel
theorem dX4_takeQuarrelLine_80 : decode cX4_takeQuarrelLine 80 = .ok (.getfield 211, 3) := by decide +kernel
theorem dX4_takeQuarrelLine_83 : decode cX4_takeQuarrelLine 83 = .ok (.iload_n 1, 1) := by decide +kernel
theorem dX4_takeQuarrelLine_84 : decode cX4_takeQuarrelLine 84 = .ok (.iconst 1, 1) := by decide +kernel
theorem dX4_takeQuarrelLine_85 : decode cX4_takeQuarrelLine 85 = .ok (.iload_n 2, 1) := by decide +kernel
theorem dX4_takeQuarrelLine_86 : decode cX4_takeQuarrelLine 86 = .ok (.ishl, 1) := by decide +kernel
theorem dX4_takeQuarrelLine_87 : decode cX4_takeQuarrelLine 87 = .ok (.iconst 1, 1) := by decide +kernel
theorem dX4_takeQuarrelLine_88 : decode cX4_takeQuarrelLine 88 = .ok (.aload_n 0, 1) := by decide +kernel
theorem dX4_takeQuarrelLine_89 : decode cX4_takeQuarrelLine 89 = .ok (.getfield 118, 3) := by decide +kernel
theorem dX4_takeQuarrelLine_92 : decode cX4_takeQuarrelLine 92 = .ok (.ishl, 1) := by decide +kernel
theorem dX4_takeQuarrelLine_93 : decode cX4_takeQuarrelLine 93 = .ok (.ior, 1) := by decide +kernel
theorem dX4_takeQuarrelLine_94 : decode cX4_takeQuarrelLine 94 = .ok (.iastore, 1) := by decide +kernel
theorem dX4_takeQuarrelLine_95 : decode cX4_takeQuarrelLine 95 = .ok (.aload_n 0, 1) := by decide +kernel
theorem dX4_takeQuarrelLine_96 : decode cX4_takeQuarrelLine 96 = .ok (.ldc 214, 2) := by decide +kernel
theorem dX4_takeQuarrelLine_98 : decode cX4_takeQuarrelLine 98 = .ok (.invokevirtual 174, 3) := by decide +kernel
theorem dX4_takeQuarrelLine_101 : decode cX4_takeQuarrelLine 101 = .ok (.ifCond .eq 13, 3) := by decide +kernel
theorem dX4_takeQuarrelLine_104 : decode cX4_takeQuarrelLine 104 = .ok (.aload_n 0, 1) := by decide +kernel
theorem dX4_takeQuarrelLine_105 : decode cX4_takeQuarrelLine 105 = .ok (.iconst 0, 1) := by decide +kernel
theorem dX4_takeQuarrelLine_106 : decode cX4_takeQuarrelLine 106 = .ok (.bipush 30, 2) := by decide +kernel
theorem dX4_takeQuarrelLine_108 : decode cX4_takeQuarrelLine 108 = .ok (.invokevirtual 177, 3) := by decide +kernel
theorem dX4_takeQuarrelLine_111 : decode cX4_takeQuarrelLine 111 = .ok (.ifCond .ne 5, 3) := by decide +kernel
theorem dX4_takeQuarrelLine_114 : decode cX4_takeQuarrelLine 114 = .ok (.iconst 0, 1) := by decide +kernel
theorem dX4_takeQuarrelLine_115 : decode cX4_takeQuarrelLine 115 = .ok (.ireturn, 1) := by decide +kernel
theorem dX4_takeQuarrelLine_116 : decode cX4_takeQuarrelLine 116 = .ok (.aload_n 0, 1) := by decide +kernel
theorem dX4_takeQuarrelLine_117 : decode cX4_takeQuarrelLine 117 = .ok (.getfield 26, 3) := by decide +kernel
theorem dX4_takeQuarrelLine_120 : decode cX4_takeQuarrelLine 120 = .ok (.getfield 216, 3) := by decide +kernel
theorem dX4_takeQuarrelLine_123 : decode cX4_takeQuarrelLine 123 = .ok (.iload_n 1, 1) := by decide +kernel
theorem dX4_takeQuarrelLine_124 : decode cX4_takeQuarrelLine 124 = .ok (.aload_n 0, 1) := by decide +kernel
theorem dX4_takeQuarrelLine_125 : decode cX4_takeQuarrelLine 125 = .ok (.getfield 118, 3) := by decide +kernel
theorem dX4_takeQuarrelLine_128 : decode cX4_takeQuarrelLine 128 = .ok (.iastore, 1) := by decide +kernel
theorem dX4_takeQuarrelLine_129 : decode cX4_takeQuarrelLine 129 = .ok (.aload_n 0, 1) := by decide +kernel
theorem dX4_takeQuarrelLine_130 : decode cX4_takeQuarrelLine 130 = .ok (.getfield 26, 3) := by decide +kernel
theorem dX4_takeQuarrelLine_133 : decode cX4_takeQuarrelLine 133 = .ok (.dup, 1) := by decide +kernel
theorem dX4_takeQuarrelLine_134 : decode cX4_takeQuarrelLine 134 = .ok (.getfield 62, 3) := by decide +kernel
theorem dX4_takeQuarrelLine_137 : decode cX4_takeQuarrelLine 137 = .ok (.iconst 1, 1) := by decide +kernel
theorem dX4_takeQuarrelLine_138 : decode cX4_takeQuarrelLine 138 = .ok (.iadd, 1) := by decide +kernel
theorem dX4_takeQuarrelLine_139 : decode cX4_takeQuarrelLine 139 = .ok (.putfield 62, 3) := by decide +kernel
theorem dX4_takeQuarrelLine_142 : decode cX4_takeQuarrelLine 142 = .ok (.iconst 1, 1) := by decide +kernel
theorem dX4_takeQuarrelLine_143 : decode cX4_takeQuarrelLine 143 = .ok (.ireturn, 1) := by decide +kernel
def f_X4_takeQuarrelLine : am_F := am_th (i_al 0) (am_th (i_gr 4 4) (am_th (i_gi 5 3) (am_th (i_is 1) (am_th (i_al 0) (am_th (i_al 0) (am_th (i_gr 4 13) (am_th (i_il 1) (am_th (i_cv 4 2 d_X4_takeNewName) (am_br (b_1 (fun x => decide (x = 0))) (am_th (i_ic (0)) (r_z)) (am_th (i_al 0) (am_th (i_cv 4 0 d_X4_takeKind) (am_br (b_1 (fun x => decide (¬ x = 0))) (am_th (i_al 0) (am_th (i_gr 4 4) (am_th (i_gr 5 10) (am_th (i_il 1) (am_th (i_al 0) (am_th (i_gi 4 11) (am_th (i_iS) (am_th (i_al 0) (am_th (i_sg 15) (am_th (i_cv 4 1 d_X4_takeWord) (am_br (b_1 (fun x => decide (x = 0))) (am_th (i_ic (0)) (r_z)) (am_th (i_al 0) (am_th (i_ic (-1)) (am_th (i_cv 4 1 d_X4_takeFamily) (am_br (b_1 (fun x => decide (¬ x = 0))) (am_th (i_al 0) (am_th (i_gi 4 11) (am_th (i_is 2) (am_th (i_al 0) (am_th (i_il 2) (am_th (i_cv 4 1 d_X4_takeFamily) (am_br (b_1 (fun x => decide (¬ x = 0))) (am_th (i_al 0) (am_th (i_gr 4 4) (am_th (i_gr 5 11) (am_th (i_il 1) (am_th (i_ic (1)) (am_th (i_il 2) (am_th (i_2 (fun x y => x <<< (y &&& 31))) (am_th (i_ic (1)) (am_th (i_al 0) (am_th (i_gi 4 11) (am_th (i_2 (fun x y => x <<< (y &&& 31))) (am_th (i_2 (fun x y => x ||| y)) (am_th (i_iS) (am_th (i_al 0) (am_th (i_sg 16) (am_th (i_cv 4 1 d_X4_takeWord) (am_br (b_1 (fun x => decide (x = 0))) (am_th (i_ic (0)) (r_z)) (am_th (i_al 0) (am_th (i_ic (0)) (am_th (i_ic (30)) (am_th (i_cv 4 2 d_X4_takeWhole) (am_br (b_1 (fun x => decide (¬ x = 0))) (am_th (i_al 0) (am_th (i_gr 4 4) (am_th (i_gr 5 12) (am_th (i_il 1) (am_th (i_al 0) (am_th (i_gi 4 11) (am_th (i_iS) (am_th (i_al 0) (am_th (i_gr 4 4) (am_th (i_dup) (am_th (i_gi 5 3) (am_th (i_ic (1)) (am_th (i_2 (fun x y => x + y)) (am_th (i_pi 5 3) (am_th (i_ic (1)) (r_z)))))))))))))))) (am_th (i_ic (0)) (r_z)))))))))))))))))))))))) (am_th (i_ic (0)) (r_z))))))))) (am_th (i_ic (0)) (r_z))))))))))))))))) (am_th (i_ic (0)) (r_z))))))))))))))
def d_X4_takeQuarrelLine : am_D := am_den 3 f_X4_takeQuarrelLine
set_option maxHeartbeats 4000000 in
set_option maxRecDepth 100000 in
theorem b_X4_takeQuarrelLine : am_Body yX4_takeQuarrelLine cX4_takeQuarrelLine 3 (some .boolean) 7 149 f_X4_takeQuarrelLine := by
  intro p l e R s m args below meth c g n0 z0 r0 u0 C hr hn
  have C : am_Cx p l e R s m args below meth c g RX4 cX4_takeQuarrelLine 3 n0 z0 (am_len u0) (am_wt u0) 7 149 := C
  unfold f_X4_takeQuarrelLine
  exact (so_th (so_aload_n C dX4_takeQuarrelLine_0 rfl) (so_th (so_getr C fl_RX4_26 dX4_takeQuarrelLine_1) (so_th (so_geti C fl_RX4_62 (by decide) dX4_takeQuarrelLine_4) (so_th (so_istore_n C dX4_takeQuarrelLine_7 rfl (by decide)) (so_th (so_aload_n C dX4_takeQuarrelLine_8 rfl) (so_th (so_aload_n C dX4_takeQuarrelLine_9 rfl) (so_th (so_getr C fl_RX4_15 dX4_takeQuarrelLine_10) (so_th (so_iload_n C dX4_takeQuarrelLine_13 rfl) (so_th (so_cv C m_X4_takeNewName rfl k_199 k_201 k_200 k_202 k_150 ⟨by decide, by decide, by decide +kernel⟩ (by decide) dX4_takeQuarrelLine_14) (so_br (so_if_eq C dX4_takeQuarrelLine_17 (by decide)) (so_th (so_iconst C dX4_takeQuarrelLine_27 (by decide)) (so_rz C hr dX4_takeQuarrelLine_28)) (so_th (so_aload_n C dX4_takeQuarrelLine_20 rfl) (so_th (so_cv C m_X4_takeKind rfl k_207 k_209 k_208 k_210 k_150 ⟨by decide, by decide, by decide +kernel⟩ (by decide) dX4_takeQuarrelLine_21) (so_br (so_if_ne C dX4_takeQuarrelLine_24 (by decide)) (so_th (so_aload_n C dX4_takeQuarrelLine_29 rfl) (so_th (so_getr C fl_RX4_26 dX4_takeQuarrelLine_30) (so_th (so_getr C fl_RX4_203 dX4_takeQuarrelLine_33) (so_th (so_iload_n C dX4_takeQuarrelLine_36 rfl) (so_th (so_aload_n C dX4_takeQuarrelLine_37 rfl) (so_th (so_geti C fl_RX4_118 (by decide) dX4_takeQuarrelLine_38) (so_th (so_iast C dX4_takeQuarrelLine_41) (so_th (so_aload_n C dX4_takeQuarrelLine_42 rfl) (so_th (so_ldcS C dX4_takeQuarrelLine_43 (List.mem_of_getElem? (i := 15) rfl)) (so_th (so_cv C m_X4_takeWord rfl k_179 k_181 k_180 k_182 k_150 ⟨by decide, by decide, by decide +kernel⟩ (by decide) dX4_takeQuarrelLine_45) (so_br (so_if_eq C dX4_takeQuarrelLine_48 (by decide)) (so_th (so_iconst C dX4_takeQuarrelLine_59 (by decide)) (so_rz C hr dX4_takeQuarrelLine_60)) (so_th (so_aload_n C dX4_takeQuarrelLine_51 rfl) (so_th (so_iconst C dX4_takeQuarrelLine_52 (by decide)) (so_th (so_cv C m_X4_takeFamily rfl k_211 k_213 k_212 k_214 k_150 ⟨by decide, by decide, by decide +kernel⟩ (by decide) dX4_takeQuarrelLine_53) (so_br (so_if_ne C dX4_takeQuarrelLine_56 (by decide)) (so_th (so_aload_n C dX4_takeQuarrelLine_61 rfl) (so_th (so_geti C fl_RX4_118 (by decide) dX4_takeQuarrelLine_62) (so_th (so_istore_n C dX4_takeQuarrelLine_65 rfl (by decide)) (so_th (so_aload_n C dX4_takeQuarrelLine_66 rfl) (so_th (so_iload_n C dX4_takeQuarrelLine_67 rfl) (so_th (so_cv C m_X4_takeFamily rfl k_211 k_213 k_212 k_214 k_150 ⟨by decide, by decide, by decide +kernel⟩ (by decide) dX4_takeQuarrelLine_68) (so_br (so_if_ne C dX4_takeQuarrelLine_71 (by decide)) (so_th (so_aload_n C dX4_takeQuarrelLine_76 rfl) (so_th (so_getr C fl_RX4_26 dX4_takeQuarrelLine_77) (so_th (so_getr C fl_RX4_211 dX4_takeQuarrelLine_80) (so_th (so_iload_n C dX4_takeQuarrelLine_83 rfl) (so_th (so_iconst C dX4_takeQuarrelLine_84 (by decide)) (so_th (so_iload_n C dX4_takeQuarrelLine_85 rfl) (so_th (so_ishl C dX4_takeQuarrelLine_86) (so_th (so_iconst C dX4_takeQuarrelLine_87 (by decide)) (so_th (so_aload_n C dX4_takeQuarrelLine_88 rfl) (so_th (so_geti C fl_RX4_118 (by decide) dX4_takeQuarrelLine_89) (so_th (so_ishl C dX4_takeQuarrelLine_92) (so_th (so_ior C dX4_takeQuarrelLine_93) (so_th (so_iast C dX4_takeQuarrelLine_94) (so_th (so_aload_n C dX4_takeQuarrelLine_95 rfl) (so_th (so_ldcS C dX4_takeQuarrelLine_96 (List.mem_of_getElem? (i := 16) rfl)) (so_th (so_cv C m_X4_takeWord rfl k_179 k_181 k_180 k_182 k_150 ⟨by decide, by decide, by decide +kernel⟩ (by decide) dX4_takeQuarrelLine_98) (so_br (so_if_eq C dX4_takeQuarrelLine_101 (by decide)) (so_th (so_iconst C dX4_takeQuarrelLine_114 (by decide)) (so_rz C hr dX4_takeQuarrelLine_115)) (so_th (so_aload_n C dX4_takeQuarrelLine_104 rfl) (so_th (so_iconst C dX4_takeQuarrelLine_105 (by decide)) (so_th (so_bipush C dX4_takeQuarrelLine_106 (by decide)) (so_th (so_cv C m_X4_takeWhole rfl k_183 k_185 k_184 k_186 k_150 ⟨by decide, by decide, by decide +kernel⟩ (by decide) dX4_takeQuarrelLine_108) (so_br (so_if_ne C dX4_takeQuarrelLine_111 (by decide)) (so_th (so_aload_n C dX4_takeQuarrelLine_116 rfl) (so_th (so_getr C fl_RX4_26 dX4_takeQuarrelLine_117) (so_th (so_getr C fl_RX4_216 dX4_takeQuarrelLine_120) (so_th (so_iload_n C dX4_takeQuarrelLine_123 rfl) (so_th (so_aload_n C dX4_takeQuarrelLine_124 rfl) (so_th (so_geti C fl_RX4_118 (by decide) dX4_takeQuarrelLine_125) (so_th (so_iast C dX4_takeQuarrelLine_128) (so_th (so_aload_n C dX4_takeQuarrelLine_129 rfl) (so_th (so_getr C fl_RX4_26 dX4_takeQuarrelLine_130) (so_th (so_dup C dX4_takeQuarrelLine_133) (so_th (so_geti C fl_RX4_62 (by decide) dX4_takeQuarrelLine_134) (so_th (so_iconst C dX4_takeQuarrelLine_137 (by decide)) (so_th (so_iadd C dX4_takeQuarrelLine_138) (so_th (so_puti C fl_RX4_62 fp_5 (Or.inl rfl) dX4_takeQuarrelLine_139) (so_th (so_iconst C dX4_takeQuarrelLine_142 (by decide)) (so_rz C hr dX4_takeQuarrelLine_143)))))))))))))))) (so_th (so_iconst C dX4_takeQuarrelLine_114 (by decide)) (so_rz C hr dX4_takeQuarrelLine_115)))))))))))))))))))))))) (so_th (so_iconst C dX4_takeQuarrelLine_74 (by decide)) (so_rz C hr dX4_takeQuarrelLine_75))))))))) (so_th (so_iconst C dX4_takeQuarrelLine_59 (by decide)) (so_rz C hr dX4_takeQuarrelLine_60))))))))))))))))) (so_th (so_iconst C dX4_takeQuarrelLine_27 (by decide)) (so_rz C hr dX4_takeQuarrelLine_28)))))))))))))))
theorem m_X4_takeQuarrelLine : am_M yX4_takeQuarrelLine cX4_takeQuarrelLine 3 (some .boolean) 7 149 d_X4_takeQuarrelLine := am_M_of (by decide +kernel) b_X4_takeQuarrelLine
theorem dX4_takeLaw_0 : decode cX4_takeLaw 0 = .ok (.aload_n 0, 1) := by decide +kernel
theorem dX4_takeLaw_1 : decode cX4_takeLaw 1 = .ok (.invokevirtual 200, 3) := by decide +kernel
theorem dX4_takeLaw_4 : decode cX4_takeLaw 4 = .ok (.ifCond .ne 5, 3) := by decide +kernel
theorem dX4_takeLaw_7 : decode cX4_takeLaw 7 = .ok (.iconst 0, 1) := by decide +kernel
theorem dX4_takeLaw_8 : decode cX4_takeLaw 8 = .ok (.ireturn, 1) := by decide +kernel
theorem dX4_takeLaw_9 : decode cX4_takeLaw 9 = .ok (.aload_n 0, 1) := by decide +kernel
theorem dX4_takeLaw_10 : decode cX4_takeLaw 10 = .ok (.getfield 118, 3) := by decide +kernel
theorem dX4_takeLaw_13 : decode cX4_takeLaw 13 = .ok (.istore_n 1, 1) := by decide +kernel
theorem dX4_takeLaw_14 : decode cX4_takeLaw 14 = .ok (.aload_n 0, 1) := by decide +kernel
theorem dX4_takeLaw_15 : decode cX4_takeLaw 15 = .ok (.ldc 218, 2) := by decide +kernel
theorem dX4_takeLaw_17 : decode cX4_takeLaw 17 = .ok (.invokevirtual 174, 3) := by decide +kernel
theorem dX4_takeLaw_20 : decode cX4_takeLaw 20 = .ok (.ifCond .ne 5, 3) := by decide +kernel
theorem dX4_takeLaw_23 : decode cX4_takeLaw 23 = .ok (.iconst 0, 1) := by decide +kernel
theorem dX4_takeLaw_24 : decode cX4_takeLaw 24 = .ok (.ireturn, 1) := by decide +kernel
theorem dX4_takeLaw_25 : decode cX4_takeLaw 25 = .ok (.aload_n 0, 1) := by decide +kernel
theorem dX4_takeLaw_26 : decode cX4_takeLaw 26 = .ok (.invokevirtual 121, 3) := by decide +kernel
theorem dX4_takeLaw_29 : decode cX4_takeLaw 29 = .ok (.istore_n 2, 1) := by decide +kernel
theorem dX4_takeLaw_30 : decode cX4_takeLaw 30 = .ok (.iload_n 2, 1) := by decide +kernel
theorem dX4_takeLaw_31 : decode cX4_takeLaw 31 = .ok (.ifCond .lt 25, 3) := by decide +kernel
theorem dX4_takeLaw_34 : decode cX4_takeLaw 34 = .ok (.aload_n 0, 1) := by decide +kernel
theorem dX4_takeLaw_35 : decode cX4_takeLaw 35 = .ok (.getfield 26, 3) := by decide +kernel
theorem dX4_takeLaw_38 : decode cX4_takeLaw 38 = .ok (.getfield 220, 3) := by decide +kernel
theorem dX4_takeLaw_41 : decode cX4_takeLaw 41 = .ok (.iload_n 1, 1) := by decide +kernel
theorem dX4_takeLaw_42 : decode cX4_takeLaw 42 = .ok (.iconst 4, 1) := by decide +kernel
theorem dX4_takeLaw_43 : decode cX4_takeLaw 43 = .ok (.imul, 1) := by decide +kernel
theorem dX4_takeLaw_44 : decode cX4_takeLaw 44 = .ok (.iload_n 2, 1) := by decide +kernel
theorem dX4_takeLaw_45 : decode cX4_takeLaw 45 = .ok (.iadd, 1) := by decide +kernel
theorem dX4_takeLaw_46 : decode cX4_takeLaw 46 = .ok (.iaload, 1) := by decide +kernel
theorem dX4_takeLaw_47 : decode cX4_takeLaw 47 = .ok (.ifCond .le 9, 3) := by decide +kernel
theorem dX4_takeLaw_50 : decode cX4_takeLaw 50 = .ok (.aload_n 0, 1) := by decide +kernel
theorem dX4_takeLaw_51 : decode cX4_takeLaw 51 = .ok (.iconst 3, 1) := by decide +kernel
theorem dX4_takeLaw_52 : decode cX4_takeLaw 52 = .ok (.invokevirtual 58, 3) := by decide +kernel
theorem dX4_takeLaw_55 : decode cX4_takeLaw 55 = .ok (.ireturn, 1) := by decide +kernel
theorem dX4_takeLaw_56 : decode cX4_takeLaw 56 = .ok (.aload_n 0, 1) := by decide +kernel
theorem dX4_takeLaw_57 : decode cX4_takeLaw 57 = .ok (.invokevirtual 200, 3) := by decide +kernel
theorem dX4_takeLaw_60 : decode cX4_takeLaw 60 = .ok (.ifCond .eq 22, 3) := by decide +kernel
theorem dX4_takeLaw_63 : decode cX4_takeLaw 63 = .ok (.aload_n 0, 1) := by decide +kernel
theorem dX4_takeLaw_64 : decode cX4_takeLaw 64 = .ok (.ldc 223, 2) := by decide +kernel
theorem dX4_takeLaw_66 : decode cX4_takeLaw 66 = .ok (.invokevirtual 174, 3) := by decide +kernel
theorem dX4_takeLaw_69 : decode cX4_takeLaw 69 = .ok (.ifCond .eq 13, 3) := by decide +kernel
theorem dX4_takeLaw_72 : decode cX4_takeLaw 72 = .ok (.aload_n 0, 1) := by decide +kernel
theorem dX4_takeLaw_73 : decode cX4_takeLaw 73 = .ok (.iconst 1, 1) := by decide +kernel
theorem dX4_takeLaw_74 : decode cX4_takeLaw 74 = .ok (.bipush 100, 2) := by decide +kernel
theorem dX4_takeLaw_76 : decode cX4_takeLaw 76 = .ok (.invokevirtual 177, 3) := by decide +kernel
theorem dX4_takeLaw_79 : decode cX4_takeLaw 79 = .ok (.ifCond .ne 5, 3) := by decide +kernel
theorem dX4_takeLaw_82 : decode cX4_takeLaw 82 = .ok (.iconst 0, 1) := by decide +kernel
theorem dX4_takeLaw_83 : decode cX4_takeLaw 83 = .ok (.ireturn, 1) := by decide +kernel
theorem dX4_takeLaw_84 : decode cX4_takeLaw 84 = .ok (.aload_n 0, 1) := by decide +kernel
theorem dX4_takeLaw_85 : decode cX4_takeLaw 85 = .ok (.getfield 26, 3) := by decide +kernel
theorem dX4_takeLaw_88 : decode cX4_takeLaw 88 = .ok (.getfield 220, 3) := by decide +kernel
theorem dX4_takeLaw_91 : decode cX4_takeLaw 91 = .ok (.iload_n 1, 1) := by decide +kernel
theorem dX4_takeLaw_92 : decode cX4_takeLaw 92 = .ok (.iconst 4, 1) := by decide +kernel
theorem dX4_takeLaw_93 : decode cX4_takeLaw 93 = .ok (.imul, 1) := by decide +kernel
theorem dX4_takeLaw_94 : decode cX4_takeLaw 94 = .ok (.iload_n 2, 1) := by decide +kernel
theorem dX4_takeLaw_95 : decode cX4_takeLaw 95 = .ok (.iadd, 1) := by decide +kernel
theorem dX4_takeLaw_96 : decode cX4_takeLaw 96 = .ok (.aload_n 0, 1) := by decide +kernel
theorem dX4_takeLaw_97 : decode cX4_takeLaw 97 = .ok (.getfield 118, 3) := by decide +kernel
theorem dX4_takeLaw_100 : decode cX4_takeLaw 100 = .ok (.iastore, 1) := by decide +kernel
theorem dX4_takeLaw_101 : decode cX4_takeLaw 101 = .ok (.aload_n 0, 1) := by decide +kernel
theorem dX4_takeLaw_102 : decode cX4_takeLaw 102 = .ok (.getfield 26, 3) := by decide +kernel
theorem dX4_takeLaw_105 : decode cX4_takeLaw 105 = .ok (.dup, 1) := by decide +kernel
theorem dX4_takeLaw_106 : decode cX4_takeLaw 106 = .ok (.getfield 163, 3) := by decide +kernel
theorem dX4_takeLaw_109 : decode cX4_takeLaw 109 = .ok (.iconst 1, 1) := by decide +kernel
theorem dX4_takeLaw_110 : decode cX4_takeLaw 110 = .ok (.iadd, 1) := by decide +kernel
theorem dX4_takeLaw_111 : decode cX4_takeLaw 111 = .ok (.putfield 163, 3) := by decide +kernel
theorem dX4_takeLaw_114 : decode cX4_takeLaw 114 = .ok (.iconst 1, 1) := by decide +kernel
theorem dX4_takeLaw_115 : decode cX4_takeLaw 115 = .ok (.ireturn, 1) := by decide +kernel
def f_X4_takeLaw : am_F := am_th (i_al 0) (am_th (i_cv 4 0 d_X4_takeKind) (am_br (b_1 (fun x => decide (¬ x = 0))) (am_th (i_al 0) (am_th (i_gi 4 11) (am_th (i_is 1) (am_th (i_al 0) (am_th (i_sg 17) (am_th (i_cv 4 1 d_X4_takeWord) (am_br (b_1 (fun x => decide (¬ x = 0))) (am_th (i_al 0) (am_th (i_cv 4 0 d_X4_kindAtHand) (am_th (i_is 2) (am_th (i_il 2) (am_br (b_1 (fun x => decide (x < 0))) (am_th (i_al 0) (am_th (i_cv 4 0 d_X4_takeKind) (am_br (b_1 (fun x => decide (x = 0))) (am_th (i_ic (0)) (r_z)) (am_th (i_al 0) (am_th (i_sg 18) (am_th (i_cv 4 1 d_X4_takeWord) (am_br (b_1 (fun x => decide (x = 0))) (am_th (i_ic (0)) (r_z)) (am_th (i_al 0) (am_th (i_ic (1)) (am_th (i_ic (100)) (am_th (i_cv 4 2 d_X4_takeWhole) (am_br (b_1 (fun x => decide (¬ x = 0))) (am_th (i_al 0) (am_th (i_gr 4 4) (am_th (i_gr 5 13) (am_th (i_il 1) (am_th (i_ic (4)) (am_th (i_2 (fun x y => x * y)) (am_th (i_il 2) (am_th (i_2 (fun x y => x + y)) (am_th (i_al 0) (am_th (i_gi 4 11) (am_th (i_iS) (am_th (i_al 0) (am_th (i_gr 4 4) (am_th (i_dup) (am_th (i_gi 5 4) (am_th (i_ic (1)) (am_th (i_2 (fun x y => x + y)) (am_th (i_pi 5 4) (am_th (i_ic (1)) (r_z)))))))))))))))))))) (am_th (i_ic (0)) (r_z)))))))))))))) (am_th (i_al 0) (am_th (i_gr 4 4) (am_th (i_gr 5 13) (am_th (i_il 1) (am_th (i_ic (4)) (am_th (i_2 (fun x y => x * y)) (am_th (i_il 2) (am_th (i_2 (fun x y => x + y)) (am_th (i_ia 0) (am_br (b_1 (fun x => decide (x ≤ 0))) (am_th (i_al 0) (am_th (i_cv 4 0 d_X4_takeKind) (am_br (b_1 (fun x => decide (x = 0))) (am_th (i_ic (0)) (r_z)) (am_th (i_al 0) (am_th (i_sg 18) (am_th (i_cv 4 1 d_X4_takeWord) (am_br (b_1 (fun x => decide (x = 0))) (am_th (i_ic (0)) (r_z)) (am_th (i_al 0) (am_th (i_ic (1)) (am_th (i_ic (100)) (am_th (i_cv 4 2 d_X4_takeWhole) (am_br (b_1 (fun x => decide (¬ x = 0))) (am_th (i_al 0) (am_th (i_gr 4 4) (am_th (i_gr 5 13) (am_th (i_il 1) (am_th (i_ic (4)) (am_th (i_2 (fun x y => x * y)) (am_th (i_il 2) (am_th (i_2 (fun x y => x + y)) (am_th (i_al 0) (am_th (i_gi 4 11) (am_th (i_iS) (am_th (i_al 0) (am_th (i_gr 4 4) (am_th (i_dup) (am_th (i_gi 5 4) (am_th (i_ic (1)) (am_th (i_2 (fun x y => x + y)) (am_th (i_pi 5 4) (am_th (i_ic (1)) (r_z)))))))))))))))))))) (am_th (i_ic (0)) (r_z)))))))))))))) (am_th (i_al 0) (am_th (i_ic (3)) (am_th (i_cv 4 1 d_X4_fail) (r_z))))))))))))))))))) (am_th (i_ic (0)) (r_z))))))))) (am_th (i_ic (0)) (r_z))))
def d_X4_takeLaw : am_D := am_den 3 f_X4_takeLaw
set_option maxHeartbeats 4000000 in
set_option maxRecDepth 100000 in
theorem b_X4_takeLaw : am_Body yX4_takeLaw cX4_takeLaw 3 (some .boolean) 7 147 f_X4_takeLaw := by
  intro p l e R s m args below meth c g n0 z0 r0 u0 C hr hn
  have C : am_Cx p l e R s m args below meth c g RX4 cX4_takeLaw 3 n0 z0 (am_len u0) (am_wt u0) 7 147 := C
  unfold f_X4_takeLaw
  exact (so_th (so_aload_n C dX4_takeLaw_0 rfl) (so_th (so_cv C m_X4_takeKind rfl k_207 k_209 k_208 k_210 k_150 ⟨by decide, by decide, by decide +kernel⟩ (by decide) dX4_takeLaw_1) (so_br (so_if_ne C dX4_takeLaw_4 (by decide)) (so_th (so_aload_n C dX4_takeLaw_9 rfl) (so_th (so_geti C fl_RX4_118 (by decide) dX4_takeLaw_10) (so_th (so_istore_n C dX4_takeLaw_13 rfl (by decide)) (so_th (so_aload_n C dX4_takeLaw_14 rfl) (so_th (so_ldcS C dX4_takeLaw_15 (List.mem_of_getElem? (i := 17) rfl)) (so_th (so_cv C m_X4_takeWord rfl k_179 k_181 k_180 k_182 k_150 ⟨by decide, by decide, by decide +kernel⟩ (by decide) dX4_takeLaw_17) (so_br (so_if_ne C dX4_takeLaw_20 (by decide)) (so_th (so_aload_n C dX4_takeLaw_25 rfl) (so_th (so_cv C m_X4_kindAtHand rfl k_203 k_205 k_204 k_206 k_150 ⟨by decide, by decide, by decide +kernel⟩ (by decide) dX4_takeLaw_26) (so_th (so_istore_n C dX4_takeLaw_29 rfl (by decide)) (so_th (so_iload_n C dX4_takeLaw_30 rfl) (so_br (so_if_lt C dX4_takeLaw_31 (by decide)) (so_th (so_aload_n C dX4_takeLaw_56 rfl) (so_th (so_cv C m_X4_takeKind rfl k_207 k_209 k_208 k_210 k_150 ⟨by decide, by decide, by decide +kernel⟩ (by decide) dX4_takeLaw_57) (so_br (so_if_eq C dX4_takeLaw_60 (by decide)) (so_th (so_iconst C dX4_takeLaw_82 (by decide)) (so_rz C hr dX4_takeLaw_83)) (so_th (so_aload_n C dX4_takeLaw_63 rfl) (so_th (so_ldcS C dX4_takeLaw_64 (List.mem_of_getElem? (i := 18) rfl)) (so_th (so_cv C m_X4_takeWord rfl k_179 k_181 k_180 k_182 k_150 ⟨by decide, by decide, by decide +kernel⟩ (by decide) dX4_takeLaw_66) (so_br (so_if_eq C dX4_takeLaw_69 (by decide)) (so_th (so_iconst C dX4_takeLaw_82 (by decide)) (so_rz C hr dX4_takeLaw_83)) (so_th (so_aload_n C dX4_takeLaw_72 rfl) (so_th (so_iconst C dX4_takeLaw_73 (by decide)) (so_th (so_bipush C dX4_takeLaw_74 (by decide)) (so_th (so_cv C m_X4_takeWhole rfl k_183 k_185 k_184 k_186 k_150 ⟨by decide, by decide, by decide +kernel⟩ (by decide) dX4_takeLaw_76) (so_br (so_if_ne C dX4_takeLaw_79 (by decide)) (so_th (so_aload_n C dX4_takeLaw_84 rfl) (so_th (so_getr C fl_RX4_26 dX4_takeLaw_85) (so_th (so_getr C fl_RX4_220 dX4_takeLaw_88) (so_th (so_iload_n C dX4_takeLaw_91 rfl) (so_th (so_iconst C dX4_takeLaw_92 (by decide)) (so_th (so_imul C dX4_takeLaw_93) (so_th (so_iload_n C dX4_takeLaw_94 rfl) (so_th (so_iadd C dX4_takeLaw_95) (so_th (so_aload_n C dX4_takeLaw_96 rfl) (so_th (so_geti C fl_RX4_118 (by decide) dX4_takeLaw_97) (so_th (so_iast C dX4_takeLaw_100) (so_th (so_aload_n C dX4_takeLaw_101 rfl) (so_th (so_getr C fl_RX4_26 dX4_takeLaw_102) (so_th (so_dup C dX4_takeLaw_105) (so_th (so_geti C fl_RX4_163 (by decide) dX4_takeLaw_106) (so_th (so_iconst C dX4_takeLaw_109 (by decide)) (so_th (so_iadd C dX4_takeLaw_110) (so_th (so_puti C fl_RX4_163 fp_5 (Or.inl rfl) dX4_takeLaw_111) (so_th (so_iconst C dX4_takeLaw_114 (by decide)) (so_rz C hr dX4_takeLaw_115)))))))))))))))))))) (so_th (so_iconst C dX4_takeLaw_82 (by decide)) (so_rz C hr dX4_takeLaw_83)))))))))))))) (so_th (so_aload_n C dX4_takeLaw_34 rfl) (so_th (so_getr C fl_RX4_26 dX4_takeLaw_35) (so_th (so_getr C fl_RX4_220 dX4_takeLaw_38) (so_th (so_iload_n C dX4_takeLaw_41 rfl) (so_th (so_iconst C dX4_takeLaw_42 (by decide)) (so_th (so_imul C dX4_takeLaw_43) (so_th (so_iload_n C dX4_takeLaw_44 rfl) (so_th (so_iadd C dX4_takeLaw_45) (so_th (so_iald C dX4_takeLaw_46) (so_br (so_if_le C dX4_takeLaw_47 (by decide)) (so_th (so_aload_n C dX4_takeLaw_56 rfl) (so_th (so_cv C m_X4_takeKind rfl k_207 k_209 k_208 k_210 k_150 ⟨by decide, by decide, by decide +kernel⟩ (by decide) dX4_takeLaw_57) (so_br (so_if_eq C dX4_takeLaw_60 (by decide)) (so_th (so_iconst C dX4_takeLaw_82 (by decide)) (so_rz C hr dX4_takeLaw_83)) (so_th (so_aload_n C dX4_takeLaw_63 rfl) (so_th (so_ldcS C dX4_takeLaw_64 (List.mem_of_getElem? (i := 18) rfl)) (so_th (so_cv C m_X4_takeWord rfl k_179 k_181 k_180 k_182 k_150 ⟨by decide, by decide, by decide +kernel⟩ (by decide) dX4_takeLaw_66) (so_br (so_if_eq C dX4_takeLaw_69 (by decide)) (so_th (so_iconst C dX4_takeLaw_82 (by decide)) (so_rz C hr dX4_takeLaw_83)) (so_th (so_aload_n C dX4_takeLaw_72 rfl) (so_th (so_iconst C dX4_takeLaw_73 (by decide)) (so_th (so_bipush C dX4_takeLaw_74 (by decide)) (so_th (so_cv C m_X4_takeWhole rfl k_183 k_185 k_184 k_186 k_150 ⟨by decide, by decide, by decide +kernel⟩ (by decide) dX4_takeLaw_76) (so_br (so_if_ne C dX4_takeLaw_79 (by decide)) (so_th (so_aload_n C dX4_takeLaw_84 rfl) (so_th (so_getr C fl_RX4_26 dX4_takeLaw_85) (so_th (so_getr C fl_RX4_220 dX4_takeLaw_88) (so_th (so_iload_n C dX4_takeLaw_91 rfl) (so_th (so_iconst C dX4_takeLaw_92 (by decide)) (so_th (so_imul C dX4_takeLaw_93) (so_th (so_iload_n C dX4_takeLaw_94 rfl) (so_th (so_iadd C dX4_takeLaw_95) (so_th (so_aload_n C dX4_takeLaw_96 rfl) (so_th (so_geti C fl_RX4_118 (by decide) dX4_takeLaw_97) (so_th (so_iast C dX4_takeLaw_100) (so_th (so_aload_n C dX4_takeLaw_101 rfl) (so_th (so_getr C fl_RX4_26 dX4_takeLaw_102) (so_th (so_dup C dX4_takeLaw_105) (so_th (so_geti C fl_RX4_163 (by decide) dX4_takeLaw_106) (so_th (so_iconst C dX4_takeLaw_109 (by decide)) (so_th (so_iadd C dX4_takeLaw_110) (so_th (so_puti C fl_RX4_163 fp_5 (Or.inl rfl) dX4_takeLaw_111) (so_th (so_iconst C dX4_takeLaw_114 (by decide)) (so_rz C hr dX4_takeLaw_115)))))))))))))))))))) (so_th (so_iconst C dX4_takeLaw_82 (by decide)) (so_rz C hr dX4_takeLaw_83)))))))))))))) (so_th (so_aload_n C dX4_takeLaw_50 rfl) (so_th (so_iconst C dX4_takeLaw_51 (by decide)) (so_th (so_cv C m_X4_fail rfl k_175 k_177 k_176 k_178 k_150 ⟨by decide, by decide, by decide +kernel⟩ (by decide) dX4_takeLaw_52) (so_rz C hr dX4_takeLaw_55))))))))))))))))))) (so_th (so_iconst C dX4_takeLaw_23 (by decide)) (so_rz C hr dX4_takeLaw_24))))))))) (so_th (so_iconst C dX4_takeLaw_7 (by decide)) (so_rz C hr dX4_takeLaw_8)))))
theorem m_X4_takeLaw : am_M yX4_takeLaw cX4_takeLaw 3 (some .boolean) 7 147 d_X4_takeLaw := am_M_of (by decide +kernel) b_X4_takeLaw
theorem dX4_takeQuarrel_0 : decode cX4_takeQuarrel 0 = .ok (.aload_n 0, 1) := by decide +kernel
theorem dX4_takeQuarrel_1 : decode cX4_takeQuarrel 1 = .ok (.getfield 55, 3) := by decide +kernel
theorem dX4_takeQuarrel_4 : decode cX4_takeQuarrel 4 = .ok (.iconst 1, 1) := by decide +kernel
theorem dX4_takeQuarrel_5 : decode cX4_takeQuarrel 5 = .ok (.if_icmp .ne 11, 3) := by decide +kernel
theorem dX4_takeQuarrel_8 : decode cX4_takeQuarrel 8 = .ok (.aload_n 0, 1) := by decide +kernel
theorem dX4_takeQuarrel_9 : decode cX4_takeQuarrel 9 = .ok (.invokevirtual 124, 3) := by decide +kernel
theorem dX4_takeQuarrel_12 : decode cX4_takeQuarrel 12 = .ok (.iconst (-1), 1) := by decide +kernel
theorem dX4_takeQuarrel_13 : decode cX4_takeQuarrel 13 = .ok (.if_icmp .eq 9, 3) := by decide +kernel
theorem dX4_takeQuarrel_16 : decode cX4_takeQuarrel 16 = .ok (.aload_n 0, 1) := by decide +kernel
theorem dX4_takeQuarrel_17 : decode cX4_takeQuarrel 17 = .ok (.iconst 1, 1) := by decide +kernel
theorem dX4_takeQuarrel_18 : decode cX4_takeQuarrel 18 = .ok (.invokevirtual 58, 3) := by decide +kernel
theorem dX4_takeQuarrel_21 : decode cX4_takeQuarrel 21 = .ok (.ireturn, 1) := by decide +kernel
theorem dX4_takeQuarrel_22 : decode cX4_takeQuarrel 22 = .ok (.aload_n 0, 1) := by decide +kernel
theorem dX4_takeQuarrel_23 : decode cX4_takeQuarrel 23 = .ok (.aload_n 0, 1) := by decide +kernel
theorem dX4_takeQuarrel_24 : decode cX4_takeQuarrel 24 = .ok (.invokevirtual 130, 3) := by decide +kernel
theorem dX4_takeQuarrel_27 : decode cX4_takeQuarrel 27 = .ok (.putfield 118, 3) := by decide +kernel
theorem dX4_takeQuarrel_30 : decode cX4_takeQuarrel 30 = .ok (.aload_n 0, 1) := by decide +kernel
theorem dX4_takeQuarrel_31 : decode cX4_takeQuarrel 31 = .ok (.getfield 118, 3) := by decide +kernel
theorem dX4_takeQuarrel_34 : decode cX4_takeQuarrel 34 = .ok (.ifCond .ge 9, 3) := by decide +kernel
theorem dX4_takeQuarrel_37 : decode cX4_takeQuarrel 37 = .ok (.aload_n 0, 1) := by decide +kernel
theorem dX4_takeQuarrel_38 : decode cX4_takeQuarrel 38 = .ok (.iconst 2, 1) := by decide +kernel
theorem dX4_takeQuarrel_39 : decode cX4_takeQuarrel 39 = .ok (.invokevirtual 58, 3) := by decide +kernel
theorem dX4_takeQuarrel_42 : decode cX4_takeQuarrel 42 = .ok (.ireturn, 1) := by decide +kernel
theorem dX4_takeQuarrel_43 : decode cX4_takeQuarrel 43 = .ok (.iload_n 1, 1) := by decide +kernel
theorem dX4_takeQuarrel_44 : decode cX4_takeQuarrel 44 = .ok (.ifCond .eq 23, 3) := by decide +kernel
theorem dX4_takeQuarrel_47 : decode cX4_takeQuarrel 47 = .ok (.aload_n 0, 1) := by decide +kernel
theorem dX4_takeQuarrel_48 : decode cX4_takeQuarrel 48 = .ok (.getfield 26, 3) := by decide +kernel
theorem dX4_takeQuarrel_51 : decode cX4_takeQuarrel 51 = .ok (.aload_n 0, 1) := by decide +kernel
theorem dX4_takeQuarrel_52 : decode cX4_takeQuarrel 52 = .ok (.getfield 118, 3) := by decide +kernel
theorem dX4_takeQuarrel_55 : decode cX4_takeQuarrel 55 = .ok (.invokevirtual 133, 3) := by decide +kernel
theorem dX4_takeQuarrel_58 : decode cX4_takeQuarrel 58 = .ok (.ifCond .eq 9, 3) := by decide +kernel
theorem dX4_takeQuarrel_61 : decode cX4_takeQuarrel 61 = .ok (.aload_n 0, 1) := by decide +kernel
theorem dX4_takeQuarrel_62 : decode cX4_takeQuarrel 62 = .ok (.iconst 3, 1) := by decide +kernel
theorem dX4_takeQuarrel_63 : decode cX4_takeQuarrel 63 = .ok (.invokevirtual 58, 3) := by decide +kernel
theorem dX4_takeQuarrel_66 : decode cX4_takeQuarrel 66 = .ok (.ireturn, 1) := by decide +kernel
theorem dX4_takeQuarrel_67 : decode cX4_takeQuarrel 67 = .ok (.aload_n 0, 1) := by decide +kernel
theorem dX4_takeQuarrel_68 : decode cX4_takeQuarrel 68 = .ok (.invokevirtual 48, 3) := by decide +kernel
theorem dX4_takeQuarrel_71 : decode cX4_takeQuarrel 71 = .ok (.iconst 1, 1) := by decide +kernel
theorem dX4_takeQuarrel_72 : decode cX4_takeQuarrel 72 = .ok (.ireturn, 1) := by decide +kernel
def f_X4_takeQuarrel : am_F := am_th (i_al 0) (am_th (i_gi 4 6) (am_th (i_ic (1)) (am_br (b_2 (fun x y => decide (¬ x = y))) (am_th (i_al 0) (am_th (i_ic (1)) (am_th (i_cv 4 1 d_X4_fail) (r_z)))) (am_th (i_al 0) (am_th (i_cv 4 0 d_X4_lineAtHand) (am_th (i_ic (-1)) (am_br (b_2 (fun x y => decide (x = y))) (am_th (i_al 0) (am_th (i_al 0) (am_th (i_cv 4 0 d_X4_quarrelAtHand) (am_th (i_pi 4 11) (am_th (i_al 0) (am_th (i_gi 4 11) (am_br (b_1 (fun x => decide (0 ≤ x))) (am_th (i_il 1) (am_br (b_1 (fun x => decide (x = 0))) (am_th (i_al 0) (am_th (i_cv 4 0 d_X4_readToken) (am_th (i_ic (1)) (r_z)))) (am_th (i_al 0) (am_th (i_gr 4 4) (am_th (i_al 0) (am_th (i_gi 4 11) (am_th (i_cv 5 1 d_X5_isPotted) (am_br (b_1 (fun x => decide (x = 0))) (am_th (i_al 0) (am_th (i_cv 4 0 d_X4_readToken) (am_th (i_ic (1)) (r_z)))) (am_th (i_al 0) (am_th (i_ic (3)) (am_th (i_cv 4 1 d_X4_fail) (r_z)))))))))))) (am_th (i_al 0) (am_th (i_ic (2)) (am_th (i_cv 4 1 d_X4_fail) (r_z))))))))))) (am_th (i_al 0) (am_th (i_ic (1)) (am_th (i_cv 4 1 d_X4_fail) (r_z)))))))))))
def d_X4_takeQuarrel : am_D := am_den 2 f_X4_takeQuarrel
set_option maxHeartbeats 4000000 in
set_option maxRecDepth 100000 in
theorem b_X4_takeQuarrel : am_Body yX4_takeQuarrel cX4_takeQuarrel 2 (some .boolean) 6 127 f_X4_takeQuarrel := by
  intro p l e R s m args below meth c g n0 z0 r0 u0 C hr hn
  have C : am_Cx p l e R s m args below meth c g RX4 cX4_takeQuarrel 2 n0 z0 (am_len u0) (am_wt u0) 6 127 := C
  unfold f_X4_takeQuarrel
  exact (so_th (so_aload_n C dX4_takeQuarrel_0 rfl) (so_th (so_geti C fl_RX4_55 (by decide) dX4_takeQuarrel_1) (so_th (so_iconst C dX4_takeQuarrel_4 (by decide)) (so_br (so_icmp_ne C dX4_takeQuarrel_5 (by decide)) (so_th (so_aload_n C dX4_takeQuarrel_16 rfl) (so_th (so_iconst C dX4_takeQuarrel_17 (by decide)) (so_th (so_cv C m_X4_fail rfl k_175 k_177 k_176 k_178 k_150 ⟨by decide, by decide, by decide +kernel⟩ (by decide) dX4_takeQuarrel_18) (so_rz C hr dX4_takeQuarrel_21)))) (so_th (so_aload_n C dX4_takeQuarrel_8 rfl) (so_th (so_cv C m_X4_lineAtHand rfl k_187 k_189 k_188 k_190 k_150 ⟨by decide, by decide, by decide +kernel⟩ (by decide) dX4_takeQuarrel_9) (so_th (so_iconst C dX4_takeQuarrel_12 (by decide)) (so_br (so_icmp_eq C dX4_takeQuarrel_13 (by decide)) (so_th (so_aload_n C dX4_takeQuarrel_22 rfl) (so_th (so_aload_n C dX4_takeQuarrel_23 rfl) (so_th (so_cv C m_X4_quarrelAtHand rfl k_195 k_197 k_196 k_198 k_150 ⟨by decide, by decide, by decide +kernel⟩ (by decide) dX4_takeQuarrel_24) (so_th (so_puti C fl_RX4_118 fp_4 (Or.inl rfl) dX4_takeQuarrel_27) (so_th (so_aload_n C dX4_takeQuarrel_30 rfl) (so_th (so_geti C fl_RX4_118 (by decide) dX4_takeQuarrel_31) (so_br (so_if_ge C dX4_takeQuarrel_34 (by decide)) (so_th (so_iload_n C dX4_takeQuarrel_43 rfl) (so_br (so_if_eq C dX4_takeQuarrel_44 (by decide)) (so_th (so_aload_n C dX4_takeQuarrel_67 rfl) (so_th (so_cv C m_X4_readToken rfl k_171 k_173 k_172 k_174 k_150 ⟨by decide, by decide, by decide +kernel⟩ (by decide) dX4_takeQuarrel_68) (so_th (so_iconst C dX4_takeQuarrel_71 (by decide)) (so_rz C hr dX4_takeQuarrel_72)))) (so_th (so_aload_n C dX4_takeQuarrel_47 rfl) (so_th (so_getr C fl_RX4_26 dX4_takeQuarrel_48) (so_th (so_aload_n C dX4_takeQuarrel_51 rfl) (so_th (so_geti C fl_RX4_118 (by decide) dX4_takeQuarrel_52) (so_th (so_cv C m_X5_isPotted rfl k_7 k_215 k_9 k_11 k_8 ⟨by decide, by decide, by decide +kernel⟩ (by decide) dX4_takeQuarrel_55) (so_br (so_if_eq C dX4_takeQuarrel_58 (by decide)) (so_th (so_aload_n C dX4_takeQuarrel_67 rfl) (so_th (so_cv C m_X4_readToken rfl k_171 k_173 k_172 k_174 k_150 ⟨by decide, by decide, by decide +kernel⟩ (by decide) dX4_takeQuarrel_68) (so_th (so_iconst C dX4_takeQuarrel_71 (by decide)) (so_rz C hr dX4_takeQuarrel_72)))) (so_th (so_aload_n C dX4_takeQuarrel_61 rfl) (so_th (so_iconst C dX4_takeQuarrel_62 (by decide)) (so_th (so_cv C m_X4_fail rfl k_175 k_177 k_176 k_178 k_150 ⟨by decide, by decide, by decide +kernel⟩ (by decide) dX4_takeQuarrel_63) (so_rz C hr dX4_takeQuarrel_66)))))))))))) (so_th (so_aload_n C dX4_takeQuarrel_37 rfl) (so_th (so_iconst C dX4_takeQuarrel_38 (by decide)) (so_th (so_cv C m_X4_fail rfl k_175 k_177 k_176 k_178 k_150 ⟨by decide, by decide, by decide +kernel⟩ (by decide) dX4_takeQuarrel_39) (so_rz C hr dX4_takeQuarrel_42))))))))))) (so_th (so_aload_n C dX4_takeQuarrel_16 rfl) (so_th (so_iconst C dX4_takeQuarrel_17 (by decide)) (so_th (so_cv C m_X4_fail rfl k_175 k_177 k_176 k_178 k_150 ⟨by decide, by decide, by decide +kernel⟩ (by decide) dX4_takeQuarrel_18) (so_rz C hr dX4_takeQuarrel_21))))))))))))
theorem m_X4_takeQuarrel : am_M yX4_takeQuarrel cX4_takeQuarrel 2 (some .boolean) 6 127 d_X4_takeQuarrel := am_M_of (by decide +kernel) b_X4_takeQuarrel
theorem dX4_takeDeed_0 : decode cX4_takeDeed 0 = .ok (.aload_n 0, 1) := by decide +kernel
theorem dX4_takeDeed_1 : decode cX4_takeDeed 1 = .ok (.iconst 0, 1) := by decide +kernel
theorem dX4_takeDeed_2 : decode cX4_takeDeed 2 = .ok (.invokevirtual 225, 3) := by decide +kernel
theorem dX4_takeDeed_5 : decode cX4_takeDeed 5 = .ok (.ifCond .ne 5, 3) := by decide +kernel
theorem dX4_takeDeed_8 : decode cX4_takeDeed 8 = .ok (.iconst 0, 1) := by decide +kernel
theorem dX4_takeDeed_9 : decode cX4_takeDeed 9 = .ok (.ireturn, 1) := by decide +kernel
theorem dX4_takeDeed_10 : decode cX4_takeDeed 10 = .ok (.aload_n 0, 1) := by decide +kernel
theorem dX4_takeDeed_11 : decode cX4_takeDeed 11 = .ok (.getfield 118, 3) := by decide +kernel
theorem dX4_takeDeed_14 : decode cX4_takeDeed 14 = .ok (.istore_n 1, 1) := by decide +kernel
theorem dX4_takeDeed_15 : decode cX4_takeDeed 15 = .ok (.aload_n 0, 1) := by decide +kernel
theorem dX4_takeDeed_16 : decode cX4_takeDeed 16 = .ok (.ldc 229, 2) := by decide +kernel
theorem dX4_takeDeed_18 : decode cX4_takeDeed 18 = .ok (.invokevirtual 174, 3) := by decide +kernel
theorem dX4_takeDeed_21 : decode cX4_takeDeed 21 = .ok (.ifCond .eq 13, 3) := by decide +kernel
theorem dX4_takeDeed_24 : decode cX4_takeDeed 24 = .ok (.aload_n 0, 1) := by decide +kernel
theorem dX4_takeDeed_25 : decode cX4_takeDeed 25 = .ok (.iconst 0, 1) := by decide +kernel
theorem dX4_takeDeed_26 : decode cX4_takeDeed 26 = .ok (.bipush 23, 2) := by decide +kernel
theorem dX4_takeDeed_28 : decode cX4_takeDeed 28 = .ok (.invokevirtual 177, 3) := by decide +kernel
theorem dX4_takeDeed_31 : decode cX4_takeDeed 31 = .ok (.ifCond .ne 5, 3) := by decide +kernel
theorem dX4_takeDeed_34 : decode cX4_takeDeed 34 = .ok (.iconst 0, 1) := by decide +kernel
theorem dX4_takeDeed_35 : decode cX4_takeDeed 35 = .ok (.ireturn, 1) := by decide +kernel
theorem dX4_takeDeed_36 : decode cX4_takeDeed 36 = .ok (.aload_n 0, 1) := by decide +kernel
theorem dX4_takeDeed_37 : decode cX4_takeDeed 37 = .ok (.getfield 118, 3) := by decide +kernel
theorem dX4_takeDeed_40 : decode cX4_takeDeed 40 = .ok (.istore_n 2, 1) := by decide +kernel
theorem dX4_takeDeed_41 : decode cX4_takeDeed 41 = .ok (.aload_n 0, 1) := by decide +kernel
theorem dX4_takeDeed_42 : decode cX4_takeDeed 42 = .ok (.ldc 231, 2) := by decide +kernel
theorem dX4_takeDeed_44 : decode cX4_takeDeed 44 = .ok (.invokevirtual 174, 3) := by decide +kernel
theorem dX4_takeDeed_47 : decode cX4_takeDeed 47 = .ok (.ifCond .eq 13, 3) := by decide +kernel
theorem dX4_takeDeed_50 : decode cX4_takeDeed 50 = .ok (.aload_n 0, 1) := by decide +kernel
theorem dX4_takeDeed_51 : decode cX4_takeDeed 51 = .ok (.iconst 1, 1) := by decide +kernel
theorem dX4_takeDeed_52 : decode cX4_takeDeed 52 = .ok (.bipush 9, 2) := by decide +kernel
theorem dX4_takeDeed_54 : decode cX4_takeDeed 54 = .ok (.invokevirtual 177, 3) := by decide +kernel
theorem dX4_takeDeed_57 : decode cX4_takeDeed 57 = .ok (.ifCond .ne 5, 3) := by decide +kernel
theorem dX4_takeDeed_60 : decode cX4_takeDeed 60 = .ok (.iconst 0, 1) := by decide +kernel
theorem dX4_takeDeed_61 : decode cX4_takeDeed 61 = .ok (.ireturn, 1) := by decide +kernel
theorem dX4_takeDeed_62 : decode cX4_takeDeed 62 = .ok (.aload_n 0, 1) := by decide +kernel
theorem dX4_takeDeed_63 : decode cX4_takeDeed 63 = .ok (.getfield 26, 3) := by decide +kernel
theorem dX4_takeDeed_66 : decode cX4_takeDeed 66 = .ok (.getfield 233, 3) := by decide +kernel
theorem dX4_takeDeed_69 : decode cX4_takeDeed 69 = .ok (.iload_n 1, 1) := by decide +kernel
theorem dX4_takeDeed_70 : decode cX4_takeDeed 70 = .ok (.bipush 24, 2) := by decide +kernel
theorem dX4_takeDeed_72 : decode cX4_takeDeed 72 = .ok (.imul, 1) := by decide +kernel
theorem dX4_takeDeed_73 : decode cX4_takeDeed 73 = .ok (.iload_n 2, 1) := by decide +kernel
theorem dX4_takeDeed_74 : decode cX4_takeDeed 74 = .ok (.iadd, 1) := by decide +kernel
theorem dX4_takeDeed_75 : decode cX4_takeDeed 75 = .ok (.dup2, 1) := by decide +kernel
theorem dX4_takeDeed_76 : decode cX4_takeDeed 76 = .ok (.iaload, 1) := by decide +kernel
theorem dX4_takeDeed_77 : decode cX4_takeDeed 77 = .ok (.aload_n 0, 1) := by decide +kernel
theorem dX4_takeDeed_78 : decode cX4_takeDeed 78 = .ok (.getfield 118, 3) := by decide +kernel
theorem dX4_takeDeed_81 : decode cX4_takeDeed 81 = .ok (.iadd, 1) := by decide +kernel
theorem dX4_takeDeed_82 : decode cX4_takeDeed 82 = .ok (.iastore, 1) := by decide +kernel
theorem dX4_takeDeed_83 : decode cX4_takeDeed 83 = .ok (.aload_n 0, 1) := by decide +kernel
theorem dX4_takeDeed_84 : decode cX4_takeDeed 84 = .ok (.getfield 26, 3) := by decide +kernel
theorem dX4_takeDeed_87 : decode cX4_takeDeed 87 = .ok (.dup, 1) := by decide +kernel
theorem dX4_takeDeed_88 : decode cX4_takeDeed 88 = .ok (.getfield 166, 3) := by decide +kernel
theorem dX4_takeDeed_91 : decode cX4_takeDeed 91 = .ok (.iconst 1, 1) := by decide +kernel
theorem dX4_takeDeed_92 : decode cX4_takeDeed 92 = .ok (.iadd, 1) := by decide +kernel
theorem dX4_takeDeed_93 : decode cX4_takeDeed 93 = .ok (.putfield 166, 3) := by decide +kernel
theorem dX4_takeDeed_96 : decode cX4_takeDeed 96 = .ok (.iconst 1, 1) := by decide +kernel
theorem dX4_takeDeed_97 : decode cX4_takeDeed 97 = .ok (.ireturn, 1) := by decide +kernel
def f_X4_takeDeed : am_F := am_th (i_al 0) (am_th (i_ic (0)) (am_th (i_cv 4 1 d_X4_takeQuarrel) (am_br (b_1 (fun x => decide (¬ x = 0))) (am_th (i_al 0) (am_th (i_gi 4 11) (am_th (i_is 1) (am_th (i_al 0) (am_th (i_sg 19) (am_th (i_cv 4 1 d_X4_takeWord) (am_br (b_1 (fun x => decide (x = 0))) (am_th (i_ic (0)) (r_z)) (am_th (i_al 0) (am_th (i_ic (0)) (am_th (i_ic (23)) (am_th (i_cv 4 2 d_X4_takeWhole) (am_br (b_1 (fun x => decide (¬ x = 0))) (am_th (i_al 0) (am_th (i_gi 4 11) (am_th (i_is 2) (am_th (i_al 0) (am_th (i_sg 20) (am_th (i_cv 4 1 d_X4_takeWord) (am_br (b_1 (fun x => decide (x = 0))) (am_th (i_ic (0)) (r_z)) (am_th (i_al 0) (am_th (i_ic (1)) (am_th (i_ic (9)) (am_th (i_cv 4 2 d_X4_takeWhole) (am_br (b_1 (fun x => decide (¬ x = 0))) (am_th (i_al 0) (am_th (i_gr 4 4) (am_th (i_gr 5 14) (am_th (i_il 1) (am_th (i_ic (24)) (am_th (i_2 (fun x y => x * y)) (am_th (i_il 2) (am_th (i_2 (fun x y => x + y)) (am_th (i_dup2) (am_th (i_ia 0) (am_th (i_al 0) (am_th (i_gi 4 11) (am_th (i_2 (fun x y => x + y)) (am_th (i_iS) (am_th (i_al 0) (am_th (i_gr 4 4) (am_th (i_dup) (am_th (i_gi 5 5) (am_th (i_ic (1)) (am_th (i_2 (fun x y => x + y)) (am_th (i_pi 5 5) (am_th (i_ic (1)) (r_z))))))))))))))))))))))) (am_th (i_ic (0)) (r_z)))))))))))))) (am_th (i_ic (0)) (r_z)))))))))))))) (am_th (i_ic (0)) (r_z)))))
def d_X4_takeDeed : am_D := am_den 3 f_X4_takeDeed
set_option maxHeartbeats 4000000 in
set_option maxRecDepth 100000 in
theorem b_X4_takeDeed : am_Body yX4_takeDeed cX4_takeDeed 3 (some .boolean) 7 148 f_X4_takeDeed := by
  intro p l e R s m args below meth c g n0 z0 r0 u0 C hr hn
  have C : am_Cx p l e R s m args below meth c g RX4 cX4_takeDeed 3 n0 z0 (am_len u0) (am_wt u0) 7 148 := C
  unfold f_X4_takeDeed
  exact (so_th (so_aload_n C dX4_takeDeed_0 rfl) (so_th (so_iconst C dX4_takeDeed_1 (by decide)) (so_th (so_cv C m_X4_takeQuarrel rfl k_216 k_218 k_217 k_219 k_150 ⟨by decide, by decide, by decide +kernel⟩ (by decide) dX4_takeDeed_2) (so_br (so_if_ne C dX4_takeDeed_5 (by decide)) (so_th (so_aload_n C dX4_takeDeed_10 rfl) (so_th (so_geti C fl_RX4_118 (by decide) dX4_takeDeed_11) (so_th (so_istore_n C dX4_takeDeed_14 rfl (by decide)) (so_th (so_aload_n C dX4_takeDeed_15 rfl) (so_th (so_ldcS C dX4_takeDeed_16 (List.mem_of_getElem? (i := 19) rfl)) (so_th (so_cv C m_X4_takeWord rfl k_179 k_181 k_180 k_182 k_150 ⟨by decide, by decide, by decide +kernel⟩ (by decide) dX4_takeDeed_18) (so_br (so_if_eq C dX4_takeDeed_21 (by decide)) (so_th (so_iconst C dX4_takeDeed_34 (by decide)) (so_rz C hr dX4_takeDeed_35)) (so_th (so_aload_n C dX4_takeDeed_24 rfl) (so_th (so_iconst C dX4_takeDeed_25 (by decide)) (so_th (so_bipush C dX4_takeDeed_26 (by decide)) (so_th (so_cv C m_X4_takeWhole rfl k_183 k_185 k_184 k_186 k_150 ⟨by decide, by decide, by decide +kernel⟩ (by decide) dX4_takeDeed_28) (so_br (so_if_ne C dX4_takeDeed_31 (by decide)) (so_th (so_aload_n C dX4_takeDeed_36 rfl) (so_th (so_geti C fl_RX4_118 (by decide) dX4_takeDeed_37) (so_th (so_istore_n C dX4_takeDeed_40 rfl (by decide)) (so_th (so_aload_n C dX4_takeDeed_41 rfl) (so_th (so_ldcS C dX4_takeDeed_42 (List.mem_of_getElem? (i := 20) rfl)) (so_th (so_cv C m_X4_takeWord rfl k_179 k_181 k_180 k_182 k_150 ⟨by decide, by decide, by decide +kernel⟩ (by decide) dX4_takeDeed_44) (so_br (so_if_eq C dX4_takeDeed_47 (by decide)) (so_th (so_iconst C dX4_takeDeed_60 (by decide)) (so_rz C hr dX4_takeDeed_61)) (so_th (so_aload_n C dX4_takeDeed_50 rfl) (so_th (so_iconst C dX4_takeDeed_51 (by decide)) (so_th (so_bipush C dX4_takeDeed_52 (by decide)) (so_th (so_cv C m_X4_takeWhole rfl k_183 k_185 k_184 k_186 k_150 ⟨by decide, by decide, by decide +kernel⟩ (by decide) dX4_takeDeed_54) (so_br (so_if_ne C dX4_takeDeed_57 (by decide)) (so_th (so_aload_n C dX4_takeDeed_62 rfl) (so_th (so_getr C fl_RX4_26 dX4_takeDeed_63) (so_th (so_getr C fl_RX4_233 dX4_takeDeed_66) (so_th (so_iload_n C dX4_takeDeed_69 rfl) (so_th (so_bipush C dX4_takeDeed_70 (by decide)) (so_th (so_imul C dX4_takeDeed_72) (so_th (so_iload_n C dX4_takeDeed_73 rfl) (so_th (so_iadd C dX4_takeDeed_74) (so_th (so_dup2 C dX4_takeDeed_75) (so_th (so_iald C dX4_takeDeed_76) (so_th (so_aload_n C dX4_takeDeed_77 rfl) (so_th (so_geti C fl_RX4_118 (by decide) dX4_takeDeed_78) (so_th (so_iadd C dX4_takeDeed_81) (so_th (so_iast C dX4_takeDeed_82) (so_th (so_aload_n C dX4_takeDeed_83 rfl) (so_th (so_getr C fl_RX4_26 dX4_takeDeed_84) (so_th (so_dup C dX4_takeDeed_87) (so_th (so_geti C fl_RX4_166 (by decide) dX4_takeDeed_88) (so_th (so_iconst C dX4_takeDeed_91 (by decide)) (so_th (so_iadd C dX4_takeDeed_92) (so_th (so_puti C fl_RX4_166 fp_5 (Or.inl rfl) dX4_takeDeed_93) (so_th (so_iconst C dX4_takeDeed_96 (by decide)) (so_rz C hr dX4_takeDeed_97))))))))))))))))))))))) (so_th (so_iconst C dX4_takeDeed_60 (by decide)) (so_rz C hr dX4_takeDeed_61)))))))))))))) (so_th (so_iconst C dX4_takeDeed_34 (by decide)) (so_rz C hr dX4_takeDeed_35)))))))))))))) (so_th (so_iconst C dX4_takeDeed_8 (by decide)) (so_rz C hr dX4_takeDeed_9))))))
theorem m_X4_takeDeed : am_M yX4_takeDeed cX4_takeDeed 3 (some .boolean) 7 148 d_X4_takeDeed := am_M_of (by decide +kernel) b_X4_takeDeed
theorem dX4_takePot_0 : decode cX4_takePot 0 = .ok (.aload_n 0, 1) := by decide +kernel
theorem dX4_takePot_1 : decode cX4_takePot 1 = .ok (.iconst 1, 1) := by decide +kernel
theorem dX4_takePot_2 : decode cX4_takePot 2 = .ok (.invokevirtual 225, 3) := by decide +kernel
theorem dX4_takePot_5 : decode cX4_takePot 5 = .ok (.ifCond .ne 5, 3) := by decide +kernel
theorem dX4_takePot_8 : decode cX4_takePot 8 = .ok (.iconst 0, 1) := by decide +kernel
theorem dX4_takePot_9 : decode cX4_takePot 9 = .ok (.ireturn, 1) := by decide +kernel
theorem dX4_takePot_10 : decode cX4_takePot 10 = .ok (.aload_n 0, 1) := by decide +kernel
theorem dX4_takePot_11 : decode cX4_takePot 11 = .ok (.getfield 26, 3) := by decide +kernel
theorem dX4_takePot_14 : decode cX4_takePot 14 = .ok (.dup, 1) := by decide +kernel
theorem dX4_takePot_15 : decode cX4_takePot 15 = .ok (.getfield 236, 3) := by decide +kernel
theorem dX4_takePot_18 : decode cX4_takePot 18 = .ok (.iconst 1, 1) := by decide +kernel
theorem dX4_takePot_19 : decode cX4_takePot 19 = .ok (.aload_n 0, 1) := by decide +kernel
theorem dX4_takePot_20 : decode cX4_takePot 20 = .ok (.getfield 118, 3) := by decide +kernel
theorem dX4_takePot_23 : decode cX4_takePot 23 = .ok (.ishl, 1) := by decide +kernel
theorem dX4_takePot_24 : decode cX4_takePot 24 = .ok (.ior, 1) := by decide +kernel
theorem dX4_takePot_25 : decode cX4_takePot 25 = .ok (.putfield 236, 3) := by decide +kernel
theorem dX4_takePot_28 : decode cX4_takePot 28 = .ok (.iconst 1, 1) := by decide +kernel
theorem dX4_takePot_29 : decode cX4_takePot 29 = .ok (.ireturn, 1) := by decide +kernel
def f_X4_takePot : am_F := am_th (i_al 0) (am_th (i_ic (1)) (am_th (i_cv 4 1 d_X4_takeQuarrel) (am_br (b_1 (fun x => decide (¬ x = 0))) (am_th (i_al 0) (am_th (i_gr 4 4) (am_th (i_dup) (am_th (i_gi 5 7) (am_th (i_ic (1)) (am_th (i_al 0) (am_th (i_gi 4 11) (am_th (i_2 (fun x y => x <<< (y &&& 31))) (am_th (i_2 (fun x y => x ||| y)) (am_th (i_pi 5 7) (am_th (i_ic (1)) (r_z)))))))))))) (am_th (i_ic (0)) (r_z)))))
def d_X4_takePot : am_D := am_den 1 f_X4_takePot
set_option maxHeartbeats 4000000 in
set_option maxRecDepth 100000 in
theorem b_X4_takePot : am_Body yX4_takePot cX4_takePot 1 (some .boolean) 7 148 f_X4_takePot := by
  intro p l e R s m args below meth c g n0 z0 r0 u0 C hr hn
  have C : am_Cx p l e R s m args below meth c g RX4 cX4_takePot 1 n0 z0 (am_len u0) (am_wt u0) 7 148 := C
  unfold f_X4_takePot
  exact (so_th (so_aload_n C dX4_takePot_0 rfl) (so_th (so_iconst C dX4_takePot_1 (by decide)) (so_th (so_cv C m_X4_takeQuarrel rfl k_216 k_218 k_217 k_219 k_150 ⟨by decide, by decide, by decide +kernel⟩ (by decide) dX4_takePot_2) (so_br (so_if_ne C dX4_takePot_5 (by decide)) (so_th (so_aload_n C dX4_takePot_10 rfl) (so_th (so_getr C fl_RX4_26 dX4_takePot_11) (so_th (so_dup C dX4_takePot_14) (so_th (so_geti C fl_RX4_236 (by decide) dX4_takePot_15) (so_th (so_iconst C dX4_takePot_18 (by decide)) (so_th (so_aload_n C dX4_takePot_19 rfl) (so_th (so_geti C fl_RX4_118 (by decide) dX4_takePot_20) (so_th (so_ishl C dX4_takePot_23) (so_th (so_ior C dX4_takePot_24) (so_th (so_puti C fl_RX4_236 fp_5 (Or.inl rfl) dX4_takePot_25) (so_th (so_iconst C dX4_takePot_28 (by decide)) (so_rz C hr dX4_takePot_29)))))))))))) (so_th (so_iconst C dX4_takePot_8 (by decide)) (so_rz C hr dX4_takePot_9))))))
theorem m_X4_takePot : am_M yX4_takePot cX4_takePot 1 (some .boolean) 7 148 d_X4_takePot := am_M_of (by decide +kernel) b_X4_takePot
theorem dX5_fellAlready_0 : decode cX5_fellAlready 0 = .ok (.iconst 0, 1) := by decide +kernel
theorem dX5_fellAlready_1 : decode cX5_fellAlready 1 = .ok (.istore_n 3, 1) := by decide +kernel
theorem dX5_fellAlready_2 : decode cX5_fellAlready 2 = .ok (.iload_n 3, 1) := by decide +kernel
theorem dX5_fellAlready_3 : decode cX5_fellAlready 3 = .ok (.aload_n 0, 1) := by decide +kernel
theorem dX5_fellAlready_4 : decode cX5_fellAlready 4 = .ok (.getfield 58, 3) := by decide +kernel
theorem dX5_fellAlready_7 : decode cX5_fellAlready 7 = .ok (.if_icmp .ge 31, 3) := by decide +kernel
theorem dX5_fellAlready_10 : decode cX5_fellAlready 10 = .ok (.aload_n 0, 1) := by decide +kernel
theorem dX5_fellAlready_11 : decode cX5_fellAlready 11 = .ok (.getfield 33, 3) := by decide +kernel
theorem dX5_fellAlready_14 : decode cX5_fellAlready 14 = .ok (.iload_n 3, 1) := by decide +kernel
theorem dX5_fellAlready_15 : decode cX5_fellAlready 15 = .ok (.iaload, 1) := by decide +kernel
theorem dX5_fellAlready_16 : decode cX5_fellAlready 16 = .ok (.iload_n 1, 1) := by decide +kernel
theorem dX5_fellAlready_17 : decode cX5_fellAlready 17 = .ok (.if_icmp .ne 15, 3) := by decide +kernel
theorem dX5_fellAlready_20 : decode cX5_fellAlready 20 = .ok (.aload_n 0, 1) := by decide +kernel
theorem dX5_fellAlready_21 : decode cX5_fellAlready 21 = .ok (.getfield 36, 3) := by decide +kernel
theorem dX5_fellAlready_24 : decode cX5_fellAlready 24 = .ok (.iload_n 3, 1) := by decide +kernel
theorem dX5_fellAlready_25 : decode cX5_fellAlready 25 = .ok (.iaload, 1) := by decide +kernel
theorem dX5_fellAlready_26 : decode cX5_fellAlready 26 = .ok (.iload_n 2, 1) := by decide +kernel
theorem dX5_fellAlready_27 : decode cX5_fellAlready 27 = .ok (.if_icmp .ne 5, 3) := by decide +kernel
theorem dX5_fellAlready_30 : decode cX5_fellAlready 30 = .ok (.iconst 1, 1) := by decide +kernel
theorem dX5_fellAlready_31 : decode cX5_fellAlready 31 = .ok (.ireturn, 1) := by decide +kernel
theorem dX5_fellAlready_32 : decode cX5_fellAlready 32 = .ok (.iinc 3 1, 3) := by decide +kernel
theorem dX5_fellAlready_35 : decode cX5_fellAlready 35 = .ok (.goto (-33), 3) := by decide +kernel
theorem dX5_fellAlready_38 : decode cX5_fellAlready 38 = .ok (.iconst 0, 1) := by decide +kernel
theorem dX5_fellAlready_39 : decode cX5_fellAlready 39 = .ok (.ireturn, 1) := by decide +kernel
def f_X5_fellAlready_l2 : am_F := am_th (i_il 3) (am_th (i_al 0) (am_th (i_gi 5 6) (am_br (b_2 (fun x y => decide (y ≤ x))) (am_to 38) (am_th (i_al 0) (am_th (i_gr 5 15) (am_th (i_il 3) (am_th (i_ia 0) (am_th (i_il 1) (am_sq 32 (am_br (b_2 (fun x y => decide (¬ x = y))) (am_to 32) (am_th (i_al 0) (am_th (i_gr 5 16) (am_th (i_il 3) (am_th (i_ia 0) (am_th (i_il 2) (am_br (b_2 (fun x y => decide (¬ x = y))) (am_to 32) (am_th (i_ic (1)) (r_z))))))))) (am_th (i_inc 3 (1)) (am_to 2)))))))))))
def f_X5_fellAlready : am_F := am_th (i_ic (0)) (am_th (i_is 3) (am_sq 38 (am_lp 5000 2 f_X5_fellAlready_l2) (am_th (i_ic (0)) (r_z))))
def d_X5_fellAlready : am_D := am_den 4 f_X5_fellAlready
set_option maxHeartbeats 4000000 in
set_option maxRecDepth 100000 in
theorem b_X5_fellAlready : am_Body yX5_fellAlready cX5_fellAlready 4 (some .boolean) 0 0 f_X5_fellAlready := by
  intro p l e R s m args below meth c g n0 z0 r0 u0 C hr hn
  have C : am_Cx p l e R s m args below meth c g RX5 cX5_fellAlready 4 n0 z0 (am_len u0) (am_wt u0) 0 0 := C
  have l2 : am_Snd (am_GM p l e R s m args below meth c g 4 n0 z0 r0 u0) (am_Rt r0 u0) 2 (f_X5_fellAlready_l2) := by
    unfold f_X5_fellAlready_l2
    exact (so_th (so_iload_n C dX5_fellAlready_2 rfl) (so_th (so_aload_n C dX5_fellAlready_3 rfl) (so_th (so_geti C fl_RX5_58 (by decide) dX5_fellAlready_4) (so_br (so_icmp_ge C dX5_fellAlready_7 (by decide)) (so_to) (so_th (so_aload_n C dX5_fellAlready_10 rfl) (so_th (so_getr C fl_RX5_33 dX5_fellAlready_11) (so_th (so_iload_n C dX5_fellAlready_14 rfl) (so_th (so_iald C dX5_fellAlready_15) (so_th (so_iload_n C dX5_fellAlready_16 rfl) (so_sq (so_br (so_icmp_ne C dX5_fellAlready_17 (by decide)) (so_to) (so_th (so_aload_n C dX5_fellAlready_20 rfl) (so_th (so_getr C fl_RX5_36 dX5_fellAlready_21) (so_th (so_iload_n C dX5_fellAlready_24 rfl) (so_th (so_iald C dX5_fellAlready_25) (so_th (so_iload_n C dX5_fellAlready_26 rfl) (so_br (so_icmp_ne C dX5_fellAlready_27 (by decide)) (so_to) (so_th (so_iconst C dX5_fellAlready_30 (by decide)) (so_rz C hr dX5_fellAlready_31))))))))) (so_th (so_iinc C dX5_fellAlready_32 (by decide) (by decide)) (so_goto C dX5_fellAlready_35 (by decide) (so_to)))))))))))))
  unfold f_X5_fellAlready
  exact (so_th (so_iconst C dX5_fellAlready_0 (by decide)) (so_th (so_istore_n C dX5_fellAlready_1 rfl (by decide)) (so_sq (so_lp l2 5000) (so_th (so_iconst C dX5_fellAlready_38 (by decide)) (so_rz C hr dX5_fellAlready_39)))))
theorem m_X5_fellAlready : am_M yX5_fellAlready cX5_fellAlready 4 (some .boolean) 0 0 d_X5_fellAlready := am_M_of (by decide +kernel) b_X5_fellAlready
