theorem dX7_feed_0 : decode cX7_feed 0 = .ok (.aload_n 0, 1) := by decide +kernel
theorem dX7_feed_1 : decode cX7_feed 1 = .ok (.iconst 0, 1) := by decide +kernel
theorem dX7_feed_2 : decode cX7_feed 2 = .ok (.putfield 68, 3) := by decide +kernel
theorem dX7_feed_5 : decode cX7_feed 5 = .ok (.aload_n 0, 1) := by decide +kernel
theorem dX7_feed_6 : decode cX7_feed 6 = .ok (.getfield 74, 3) := by decide +kernel
theorem dX7_feed_9 : decode cX7_feed 9 = .ok (.bipush 20, 2) := by decide +kernel
theorem dX7_feed_11 : decode cX7_feed 11 = .ok (.iadd, 1) := by decide +kernel
theorem dX7_feed_12 : decode cX7_feed 12 = .ok (.sipush 900, 3) := by decide +kernel
theorem dX7_feed_15 : decode cX7_feed 15 = .ok (.if_icmp .le 5, 3) := by decide +kernel
theorem dX7_feed_18 : decode cX7_feed 18 = .ok (.iconst (-1), 1) := by decide +kernel
theorem dX7_feed_19 : decode cX7_feed 19 = .ok (.ireturn, 1) := by decide +kernel
theorem dX7_feed_20 : decode cX7_feed 20 = .ok (.iconst 0, 1) := by decide +kernel
theorem dX7_feed_21 : decode cX7_feed 21 = .ok (.istore 6, 2) := by decide +kernel
theorem dX7_feed_23 : decode cX7_feed 23 = .ok (.iload 6, 2) := by decide +kernel
theorem dX7_feed_25 : decode cX7_feed 25 = .ok (.bipush 20, 2) := by decide +kernel
theorem dX7_feed_27 : decode cX7_feed 27 = .ok (.if_icmp .ge 93, 3) := by decide +kernel
theorem dX7_feed_30 : decode cX7_feed 30 = .ok (.iload 6, 2) := by decide +kernel
theorem dX7_feed_32 : decode cX7_feed 32 = .ok (.iconst 4, 1) := by decide +kernel
theorem dX7_feed_33 : decode cX7_feed 33 = .ok (.if_icmp .ge 7, 3) := by decide +kernel
theorem dX7_feed_36 : decode cX7_feed 36 = .ok (.iload_n 1, 1) := by decide +kernel
theorem dX7_feed_37 : decode cX7_feed 37 = .ok (.goto 39, 3) := by decide +kernel
theorem dX7_feed_40 : decode cX7_feed 40 = .ok (.iload 6, 2) := by decide +kernel
theorem dX7_feed_42 : decode cX7_feed 42 = .ok (.bipush 8, 2) := by decide +kernel
theorem dX7_feed_44 : decode cX7_feed 44 = .ok (.if_icmp .ge 7, 3) := by decide +kernel
theorem dX7_feed_47 : decode cX7_feed 47 = .ok (.iload_n 2, 1) := by decide +kernel
theorem dX7_feed_48 : decode cX7_feed 48 = .ok (.goto 28, 3) := by decide +kernel
theorem dX7_feed_51 : decode cX7_feed 51 = .ok (.iload 6, 2) := by decide +kernel
theorem dX7_feed_53 : decode cX7_feed 53 = .ok (.bipush 12, 2) := by decide +kernel
theorem dX7_feed_55 : decode cX7_feed 55 = .ok (.if_icmp .ge 7, 3) := by decide +kernel
theorem dX7_feed_58 : decode cX7_feed 58 = .ok (.iload_n 3, 1) := by decide +kernel
theorem dX7_feed_59 : decode cX7_feed 59 = .ok (.goto 17, 3) := by decide +kernel
theorem dX7_feed_62 : decode cX7_feed 62 = .ok (.iload 6, 2) := by decide +kernel
theorem dX7_feed_64 : decode cX7_feed 64 = .ok (.bipush 16, 2) := by decide +kernel
theorem dX7_feed_66 : decode cX7_feed 66 = .ok (.if_icmp .ge 8, 3) := by decide +kernel
theorem dX7_feed_69 : decode cX7_feed 69 = .ok (.iload 4, 2) := by decide +kernel
theorem dX7_feed_71 : decode cX7_feed 71 = .ok (.goto 5, 3) := by decide +kernel
theorem dX7_feed_74 : decode cX7_feed 74 = .ok (.iload 5, 2) := by decide +kernel
theorem dX7_feed_76 : decode cX7_feed 76 = .ok (.istore 7, 2) := by decide +kernel
theorem dX7_feed_78 : decode cX7_feed 78 = .ok (.aload_n 0, 1) := by decide +kernel
theorem dX7_feed_79 : decode cX7_feed 79 = .ok (.getfield 7, 3) := by decide +kernel
theorem dX7_feed_82 : decode cX7_feed 82 = .ok (.aload_n 0, 1) := by decide +kernel
theorem dX7_feed_83 : decode cX7_feed 83 = .ok (.getfield 74, 3) := by decide +kernel
theorem dX7_feed_86 : decode cX7_feed 86 = .ok (.iload 7, 2) := by decide +kernel
theorem dX7_feed_88 : decode cX7_feed 88 = .ok (.bipush 24, 2) := by decide +kernel
theorem dX7_feed_90 : decode cX7_feed 90 = .ok (.bipush 8, 2) := by decide +kernel
theorem dX7_feed_92 : decode cX7_feed 92 = .ok (.iload 6, 2) := by decide +kernel
theorem dX7_feed_94 : decode cX7_feed 94 = .ok (.iconst 4, 1) := by decide +kernel
theorem dX7_feed_95 : decode cX7_feed 95 = .ok (.irem, 1) := by decide +kernel
theorem dX7_feed_96 : decode cX7_feed 96 = .ok (.imul, 1) := by decide +kernel
theorem dX7_feed_97 : decode cX7_feed 97 = .ok (.isub, 1) := by decide +kernel
theorem dX7_feed_98 : decode cX7_feed 98 = .ok (.ishr, 1) := by decide +kernel
theorem dX7_feed_99 : decode cX7_feed 99 = .ok (.sipush 255, 3) := by decide +kernel
theorem dX7_feed_102 : decode cX7_feed 102 = .ok (.iand, 1) := by decide +kernel
theorem dX7_feed_103 : decode cX7_feed 103 = .ok (.iastore, 1) := by decide +kernel
theorem dX7_feed_104 : decode cX7_feed 104 = .ok (.aload_n 0, 1) := by decide +kernel
theorem dX7_feed_105 : decode cX7_feed 105 = .ok (.dup, 1) := by decide +kernel
theorem dX7_feed_106 : decode cX7_feed 106 = .ok (.getfield 74, 3) := by decide +kernel
theorem dX7_feed_109 : decode cX7_feed 109 = .ok (.iconst 1, 1) := by decide +kernel
theorem dX7_feed_110 : decode cX7_feed 110 = .ok (.iadd, 1) := by decide +kernel
theorem dX7_feed_111 : decode cX7_feed 111 = .ok (.putfield 74, 3) := by decide +kernel
theorem dX7_feed_114 : decode cX7_feed 114 = .ok (.iinc 6 1, 3) := by decide +kernel
theorem dX7_feed_117 : decode cX7_feed 117 = .ok (.goto (-94), 3) := by decide +kernel
theorem dX7_feed_120 : decode cX7_feed 120 = .ok (.aload_n 0, 1) := by decide +kernel
theorem dX7_feed_121 : decode cX7_feed 121 = .ok (.getfield 74, 3) := by decide +kernel
theorem dX7_feed_124 : decode cX7_feed 124 = .ok (.ireturn, 1) := by decide +kernel
def f_X7_feed_l23 : am_F := am_th (i_il 6) (am_th (i_ic (20)) (am_br (b_2 (fun x y => decide (y ≤ x))) (am_to 120) (am_th (i_il 6) (am_th (i_ic (4)) (am_sq 76 (am_br (b_2 (fun x y => decide (y ≤ x))) (am_th (i_il 6) (am_th (i_ic (8)) (am_br (b_2 (fun x y => decide (y ≤ x))) (am_th (i_il 6) (am_th (i_ic (12)) (am_br (b_2 (fun x y => decide (y ≤ x))) (am_th (i_il 6) (am_th (i_ic (16)) (am_br (b_2 (fun x y => decide (y ≤ x))) (am_th (i_il 5) (am_to 76)) (am_th (i_il 4) (am_to 76))))) (am_th (i_il 3) (am_to 76))))) (am_th (i_il 2) (am_to 76))))) (am_th (i_il 1) (am_to 76))) (am_th (i_is 7) (am_th (i_al 0) (am_th (i_gr 7 1) (am_th (i_al 0) (am_th (i_gi 7 2) (am_th (i_il 7) (am_th (i_ic (24)) (am_th (i_ic (8)) (am_th (i_il 6) (am_th (i_ic (4)) (am_th (i_2n (fun x y => x - x / y * y)) (am_th (i_2 (fun x y => x * y)) (am_th (i_2 (fun x y => x - y)) (am_th (i_2 (fun x y => x >>> (y &&& 31))) (am_th (i_ic (255)) (am_th (i_2 (fun x y => x &&& y)) (am_th (i_iS) (am_th (i_al 0) (am_th (i_dup) (am_th (i_gi 7 2) (am_th (i_ic (1)) (am_th (i_2 (fun x y => x + y)) (am_th (i_pi 7 2) (am_th (i_inc 6 (1)) (am_to 23))))))))))))))))))))))))))))))
def f_X7_feed : am_F := am_th (i_al 0) (am_th (i_ic (0)) (am_th (i_pi 7 0) (am_th (i_al 0) (am_th (i_gi 7 2) (am_th (i_ic (20)) (am_th (i_2 (fun x y => x + y)) (am_th (i_ic (900)) (am_br (b_2 (fun x y => decide (x ≤ y))) (am_th (i_ic (0)) (am_th (i_is 6) (am_sq 120 (am_lp 5000 23 f_X7_feed_l23) (am_th (i_al 0) (am_th (i_gi 7 2) (r_i)))))) (am_th (i_ic (-1)) (r_i))))))))))
def d_X7_feed : am_D := am_den 8 f_X7_feed
set_option maxHeartbeats 4000000 in
set_option maxRecDepth 100000 in
theorem b_X7_feed : am_Body yX7_feed cX7_feed 8 (some .int) 0 0 f_X7_feed := by
  intro p l e R s m args below meth c g n0 z0 r0 u0 C hr hn
  have C : am_Cx p l e R s m args below meth c g RX7 cX7_feed 8 n0 z0 (am_len u0) (am_wt u0) 0 0 := C
  have l23 : am_Snd (am_GM p l e R s m args below meth c g 8 n0 z0 r0 u0) (am_Rt r0 u0) 23 (f_X7_feed_l23) := by
    unfold f_X7_feed_l23
    exact (so_th (so_iload C dX7_feed_23) (so_th (so_bipush C dX7_feed_25 (by decide)) (so_br (so_icmp_ge C dX7_feed_27 (by decide)) (so_to) (so_th (so_iload C dX7_feed_30) (so_th (so_iconst C dX7_feed_32 (by decide)) (so_sq (so_br (so_icmp_ge C dX7_feed_33 (by decide)) (so_th (so_iload C dX7_feed_40) (so_th (so_bipush C dX7_feed_42 (by decide)) (so_br (so_icmp_ge C dX7_feed_44 (by decide)) (so_th (so_iload C dX7_feed_51) (so_th (so_bipush C dX7_feed_53 (by decide)) (so_br (so_icmp_ge C dX7_feed_55 (by decide)) (so_th (so_iload C dX7_feed_62) (so_th (so_bipush C dX7_feed_64 (by decide)) (so_br (so_icmp_ge C dX7_feed_66 (by decide)) (so_th (so_iload C dX7_feed_74) (so_to)) (so_th (so_iload C dX7_feed_69) (so_goto C dX7_feed_71 (by decide) (so_to)))))) (so_th (so_iload_n C dX7_feed_58 rfl) (so_goto C dX7_feed_59 (by decide) (so_to)))))) (so_th (so_iload_n C dX7_feed_47 rfl) (so_goto C dX7_feed_48 (by decide) (so_to)))))) (so_th (so_iload_n C dX7_feed_36 rfl) (so_goto C dX7_feed_37 (by decide) (so_to)))) (so_th (so_istore C dX7_feed_76 (by decide)) (so_th (so_aload_n C dX7_feed_78 rfl) (so_th (so_getr C fl_RX7_7 dX7_feed_79) (so_th (so_aload_n C dX7_feed_82 rfl) (so_th (so_geti C fl_RX7_74 (by decide) dX7_feed_83) (so_th (so_iload C dX7_feed_86) (so_th (so_bipush C dX7_feed_88 (by decide)) (so_th (so_bipush C dX7_feed_90 (by decide)) (so_th (so_iload C dX7_feed_92) (so_th (so_iconst C dX7_feed_94 (by decide)) (so_th (so_irem C dX7_feed_95) (so_th (so_imul C dX7_feed_96) (so_th (so_isub C dX7_feed_97) (so_th (so_ishr C dX7_feed_98) (so_th (so_sipush C dX7_feed_99 (by decide)) (so_th (so_iand C dX7_feed_102) (so_th (so_iast C dX7_feed_103) (so_th (so_aload_n C dX7_feed_104 rfl) (so_th (so_dup C dX7_feed_105) (so_th (so_geti C fl_RX7_74 (by decide) dX7_feed_106) (so_th (so_iconst C dX7_feed_109 (by decide)) (so_th (so_iadd C dX7_feed_110) (so_th (so_puti C fl_RX7_74 fp_7 (Or.inl rfl) dX7_feed_111) (so_th (so_iinc C dX7_feed_114 (by decide) (by decide)) (so_goto C dX7_feed_117 (by decide) (so_to))))))))))))))))))))))))))))))))
  unfold f_X7_feed
  exact (so_th (so_aload_n C dX7_feed_0 rfl) (so_th (so_iconst C dX7_feed_1 (by decide)) (so_th (so_puti C fl_RX7_68 fp_7 (Or.inl rfl) dX7_feed_2) (so_th (so_aload_n C dX7_feed_5 rfl) (so_th (so_geti C fl_RX7_74 (by decide) dX7_feed_6) (so_th (so_bipush C dX7_feed_9 (by decide)) (so_th (so_iadd C dX7_feed_11) (so_th (so_sipush C dX7_feed_12 (by decide)) (so_br (so_icmp_le C dX7_feed_15 (by decide)) (so_th (so_iconst C dX7_feed_20 (by decide)) (so_th (so_istore C dX7_feed_21 (by decide)) (so_sq (so_lp l23 5000) (so_th (so_aload_n C dX7_feed_120 rfl) (so_th (so_geti C fl_RX7_74 (by decide) dX7_feed_121) (so_ri C hr dX7_feed_124)))))) (so_th (so_iconst C dX7_feed_18 (by decide)) (so_ri C hr dX7_feed_19)))))))))))
theorem m_X7_feed : am_M yX7_feed cX7_feed 8 (some .int) 0 0 d_X7_feed := am_M_of (by decide +kernel) b_X7_feed
theorem dX7_look_0 : decode cX7_look 0 = .ok (.iload_n 1, 1) := by decide +kernel
theorem dX7_look_1 : decode cX7_look 1 = .ok (.aload_n 0, 1) := by decide +kernel
theorem dX7_look_2 : decode cX7_look 2 = .ok (.getfield 77, 3) := by decide +kernel
theorem dX7_look_5 : decode cX7_look 5 = .ok (.if_icmp .ge 12, 3) := by decide +kernel
theorem dX7_look_8 : decode cX7_look 8 = .ok (.aload_n 0, 1) := by decide +kernel
theorem dX7_look_9 : decode cX7_look 9 = .ok (.getfield 7, 3) := by decide +kernel
theorem dX7_look_12 : decode cX7_look 12 = .ok (.iload_n 1, 1) := by decide +kernel
theorem dX7_look_13 : decode cX7_look 13 = .ok (.iaload, 1) := by decide +kernel
theorem dX7_look_14 : decode cX7_look 14 = .ok (.goto 4, 3) := by decide +kernel
theorem dX7_look_17 : decode cX7_look 17 = .ok (.iconst (-1), 1) := by decide +kernel
theorem dX7_look_18 : decode cX7_look 18 = .ok (.ireturn, 1) := by decide +kernel
def f_X7_look : am_F := am_th (i_il 1) (am_th (i_al 0) (am_th (i_gi 7 3) (am_br (b_2 (fun x y => decide (y ≤ x))) (am_th (i_ic (-1)) (r_i)) (am_th (i_al 0) (am_th (i_gr 7 1) (am_th (i_il 1) (am_th (i_ia 0) (r_i))))))))
def d_X7_look : am_D := am_den 2 f_X7_look
set_option maxHeartbeats 4000000 in
set_option maxRecDepth 100000 in
theorem b_X7_look : am_Body yX7_look cX7_look 2 (some .int) 0 0 f_X7_look := by
  intro p l e R s m args below meth c g n0 z0 r0 u0 C hr hn
  have C : am_Cx p l e R s m args below meth c g RX7 cX7_look 2 n0 z0 (am_len u0) (am_wt u0) 0 0 := C
  unfold f_X7_look
  exact (so_th (so_iload_n C dX7_look_0 rfl) (so_th (so_aload_n C dX7_look_1 rfl) (so_th (so_geti C fl_RX7_77 (by decide) dX7_look_2) (so_br (so_icmp_ge C dX7_look_5 (by decide)) (so_th (so_iconst C dX7_look_17 (by decide)) (so_ri C hr dX7_look_18)) (so_th (so_aload_n C dX7_look_8 rfl) (so_th (so_getr C fl_RX7_7 dX7_look_9) (so_th (so_iload_n C dX7_look_12 rfl) (so_th (so_iald C dX7_look_13) (so_goto C dX7_look_14 (by decide) (so_ri C hr dX7_look_18))))))))))
theorem m_X7_look : am_M yX7_look cX7_look 2 (some .int) 0 0 d_X7_look := am_M_of (by decide +kernel) b_X7_look
theorem dX7_isSmall_0 : decode cX7_isSmall 0 = .ok (.iload_n 0, 1) := by decide +kernel
theorem dX7_isSmall_1 : decode cX7_isSmall 1 = .ok (.bipush 97, 2) := by decide +kernel
theorem dX7_isSmall_3 : decode cX7_isSmall 3 = .ok (.if_icmp .lt 13, 3) := by decide +kernel
theorem dX7_isSmall_6 : decode cX7_isSmall 6 = .ok (.iload_n 0, 1) := by decide +kernel
theorem dX7_isSmall_7 : decode cX7_isSmall 7 = .ok (.bipush 122, 2) := by decide +kernel
theorem dX7_isSmall_9 : decode cX7_isSmall 9 = .ok (.if_icmp .gt 7, 3) := by decide +kernel
theorem dX7_isSmall_12 : decode cX7_isSmall 12 = .ok (.iconst 1, 1) := by decide +kernel
theorem dX7_isSmall_13 : decode cX7_isSmall 13 = .ok (.goto 4, 3) := by decide +kernel
theorem dX7_isSmall_16 : decode cX7_isSmall 16 = .ok (.iconst 0, 1) := by decide +kernel
theorem dX7_isSmall_17 : decode cX7_isSmall 17 = .ok (.ireturn, 1) := by decide +kernel
def f_X7_isSmall : am_F := am_th (i_il 0) (am_th (i_ic (97)) (am_br (b_2 (fun x y => decide (x < y))) (am_th (i_ic (0)) (r_z)) (am_th (i_il 0) (am_th (i_ic (122)) (am_br (b_2 (fun x y => decide (y < x))) (am_th (i_ic (0)) (r_z)) (am_th (i_ic (1)) (r_z)))))))
def d_X7_isSmall : am_D := am_den 1 f_X7_isSmall
set_option maxHeartbeats 4000000 in
set_option maxRecDepth 100000 in
theorem b_X7_isSmall : am_Body yX7_isSmall cX7_isSmall 1 (some .boolean) 0 0 f_X7_isSmall := by
  intro p l e R s m args below meth c g n0 z0 r0 u0 C hr hn
  have C : am_Cx p l e R s m args below meth c g RX7 cX7_isSmall 1 n0 z0 (am_len u0) (am_wt u0) 0 0 := C
  unfold f_X7_isSmall
  exact (so_th (so_iload_n C dX7_isSmall_0 rfl) (so_th (so_bipush C dX7_isSmall_1 (by decide)) (so_br (so_icmp_lt C dX7_isSmall_3 (by decide)) (so_th (so_iconst C dX7_isSmall_16 (by decide)) (so_rz C hr dX7_isSmall_17)) (so_th (so_iload_n C dX7_isSmall_6 rfl) (so_th (so_bipush C dX7_isSmall_7 (by decide)) (so_br (so_icmp_gt C dX7_isSmall_9 (by decide)) (so_th (so_iconst C dX7_isSmall_16 (by decide)) (so_rz C hr dX7_isSmall_17)) (so_th (so_iconst C dX7_isSmall_12 (by decide)) (so_goto C dX7_isSmall_13 (by decide) (so_rz C hr dX7_isSmall_17)))))))))
theorem m_X7_isSmall : am_M yX7_isSmall cX7_isSmall 1 (some .boolean) 0 0 d_X7_isSmall := am_M_of (by decide +kernel) b_X7_isSmall
theorem dX7_isDigit_0 : decode cX7_isDigit 0 = .ok (.iload_n 0, 1) := by decide +kernel
theorem dX7_isDigit_1 : decode cX7_isDigit 1 = .ok (.bipush 48, 2) := by decide +kernel
theorem dX7_isDigit_3 : decode cX7_isDigit 3 = .ok (.if_icmp .lt 13, 3) := by decide +kernel
theorem dX7_isDigit_6 : decode cX7_isDigit 6 = .ok (.iload_n 0, 1) := by decide +kernel
theorem dX7_isDigit_7 : decode cX7_isDigit 7 = .ok (.bipush 57, 2) := by decide +kernel
theorem dX7_isDigit_9 : decode cX7_isDigit 9 = .ok (.if_icmp .gt 7, 3) := by decide +kernel
theorem dX7_isDigit_12 : decode cX7_isDigit 12 = .ok (.iconst 1, 1) := by decide +kernel
theorem dX7_isDigit_13 : decode cX7_isDigit 13 = .ok (.goto 4, 3) := by decide +kernel
theorem dX7_isDigit_16 : decode cX7_isDigit 16 = .ok (.iconst 0, 1) := by decide +kernel
theorem dX7_isDigit_17 : decode cX7_isDigit 17 = .ok (.ireturn, 1) := by decide +kernel
def f_X7_isDigit : am_F := am_th (i_il 0) (am_th (i_ic (48)) (am_br (b_2 (fun x y => decide (x < y))) (am_th (i_ic (0)) (r_z)) (am_th (i_il 0) (am_th (i_ic (57)) (am_br (b_2 (fun x y => decide (y < x))) (am_th (i_ic (0)) (r_z)) (am_th (i_ic (1)) (r_z)))))))
def d_X7_isDigit : am_D := am_den 1 f_X7_isDigit
set_option maxHeartbeats 4000000 in
set_option maxRecDepth 100000 in
theorem b_X7_isDigit : am_Body yX7_isDigit cX7_isDigit 1 (some .boolean) 0 0 f_X7_isDigit := by
  intro p l e R s m args below meth c g n0 z0 r0 u0 C hr hn
  have C : am_Cx p l e R s m args below meth c g RX7 cX7_isDigit 1 n0 z0 (am_len u0) (am_wt u0) 0 0 := C
  unfold f_X7_isDigit
  exact (so_th (so_iload_n C dX7_isDigit_0 rfl) (so_th (so_bipush C dX7_isDigit_1 (by decide)) (so_br (so_icmp_lt C dX7_isDigit_3 (by decide)) (so_th (so_iconst C dX7_isDigit_16 (by decide)) (so_rz C hr dX7_isDigit_17)) (so_th (so_iload_n C dX7_isDigit_6 rfl) (so_th (so_bipush C dX7_isDigit_7 (by decide)) (so_br (so_icmp_gt C dX7_isDigit_9 (by decide)) (so_th (so_iconst C dX7_isDigit_16 (by decide)) (so_rz C hr dX7_isDigit_17)) (so_th (so_iconst C dX7_isDigit_12 (by decide)) (so_goto C dX7_isDigit_13 (by decide) (so_rz C hr dX7_isDigit_17)))))))))
theorem m_X7_isDigit : am_M yX7_isDigit cX7_isDigit 1 (some .boolean) 0 0 d_X7_isDigit := am_M_of (by decide +kernel) b_X7_isDigit
theorem dX7_next_0 : decode cX7_next 0 = .ok (.aload_n 0, 1) := by decide +kernel
theorem dX7_next_1 : decode cX7_next 1 = .ok (.getfield 80, 3) := by decide +kernel
theorem dX7_next_4 : decode cX7_next 4 = .ok (.istore_n 1, 1) := by decide +kernel
theorem dX7_next_5 : decode cX7_next 5 = .ok (.aload_n 0, 1) := by decide +kernel
theorem dX7_next_6 : decode cX7_next 6 = .ok (.iload_n 1, 1) := by decide +kernel
theorem dX7_next_7 : decode cX7_next 7 = .ok (.invokevirtual 83, 3) := by decide +kernel
theorem dX7_next_10 : decode cX7_next 10 = .ok (.bipush 32, 2) := by decide +kernel
theorem dX7_next_12 : decode cX7_next 12 = .ok (.if_icmp .ne 9, 3) := by decide +kernel
theorem dX7_next_15 : decode cX7_next 15 = .ok (.iinc 1 1, 3) := by decide +kernel
theorem dX7_next_18 : decode cX7_next 18 = .ok (.goto (-13), 3) := by decide +kernel
theorem dX7_next_21 : decode cX7_next 21 = .ok (.aload_n 0, 1) := by decide +kernel
theorem dX7_next_22 : decode cX7_next 22 = .ok (.iload_n 1, 1) := by decide +kernel
theorem dX7_next_23 : decode cX7_next 23 = .ok (.putfield 87, 3) := by decide +kernel
theorem dX7_next_26 : decode cX7_next 26 = .ok (.aload_n 0, 1) := by decide +kernel
theorem dX7_next_27 : decode cX7_next 27 = .ok (.iload_n 1, 1) := by decide +kernel
theorem dX7_next_28 : decode cX7_next 28 = .ok (.invokevirtual 83, 3) := by decide +kernel
theorem dX7_next_31 : decode cX7_next 31 = .ok (.istore_n 2, 1) := by decide +kernel
theorem dX7_next_32 : decode cX7_next 32 = .ok (.aload_n 0, 1) := by decide +kernel
theorem dX7_next_33 : decode cX7_next 33 = .ok (.iconst 0, 1) := by decide +kernel
theorem dX7_next_34 : decode cX7_next 34 = .ok (.putfield 90, 3) := by decide +kernel
theorem dX7_next_37 : decode cX7_next 37 = .ok (.aload_n 0, 1) := by decide +kernel
theorem dX7_next_38 : decode cX7_next 38 = .ok (.iconst 0, 1) := by decide +kernel
theorem dX7_next_39 : decode cX7_next 39 = .ok (.putfield 93, 3) := by decide +kernel
theorem dX7_next_42 : decode cX7_next 42 = .ok (.iload_n 2, 1) := by decide +kernel
theorem dX7_next_43 : decode cX7_next 43 = .ok (.iconst (-1), 1) := by decide +kernel
theorem dX7_next_44 : decode cX7_next 44 = .ok (.if_icmp .ne 16, 3) := by decide +kernel
theorem dX7_next_47 : decode cX7_next 47 = .ok (.aload_n 0, 1) := by decide +kernel
theorem dX7_next_48 : decode cX7_next 48 = .ok (.iconst 0, 1) := by decide +kernel
theorem dX7_next_49 : decode cX7_next 49 = .ok (.putfield 96, 3) := by decide +kernel
theorem dX7_next_52 : decode cX7_next 52 = .ok (.aload_n 0, 1) := by decide +kernel
theorem dX7_next_53 : decode cX7_next 53 = .ok (.iload_n 1, 1) := by decide +kernel
theorem dX7_next_54 : decode cX7_next 54 = .ok (.putfield 80, 3) := by decide +kernel
theorem dX7_next_57 : decode cX7_next 57 = .ok (.goto 184, 3) := by decide +kernel
theorem dX7_next_60 : decode cX7_next 60 = .ok (.iload_n 2, 1) := by decide +kernel
theorem dX7_next_61 : decode cX7_next 61 = .ok (.invokestatic 99, 3) := by decide +kernel
theorem dX7_next_64 : decode cX7_next 64 = .ok (.ifCond .eq 79, 3) := by decide +kernel
theorem dX7_next_67 : decode cX7_next 67 = .ok (.aload_n 0, 1) := by decide +kernel
theorem dX7_next_68 : decode cX7_next 68 = .ok (.iload_n 1, 1) := by decide +kernel
theorem dX7_next_69 : decode cX7_next 69 = .ok (.invokevirtual 83, 3) := by decide +kernel
theorem dX7_next_72 : decode cX7_next 72 = .ok (.invokestatic 99, 3) := by decide +kernel
theorem dX7_next_75 : decode cX7_next 75 = .ok (.ifCond .eq 42, 3) := by decide +kernel
theorem dX7_next_78 : decode cX7_next 78 = .ok (.aload_n 0, 1) := by decide +kernel
theorem dX7_next_79 : decode cX7_next 79 = .ok (.getfield 90, 3) := by decide +kernel
theorem dX7_next_82 : decode cX7_next 82 = .ok (.bipush 8, 2) := by decide +kernel
theorem dX7_next_84 : decode cX7_next 84 = .ok (.if_icmp .ge 17, 3) := by decide +kernel
theorem dX7_next_87 : decode cX7_next 87 = .ok (.aload_n 0, 1) := by decide +kernel
theorem dX7_next_88 : decode cX7_next 88 = .ok (.getfield 17, 3) := by decide +kernel
theorem dX7_next_91 : decode cX7_next 91 = .ok (.aload_n 0, 1) := by decide +kernel
theorem dX7_next_92 : decode cX7_next 92 = .ok (.getfield 90, 3) := by decide +kernel
theorem dX7_next_95 : decode cX7_next 95 = .ok (.aload_n 0, 1) := by decide +kernel
theorem dX7_next_96 : decode cX7_next 96 = .ok (.iload_n 1, 1) := by decide +kernel
theorem dX7_next_97 : decode cX7_next 97 = .ok (.invokevirtual 83, 3) := by decide +kernel
theorem dX7_next_100 : decode cX7_next 100 = .ok (.iastore, 1) := by decide +kernel
theorem dX7_next_101 : decode cX7_next 101 = .ok (.aload_n 0, 1) := by decide +kernel
theorem dX7_next_102 : decode cX7_next 102 = .ok (.dup, 1) := by decide +kernel
theorem dX7_next_103 : decode cX7_next 103 = .ok (.getfield 90, 3) := by decide +kernel
theorem dX7_next_106 : decode cX7_next 106 = .ok (.iconst 1, 1) := by decide +kernel
theorem dX7_next_107 : decode cX7_next 107 = .ok (.iadd, 1) := by decide +kernel
theorem dX7_next_108 : decode cX7_next 108 = .ok (.putfield 90, 3) := by decide +kernel
theorem dX7_next_111 : decode cX7_next 111 = .ok (.iinc 1 1, 3) := by decide +kernel
theorem dX7_next_114 : decode cX7_next 114 = .ok (.goto (-47), 3) := by decide +kernel
theorem dX7_next_117 : decode cX7_next 117 = .ok (.aload_n 0, 1) := by decide +kernel
theorem dX7_next_118 : decode cX7_next 118 = .ok (.iload_n 1, 1) := by decide +kernel
theorem dX7_next_119 : decode cX7_next 119 = .ok (.putfield 80, 3) := by decide +kernel
theorem dX7_next_122 : decode cX7_next 122 = .ok (.aload_n 0, 1) := by decide +kernel
theorem dX7_next_123 : decode cX7_next 123 = .ok (.aload_n 0, 1) := by decide +kernel
theorem dX7_next_124 : decode cX7_next 124 = .ok (.getfield 90, 3) := by decide +kernel
theorem dX7_next_127 : decode cX7_next 127 = .ok (.bipush 8, 2) := by decide +kernel
theorem dX7_next_129 : decode cX7_next 129 = .ok (.if_icmp .le 7, 3) := by decide +kernel
theorem dX7_next_132 : decode cX7_next 132 = .ok (.iconst 1, 1) := by decide +kernel
theorem dX7_next_133 : decode cX7_next 133 = .ok (.goto 4, 3) := by decide +kernel
theorem dX7_next_136 : decode cX7_next 136 = .ok (.iconst 2, 1) := by decide +kernel
theorem dX7_next_137 : decode cX7_next 137 = .ok (.putfield 96, 3) := by decide +kernel
theorem dX7_next_140 : decode cX7_next 140 = .ok (.goto 101, 3) := by decide +kernel
theorem dX7_next_143 : decode cX7_next 143 = .ok (.iload_n 2, 1) := by decide +kernel
theorem dX7_next_144 : decode cX7_next 144 = .ok (.invokestatic 103, 3) := by decide +kernel
theorem dX7_next_147 : decode cX7_next 147 = .ok (.ifCond .eq 72, 3) := by decide +kernel
theorem dX7_next_150 : decode cX7_next 150 = .ok (.iconst 0, 1) := by decide +kernel
theorem dX7_next_151 : decode cX7_next 151 = .ok (.istore_n 3, 1) := by decide +kernel
theorem dX7_next_152 : decode cX7_next 152 = .ok (.aload_n 0, 1) := by decide +kernel
theorem dX7_next_153 : decode cX7_next 153 = .ok (.iload_n 1, 1) := by decide +kernel
theorem dX7_next_154 : decode cX7_next 154 = .ok (.invokevirtual 83, 3) := by decide +kernel
theorem dX7_next_157 : decode cX7_next 157 = .ok (.invokestatic 103, 3) := by decide +kernel
theorem dX7_next_160 : decode cX7_next 160 = .ok (.ifCond .eq 37, 3) := by decide +kernel
theorem dX7_next_163 : decode cX7_next 163 = .ok (.iload_n 3, 1) := by decide +kernel
theorem dX7_next_164 : decode cX7_next 164 = .ok (.iconst 3, 1) := by decide +kernel
theorem dX7_next_165 : decode cX7_next 165 = .ok (.if_icmp .ge 23, 3) := by decide +kernel
theorem dX7_next_168 : decode cX7_next 168 = .ok (.aload_n 0, 1) := by decide +kernel
theorem dX7_next_169 : decode cX7_next 169 = .ok (.bipush 10, 2) := by decide +kernel
theorem dX7_next_171 : decode cX7_next 171 = .ok (.aload_n 0, 1) := by decide +kernel
theorem dX7_next_172 : decode cX7_next 172 = .ok (.getfield 93, 3) := by decide +kernel
theorem dX7_next_175 : decode cX7_next 175 = .ok (.imul, 1) := by decide +kernel
theorem dX7_next_176 : decode cX7_next 176 = .ok (.aload_n 0, 1) := by decide +kernel
theorem dX7_next_177 : decode cX7_next 177 = .ok (.iload_n 1, 1) := by decide +kernel
theorem dX7_next_178 : decode cX7_next 178 = .ok (.invokevirtual 83, 3) := by decide +kernel
theorem dX7_next_181 : decode cX7_next 181 = .ok (.iadd, 1) := by decide +kernel
theorem dX7_next_182 : decode cX7_next 182 = .ok (.bipush 48, 2) := by decide +kernel
theorem dX7_next_184 : decode cX7_next 184 = .ok (.isub, 1) := by decide +kernel
theorem dX7_next_185 : decode cX7_next 185 = .ok (.putfield 93, 3) := by decide +kernel
theorem dX7_next_188 : decode cX7_next 188 = .ok (.iinc 3 1, 3) := by decide +kernel
theorem dX7_next_191 : decode cX7_next 191 = .ok (.iinc 1 1, 3) := by decide +kernel
theorem dX7_next_194 : decode cX7_next 194 = .ok (.goto (-42), 3) := by decide +kernel
theorem dX7_next_197 : decode cX7_next 197 = .ok (.aload_n 0, 1) := by decide +kernel
theorem dX7_next_198 : decode cX7_next 198 = .ok (.iload_n 1, 1) := by decide +kernel
theorem dX7_next_199 : decode cX7_next 199 = .ok (.putfield 80, 3) := by decide +kernel
theorem dX7_next_202 : decode cX7_next 202 = .ok (.aload_n 0, 1) := by decide +kernel
theorem dX7_next_203 : decode cX7_next 203 = .ok (.iload_n 3, 1) := by decide +kernel
theorem dX7_next_204 : decode cX7_next 204 = .ok (.iconst 3, 1) := by decide +kernel
theorem dX7_next_205 : decode cX7_next 205 = .ok (.if_icmp .le 7, 3) := by decide +kernel
theorem dX7_next_208 : decode cX7_next 208 = .ok (.iconst 1, 1) := by decide +kernel
theorem dX7_next_209 : decode cX7_next 209 = .ok (.goto 4, 3) := by decide +kernel
theorem dX7_next_212 : decode cX7_next 212 = .ok (.iconst 3, 1) := by decide +kernel
theorem dX7_next_213 : decode cX7_next 213 = .ok (.putfield 96, 3) := by decide +kernel
theorem dX7_next_216 : decode cX7_next 216 = .ok (.goto 25, 3) := by decide +kernel
theorem dX7_next_219 : decode cX7_next 219 = .ok (.aload_n 0, 1) := by decide +kernel
theorem dX7_next_220 : decode cX7_next 220 = .ok (.iload_n 1, 1) := by decide +kernel
theorem dX7_next_221 : decode cX7_next 221 = .ok (.iconst 1, 1) := by decide +kernel
theorem dX7_next_222 : decode cX7_next 222 = .ok (.iadd, 1) := by decide +kernel
theorem dX7_next_223 : decode cX7_next 223 = .ok (.putfield 80, 3) := by decide +kernel
theorem dX7_next_226 : decode cX7_next 226 = .ok (.aload_n 0, 1) := by decide +kernel
theorem dX7_next_227 : decode cX7_next 227 = .ok (.iload_n 2, 1) := by decide +kernel
theorem dX7_next_228 : decode cX7_next 228 = .ok (.bipush 59, 2) := by decide +kernel
theorem dX7_next_230 : decode cX7_next 230 = .ok (.if_icmp .ne 7, 3) := by decide +kernel
theorem dX7_next_233 : decode cX7_next 233 = .ok (.iload_n 2, 1) := by decide +kernel
theorem dX7_next_234 : decode cX7_next 234 = .ok (.goto 4, 3) := by decide +kernel
theorem dX7_next_237 : decode cX7_next 237 = .ok (.iconst 1, 1) := by decide +kernel
theorem dX7_next_238 : decode cX7_next 238 = .ok (.putfield 96, 3) := by decide +kernel
theorem dX7_next_241 : decode cX7_next 241 = .ok (.return_, 1) := by decide +kernel
def f_X7_next_l5 : am_F := am_th (i_al 0) (am_th (i_il 1) (am_th (i_cv 7 1 d_X7_look) (am_th (i_ic (32)) (am_br (b_2 (fun x y => decide (¬ x = y))) (am_to 21) (am_th (i_inc 1 (1)) (am_to 5))))))
def f_X7_next_l152 : am_F := am_th (i_al 0) (am_th (i_il 1) (am_th (i_cv 7 1 d_X7_look) (am_th (i_cs 1 d_X7_isDigit) (am_br (b_1 (fun x => decide (x = 0))) (am_to 197) (am_th (i_il 3) (am_th (i_ic (3)) (am_sq 188 (am_br (b_2 (fun x y => decide (y ≤ x))) (am_to 188) (am_th (i_al 0) (am_th (i_ic (10)) (am_th (i_al 0) (am_th (i_gi 7 7) (am_th (i_2 (fun x y => x * y)) (am_th (i_al 0) (am_th (i_il 1) (am_th (i_cv 7 1 d_X7_look) (am_th (i_2 (fun x y => x + y)) (am_th (i_ic (48)) (am_th (i_2 (fun x y => x - y)) (am_th (i_pi 7 7) (am_to 188)))))))))))))) (am_th (i_inc 3 (1)) (am_th (i_inc 1 (1)) (am_to 152))))))))))
def f_X7_next_l67 : am_F := am_th (i_al 0) (am_th (i_il 1) (am_th (i_cv 7 1 d_X7_look) (am_th (i_cs 1 d_X7_isSmall) (am_br (b_1 (fun x => decide (x = 0))) (am_to 117) (am_th (i_al 0) (am_th (i_gi 7 8) (am_th (i_ic (8)) (am_sq 101 (am_br (b_2 (fun x y => decide (y ≤ x))) (am_to 101) (am_th (i_al 0) (am_th (i_gr 7 12) (am_th (i_al 0) (am_th (i_gi 7 8) (am_th (i_al 0) (am_th (i_il 1) (am_th (i_cv 7 1 d_X7_look) (am_th (i_iS) (am_to 101)))))))))) (am_th (i_al 0) (am_th (i_dup) (am_th (i_gi 7 8) (am_th (i_ic (1)) (am_th (i_2 (fun x y => x + y)) (am_th (i_pi 7 8) (am_th (i_inc 1 (1)) (am_to 67))))))))))))))))
def f_X7_next : am_F := am_th (i_al 0) (am_th (i_gi 7 5) (am_th (i_is 1) (am_sq 21 (am_lp 5000 5 f_X7_next_l5) (am_th (i_al 0) (am_th (i_il 1) (am_th (i_pi 7 4) (am_th (i_al 0) (am_th (i_il 1) (am_th (i_cv 7 1 d_X7_look) (am_th (i_is 2) (am_th (i_al 0) (am_th (i_ic (0)) (am_th (i_pi 7 8) (am_th (i_al 0) (am_th (i_ic (0)) (am_th (i_pi 7 7) (am_th (i_il 2) (am_th (i_ic (-1)) (am_br (b_2 (fun x y => decide (¬ x = y))) (am_th (i_il 2) (am_th (i_cs 1 d_X7_isSmall) (am_br (b_1 (fun x => decide (x = 0))) (am_th (i_il 2) (am_th (i_cs 1 d_X7_isDigit) (am_br (b_1 (fun x => decide (x = 0))) (am_th (i_al 0) (am_th (i_il 1) (am_th (i_ic (1)) (am_th (i_2 (fun x y => x + y)) (am_th (i_pi 7 5) (am_th (i_al 0) (am_th (i_il 2) (am_th (i_ic (59)) (am_br (b_2 (fun x y => decide (¬ x = y))) (am_th (i_ic (1)) (am_th (i_pi 7 6) (r_v))) (am_th (i_il 2) (am_th (i_pi 7 6) (r_v)))))))))))) (am_th (i_ic (0)) (am_th (i_is 3) (am_sq 197 (am_lp 5000 152 f_X7_next_l152) (am_th (i_al 0) (am_th (i_il 1) (am_th (i_pi 7 5) (am_th (i_al 0) (am_th (i_il 3) (am_th (i_ic (3)) (am_br (b_2 (fun x y => decide (x ≤ y))) (am_th (i_ic (3)) (am_th (i_pi 7 6) (r_v))) (am_th (i_ic (1)) (am_th (i_pi 7 6) (r_v)))))))))))))))) (am_sq 117 (am_lp 5000 67 f_X7_next_l67) (am_th (i_al 0) (am_th (i_il 1) (am_th (i_pi 7 5) (am_th (i_al 0) (am_th (i_al 0) (am_th (i_gi 7 8) (am_th (i_ic (8)) (am_br (b_2 (fun x y => decide (x ≤ y))) (am_th (i_ic (2)) (am_th (i_pi 7 6) (r_v))) (am_th (i_ic (1)) (am_th (i_pi 7 6) (r_v))))))))))))))) (am_th (i_al 0) (am_th (i_ic (0)) (am_th (i_pi 7 6) (am_th (i_al 0) (am_th (i_il 1) (am_th (i_pi 7 5) (r_v))))))))))))))))))))))))))
def d_X7_next : am_D := am_den 4 f_X7_next
set_option maxHeartbeats 4000000 in
set_option maxRecDepth 100000 in
theorem b_X7_next : am_Body yX7_next cX7_next 4 none 1 21 f_X7_next := by
  intro p l e R s m args below meth c g n0 z0 r0 u0 C hr hn
  have C : am_Cx p l e R s m args below meth c g RX7 cX7_next 4 n0 z0 (am_len u0) (am_wt u0) 1 21 := C
  have l5 : am_Snd (am_GM p l e R s m args below meth c g 4 n0 z0 r0 u0) (am_Rt r0 u0) 5 (f_X7_next_l5) := by
    unfold f_X7_next_l5
    exact (so_th (so_aload_n C dX7_next_5 rfl) (so_th (so_iload_n C dX7_next_6 rfl) (so_th (so_cv C m_X7_look rfl k_474 k_477 k_476 k_478 k_475 ⟨by decide, by decide, by decide +kernel⟩ (by decide) dX7_next_7) (so_th (so_bipush C dX7_next_10 (by decide)) (so_br (so_icmp_ne C dX7_next_12 (by decide)) (so_to) (so_th (so_iinc C dX7_next_15 (by decide) (by decide)) (so_goto C dX7_next_18 (by decide) (so_to))))))))
  have l152 : am_Snd (am_GM p l e R s m args below meth c g 4 n0 z0 r0 u0) (am_Rt r0 u0) 152 (f_X7_next_l152) := by
    unfold f_X7_next_l152
    exact (so_th (so_aload_n C dX7_next_152 rfl) (so_th (so_iload_n C dX7_next_153 rfl) (so_th (so_cv C m_X7_look rfl k_474 k_477 k_476 k_478 k_475 ⟨by decide, by decide, by decide +kernel⟩ (by decide) dX7_next_154) (so_th (so_cs C m_X7_isDigit k_482 k_484 k_483 k_475 ⟨by decide, by decide, by decide +kernel⟩ (by decide) dX7_next_157) (so_br (so_if_eq C dX7_next_160 (by decide)) (so_to) (so_th (so_iload_n C dX7_next_163 rfl) (so_th (so_iconst C dX7_next_164 (by decide)) (so_sq (so_br (so_icmp_ge C dX7_next_165 (by decide)) (so_to) (so_th (so_aload_n C dX7_next_168 rfl) (so_th (so_bipush C dX7_next_169 (by decide)) (so_th (so_aload_n C dX7_next_171 rfl) (so_th (so_geti C fl_RX7_93 (by decide) dX7_next_172) (so_th (so_imul C dX7_next_175) (so_th (so_aload_n C dX7_next_176 rfl) (so_th (so_iload_n C dX7_next_177 rfl) (so_th (so_cv C m_X7_look rfl k_474 k_477 k_476 k_478 k_475 ⟨by decide, by decide, by decide +kernel⟩ (by decide) dX7_next_178) (so_th (so_iadd C dX7_next_181) (so_th (so_bipush C dX7_next_182 (by decide)) (so_th (so_isub C dX7_next_184) (so_th (so_puti C fl_RX7_93 fp_7 (Or.inl rfl) dX7_next_185) (so_to)))))))))))))) (so_th (so_iinc C dX7_next_188 (by decide) (by decide)) (so_th (so_iinc C dX7_next_191 (by decide) (by decide)) (so_goto C dX7_next_194 (by decide) (so_to))))))))))))
  have l67 : am_Snd (am_GM p l e R s m args below meth c g 4 n0 z0 r0 u0) (am_Rt r0 u0) 67 (f_X7_next_l67) := by
    unfold f_X7_next_l67
    exact (so_th (so_aload_n C dX7_next_67 rfl) (so_th (so_iload_n C dX7_next_68 rfl) (so_th (so_cv C m_X7_look rfl k_474 k_477 k_476 k_478 k_475 ⟨by decide, by decide, by decide +kernel⟩ (by decide) dX7_next_69) (so_th (so_cs C m_X7_isSmall k_479 k_481 k_480 k_475 ⟨by decide, by decide, by decide +kernel⟩ (by decide) dX7_next_72) (so_br (so_if_eq C dX7_next_75 (by decide)) (so_to) (so_th (so_aload_n C dX7_next_78 rfl) (so_th (so_geti C fl_RX7_90 (by decide) dX7_next_79) (so_th (so_bipush C dX7_next_82 (by decide)) (so_sq (so_br (so_icmp_ge C dX7_next_84 (by decide)) (so_to) (so_th (so_aload_n C dX7_next_87 rfl) (so_th (so_getr C fl_RX7_17 dX7_next_88) (so_th (so_aload_n C dX7_next_91 rfl) (so_th (so_geti C fl_RX7_90 (by decide) dX7_next_92) (so_th (so_aload_n C dX7_next_95 rfl) (so_th (so_iload_n C dX7_next_96 rfl) (so_th (so_cv C m_X7_look rfl k_474 k_477 k_476 k_478 k_475 ⟨by decide, by decide, by decide +kernel⟩ (by decide) dX7_next_97) (so_th (so_iast C dX7_next_100) (so_to)))))))))) (so_th (so_aload_n C dX7_next_101 rfl) (so_th (so_dup C dX7_next_102) (so_th (so_geti C fl_RX7_90 (by decide) dX7_next_103) (so_th (so_iconst C dX7_next_106 (by decide)) (so_th (so_iadd C dX7_next_107) (so_th (so_puti C fl_RX7_90 fp_7 (Or.inl rfl) dX7_next_108) (so_th (so_iinc C dX7_next_111 (by decide) (by decide)) (so_goto C dX7_next_114 (by decide) (so_to))))))))))))))))))
  unfold f_X7_next
  exact (so_th (so_aload_n C dX7_next_0 rfl) (so_th (so_geti C fl_RX7_80 (by decide) dX7_next_1) (so_th (so_istore_n C dX7_next_4 rfl (by decide)) (so_sq (so_lp l5 5000) (so_th (so_aload_n C dX7_next_21 rfl) (so_th (so_iload_n C dX7_next_22 rfl) (so_th (so_puti C fl_RX7_87 fp_7 (Or.inl rfl) dX7_next_23) (so_th (so_aload_n C dX7_next_26 rfl) (so_th (so_iload_n C dX7_next_27 rfl) (so_th (so_cv C m_X7_look rfl k_474 k_477 k_476 k_478 k_475 ⟨by decide, by decide, by decide +kernel⟩ (by decide) dX7_next_28) (so_th (so_istore_n C dX7_next_31 rfl (by decide)) (so_th (so_aload_n C dX7_next_32 rfl) (so_th (so_iconst C dX7_next_33 (by decide)) (so_th (so_puti C fl_RX7_90 fp_7 (Or.inl rfl) dX7_next_34) (so_th (so_aload_n C dX7_next_37 rfl) (so_th (so_iconst C dX7_next_38 (by decide)) (so_th (so_puti C fl_RX7_93 fp_7 (Or.inl rfl) dX7_next_39) (so_th (so_iload_n C dX7_next_42 rfl) (so_th (so_iconst C dX7_next_43 (by decide)) (so_br (so_icmp_ne C dX7_next_44 (by decide)) (so_th (so_iload_n C dX7_next_60 rfl) (so_th (so_cs C m_X7_isSmall k_479 k_481 k_480 k_475 ⟨by decide, by decide, by decide +kernel⟩ (by decide) dX7_next_61) (so_br (so_if_eq C dX7_next_64 (by decide)) (so_th (so_iload_n C dX7_next_143 rfl) (so_th (so_cs C m_X7_isDigit k_482 k_484 k_483 k_475 ⟨by decide, by decide, by decide +kernel⟩ (by decide) dX7_next_144) (so_br (so_if_eq C dX7_next_147 (by decide)) (so_th (so_aload_n C dX7_next_219 rfl) (so_th (so_iload_n C dX7_next_220 rfl) (so_th (so_iconst C dX7_next_221 (by decide)) (so_th (so_iadd C dX7_next_222) (so_th (so_puti C fl_RX7_80 fp_7 (Or.inl rfl) dX7_next_223) (so_th (so_aload_n C dX7_next_226 rfl) (so_th (so_iload_n C dX7_next_227 rfl) (so_th (so_bipush C dX7_next_228 (by decide)) (so_br (so_icmp_ne C dX7_next_230 (by decide)) (so_th (so_iconst C dX7_next_237 (by decide)) (so_th (so_puti C fl_RX7_96 fp_7 (Or.inl rfl) dX7_next_238) (so_rv C hr dX7_next_241))) (so_th (so_iload_n C dX7_next_233 rfl) (so_goto C dX7_next_234 (by decide) (so_th (so_puti C fl_RX7_96 fp_7 (Or.inl rfl) dX7_next_238) (so_rv C hr dX7_next_241))))))))))))) (so_th (so_iconst C dX7_next_150 (by decide)) (so_th (so_istore_n C dX7_next_151 rfl (by decide)) (so_sq (so_lp l152 5000) (so_th (so_aload_n C dX7_next_197 rfl) (so_th (so_iload_n C dX7_next_198 rfl) (so_th (so_puti C fl_RX7_80 fp_7 (Or.inl rfl) dX7_next_199) (so_th (so_aload_n C dX7_next_202 rfl) (so_th (so_iload_n C dX7_next_203 rfl) (so_th (so_iconst C dX7_next_204 (by decide)) (so_br (so_icmp_le C dX7_next_205 (by decide)) (so_th (so_iconst C dX7_next_212 (by decide)) (so_th (so_puti C fl_RX7_96 fp_7 (Or.inl rfl) dX7_next_213) (so_goto C dX7_next_216 (by decide) (so_rv C hr dX7_next_241)))) (so_th (so_iconst C dX7_next_208 (by decide)) (so_goto C dX7_next_209 (by decide) (so_th (so_puti C fl_RX7_96 fp_7 (Or.inl rfl) dX7_next_213) (so_goto C dX7_next_216 (by decide) (so_rv C hr dX7_next_241)))))))))))))))))) (so_sq (so_lp l67 5000) (so_th (so_aload_n C dX7_next_117 rfl) (so_th (so_iload_n C dX7_next_118 rfl) (so_th (so_puti C fl_RX7_80 fp_7 (Or.inl rfl) dX7_next_119) (so_th (so_aload_n C dX7_next_122 rfl) (so_th (so_aload_n C dX7_next_123 rfl) (so_th (so_geti C fl_RX7_90 (by decide) dX7_next_124) (so_th (so_bipush C dX7_next_127 (by decide)) (so_br (so_icmp_le C dX7_next_129 (by decide)) (so_th (so_iconst C dX7_next_136 (by decide)) (so_th (so_puti C fl_RX7_96 fp_7 (Or.inl rfl) dX7_next_137) (so_goto C dX7_next_140 (by decide) (so_rv C hr dX7_next_241)))) (so_th (so_iconst C dX7_next_132 (by decide)) (so_goto C dX7_next_133 (by decide) (so_th (so_puti C fl_RX7_96 fp_7 (Or.inl rfl) dX7_next_137) (so_goto C dX7_next_140 (by decide) (so_rv C hr dX7_next_241))))))))))))))))) (so_th (so_aload_n C dX7_next_47 rfl) (so_th (so_iconst C dX7_next_48 (by decide)) (so_th (so_puti C fl_RX7_96 fp_7 (Or.inl rfl) dX7_next_49) (so_th (so_aload_n C dX7_next_52 rfl) (so_th (so_iload_n C dX7_next_53 rfl) (so_th (so_puti C fl_RX7_80 fp_7 (Or.inl rfl) dX7_next_54) (so_goto C dX7_next_57 (by decide) (so_rv C hr dX7_next_241))))))))))))))))))))))))))))
theorem m_X7_next : am_M yX7_next cX7_next 4 none 1 21 d_X7_next := am_M_of (by decide +kernel) b_X7_next
theorem dX7_wrong_0 : decode cX7_wrong 0 = .ok (.aload_n 0, 1) := by decide +kernel
theorem dX7_wrong_1 : decode cX7_wrong 1 = .ok (.getfield 106, 3) := by decide +kernel
theorem dX7_wrong_4 : decode cX7_wrong 4 = .ok (.ifCond .eq 4, 3) := by decide +kernel
theorem dX7_wrong_7 : decode cX7_wrong 7 = .ok (.return_, 1) := by decide +kernel
theorem dX7_wrong_8 : decode cX7_wrong 8 = .ok (.aload_n 0, 1) := by decide +kernel
theorem dX7_wrong_9 : decode cX7_wrong 9 = .ok (.iconst 1, 1) := by decide +kernel
theorem dX7_wrong_10 : decode cX7_wrong 10 = .ok (.putfield 106, 3) := by decide +kernel
theorem dX7_wrong_13 : decode cX7_wrong 13 = .ok (.aload_n 0, 1) := by decide +kernel
theorem dX7_wrong_14 : decode cX7_wrong 14 = .ok (.iload_n 1, 1) := by decide +kernel
theorem dX7_wrong_15 : decode cX7_wrong 15 = .ok (.putfield 110, 3) := by decide +kernel
theorem dX7_wrong_18 : decode cX7_wrong 18 = .ok (.aload_n 0, 1) := by decide +kernel
theorem dX7_wrong_19 : decode cX7_wrong 19 = .ok (.iload_n 2, 1) := by decide +kernel
theorem dX7_wrong_20 : decode cX7_wrong 20 = .ok (.putfield 13, 3) := by decide +kernel
theorem dX7_wrong_23 : decode cX7_wrong 23 = .ok (.return_, 1) := by decide +kernel
def f_X7_wrong : am_F := am_th (i_al 0) (am_th (i_gi 7 13) (am_br (b_1 (fun x => decide (x = 0))) (am_th (i_al 0) (am_th (i_ic (1)) (am_th (i_pz 7 13) (am_th (i_al 0) (am_th (i_il 1) (am_th (i_pi 7 9) (am_th (i_al 0) (am_th (i_il 2) (am_th (i_pi 7 10) (r_v)))))))))) (r_v)))
def d_X7_wrong : am_D := am_den 3 f_X7_wrong
set_option maxHeartbeats 4000000 in
set_option maxRecDepth 100000 in
theorem b_X7_wrong : am_Body yX7_wrong cX7_wrong 3 none 0 0 f_X7_wrong := by
  intro p l e R s m args below meth c g n0 z0 r0 u0 C hr hn
  have C : am_Cx p l e R s m args below meth c g RX7 cX7_wrong 3 n0 z0 (am_len u0) (am_wt u0) 0 0 := C
  unfold f_X7_wrong
  exact (so_th (so_aload_n C dX7_wrong_0 rfl) (so_th (so_geti C fl_RX7_106 (by decide) dX7_wrong_1) (so_br (so_if_eq C dX7_wrong_4 (by decide)) (so_th (so_aload_n C dX7_wrong_8 rfl) (so_th (so_iconst C dX7_wrong_9 (by decide)) (so_th (so_putz C fl_RX7_106 fp_7 (Or.inl rfl) dX7_wrong_10) (so_th (so_aload_n C dX7_wrong_13 rfl) (so_th (so_iload_n C dX7_wrong_14 rfl) (so_th (so_puti C fl_RX7_110 fp_7 (Or.inl rfl) dX7_wrong_15) (so_th (so_aload_n C dX7_wrong_18 rfl) (so_th (so_iload_n C dX7_wrong_19 rfl) (so_th (so_puti C fl_RX7_13 fp_7 (Or.inl rfl) dX7_wrong_20) (so_rv C hr dX7_wrong_23)))))))))) (so_rv C hr dX7_wrong_7))))
theorem m_X7_wrong : am_M yX7_wrong cX7_wrong 3 none 0 0 d_X7_wrong := am_M_of (by decide +kernel) b_X7_wrong
theorem dX7_isWord_0 : decode cX7_isWord 0 = .ok (.aload_n 0, 1) := by decide +kernel
theorem dX7_isWord_1 : decode cX7_isWord 1 = .ok (.getfield 106, 3) := by decide +kernel
theorem dX7_isWord_4 : decode cX7_isWord 4 = .ok (.ifCond .ne 22, 3) := by decide +kernel
theorem dX7_isWord_7 : decode cX7_isWord 7 = .ok (.aload_n 0, 1) := by decide +kernel
theorem dX7_isWord_8 : decode cX7_isWord 8 = .ok (.getfield 96, 3) := by decide +kernel
theorem dX7_isWord_11 : decode cX7_isWord 11 = .ok (.iconst 2, 1) := by decide +kernel
theorem dX7_isWord_12 : decode cX7_isWord 12 = .ok (.if_icmp .ne 14, 3) := by decide +kernel
theorem dX7_isWord_15 : decode cX7_isWord 15 = .ok (.aload_n 0, 1) := by decide +kernel
theorem dX7_isWord_16 : decode cX7_isWord 16 = .ok (.getfield 90, 3) := by decide +kernel
theorem dX7_isWord_19 : decode cX7_isWord 19 = .ok (.aload_n 1, 1) := by decide +kernel
theorem dX7_isWord_20 : decode cX7_isWord 20 = .ok (.invokevirtual 113, 3) := by decide +kernel
theorem dX7_isWord_23 : decode cX7_isWord 23 = .ok (.if_icmp .eq 5, 3) := by decide +kernel
theorem dX7_isWord_26 : decode cX7_isWord 26 = .ok (.iconst 0, 1) := by decide +kernel
theorem dX7_isWord_27 : decode cX7_isWord 27 = .ok (.ireturn, 1) := by decide +kernel
theorem dX7_isWord_28 : decode cX7_isWord 28 = .ok (.iconst 1, 1) := by decide +kernel
theorem dX7_isWord_29 : decode cX7_isWord 29 = .ok (.istore_n 2, 1) := by decide +kernel
theorem dX7_isWord_30 : decode cX7_isWord 30 = .ok (.iconst 0, 1) := by decide +kernel
theorem dX7_isWord_31 : decode cX7_isWord 31 = .ok (.istore_n 3, 1) := by decide +kernel
theorem dX7_isWord_32 : decode cX7_isWord 32 = .ok (.iload_n 3, 1) := by decide +kernel
theorem dX7_isWord_33 : decode cX7_isWord 33 = .ok (.aload_n 0, 1) := by decide +kernel
theorem dX7_isWord_34 : decode cX7_isWord 34 = .ok (.getfield 90, 3) := by decide +kernel
theorem dX7_isWord_37 : decode cX7_isWord 37 = .ok (.if_icmp .ge 33, 3) := by decide +kernel
theorem dX7_isWord_40 : decode cX7_isWord 40 = .ok (.iload_n 2, 1) := by decide +kernel
theorem dX7_isWord_41 : decode cX7_isWord 41 = .ok (.ifCond .eq 21, 3) := by decide +kernel
theorem dX7_isWord_44 : decode cX7_isWord 44 = .ok (.aload_n 0, 1) := by decide +kernel
theorem dX7_isWord_45 : decode cX7_isWord 45 = .ok (.getfield 17, 3) := by decide +kernel
theorem dX7_isWord_48 : decode cX7_isWord 48 = .ok (.iload_n 3, 1) := by decide +kernel
theorem dX7_isWord_49 : decode cX7_isWord 49 = .ok (.iaload, 1) := by decide +kernel
theorem dX7_isWord_50 : decode cX7_isWord 50 = .ok (.aload_n 1, 1) := by decide +kernel
theorem dX7_isWord_51 : decode cX7_isWord 51 = .ok (.iload_n 3, 1) := by decide +kernel
theorem dX7_isWord_52 : decode cX7_isWord 52 = .ok (.invokevirtual 119, 3) := by decide +kernel
theorem dX7_isWord_55 : decode cX7_isWord 55 = .ok (.if_icmp .ne 7, 3) := by decide +kernel
theorem dX7_isWord_58 : decode cX7_isWord 58 = .ok (.iconst 1, 1) := by decide +kernel
theorem dX7_isWord_59 : decode cX7_isWord 59 = .ok (.goto 4, 3) := by decide +kernel
theorem dX7_isWord_62 : decode cX7_isWord 62 = .ok (.iconst 0, 1) := by decide +kernel
theorem dX7_isWord_63 : decode cX7_isWord 63 = .ok (.istore_n 2, 1) := by decide +kernel
theorem dX7_isWord_64 : decode cX7_isWord 64 = .ok (.iinc 3 1, 3) := by decide +kernel
theorem dX7_isWord_67 : decode cX7_isWord 67 = .ok (.goto (-35), 3) := by decide +kernel
theorem dX7_isWord_70 : decode cX7_isWord 70 = .ok (.iload_n 2, 1) := by decide +kernel
theorem dX7_isWord_71 : decode cX7_isWord 71 = .ok (.ireturn, 1) := by decide +kernel
def f_X7_isWord_l32 : am_F := am_th (i_il 3) (am_th (i_al 0) (am_th (i_gi 7 8) (am_br (b_2 (fun x y => decide (y ≤ x))) (am_to 70) (am_th (i_il 2) (am_sq 63 (am_br (b_1 (fun x => decide (x = 0))) (am_th (i_ic (0)) (am_to 63)) (am_th (i_al 0) (am_th (i_gr 7 12) (am_th (i_il 3) (am_th (i_ia 0) (am_th (i_al 1) (am_th (i_il 3) (am_th (i_ct 1 d_sch) (am_br (b_2 (fun x y => decide (¬ x = y))) (am_th (i_ic (0)) (am_to 63)) (am_th (i_ic (1)) (am_to 63))))))))))) (am_th (i_is 2) (am_th (i_inc 3 (1)) (am_to 32))))))))
def f_X7_isWord : am_F := am_th (i_al 0) (am_th (i_gi 7 13) (am_br (b_1 (fun x => decide (¬ x = 0))) (am_th (i_ic (0)) (r_z)) (am_th (i_al 0) (am_th (i_gi 7 6) (am_th (i_ic (2)) (am_br (b_2 (fun x y => decide (¬ x = y))) (am_th (i_ic (0)) (r_z)) (am_th (i_al 0) (am_th (i_gi 7 8) (am_th (i_al 1) (am_th (i_ct 0 d_slen) (am_br (b_2 (fun x y => decide (x = y))) (am_th (i_ic (1)) (am_th (i_is 2) (am_th (i_ic (0)) (am_th (i_is 3) (am_sq 70 (am_lp 5000 32 f_X7_isWord_l32) (am_th (i_il 2) (r_z))))))) (am_th (i_ic (0)) (r_z)))))))))))))
def d_X7_isWord : am_D := am_den 4 f_X7_isWord
set_option maxHeartbeats 4000000 in
set_option maxRecDepth 100000 in
theorem b_X7_isWord : am_Body yX7_isWord cX7_isWord 4 (some .boolean) 4 85 f_X7_isWord := by
  intro p l e R s m args below meth c g n0 z0 r0 u0 C hr hn
  have C : am_Cx p l e R s m args below meth c g RX7 cX7_isWord 4 n0 z0 (am_len u0) (am_wt u0) 4 85 := C
  have l32 : am_Snd (am_GM p l e R s m args below meth c g 4 n0 z0 r0 u0) (am_Rt r0 u0) 32 (f_X7_isWord_l32) := by
    unfold f_X7_isWord_l32
    exact (so_th (so_iload_n C dX7_isWord_32 rfl) (so_th (so_aload_n C dX7_isWord_33 rfl) (so_th (so_geti C fl_RX7_90 (by decide) dX7_isWord_34) (so_br (so_icmp_ge C dX7_isWord_37 (by decide)) (so_to) (so_th (so_iload_n C dX7_isWord_40 rfl) (so_sq (so_br (so_if_eq C dX7_isWord_41 (by decide)) (so_th (so_iconst C dX7_isWord_62 (by decide)) (so_to)) (so_th (so_aload_n C dX7_isWord_44 rfl) (so_th (so_getr C fl_RX7_17 dX7_isWord_45) (so_th (so_iload_n C dX7_isWord_48 rfl) (so_th (so_iald C dX7_isWord_49) (so_th (so_aload_n C dX7_isWord_50 rfl) (so_th (so_iload_n C dX7_isWord_51 rfl) (so_th (so_ct C m_sch k_163 k_486 k_164 k_166 k_159 ⟨by decide, by decide, by decide +kernel⟩ (by decide) dX7_isWord_52) (so_br (so_icmp_ne C dX7_isWord_55 (by decide)) (so_th (so_iconst C dX7_isWord_62 (by decide)) (so_to)) (so_th (so_iconst C dX7_isWord_58 (by decide)) (so_goto C dX7_isWord_59 (by decide) (so_to)))))))))))) (so_th (so_istore_n C dX7_isWord_63 rfl (by decide)) (so_th (so_iinc C dX7_isWord_64 (by decide) (by decide)) (so_goto C dX7_isWord_67 (by decide) (so_to))))))))))
  unfold f_X7_isWord
  exact (so_th (so_aload_n C dX7_isWord_0 rfl) (so_th (so_geti C fl_RX7_106 (by decide) dX7_isWord_1) (so_br (so_if_ne C dX7_isWord_4 (by decide)) (so_th (so_iconst C dX7_isWord_26 (by decide)) (so_rz C hr dX7_isWord_27)) (so_th (so_aload_n C dX7_isWord_7 rfl) (so_th (so_geti C fl_RX7_96 (by decide) dX7_isWord_8) (so_th (so_iconst C dX7_isWord_11 (by decide)) (so_br (so_icmp_ne C dX7_isWord_12 (by decide)) (so_th (so_iconst C dX7_isWord_26 (by decide)) (so_rz C hr dX7_isWord_27)) (so_th (so_aload_n C dX7_isWord_15 rfl) (so_th (so_geti C fl_RX7_90 (by decide) dX7_isWord_16) (so_th (so_aload_n C dX7_isWord_19 rfl) (so_th (so_ct C m_slen k_158 k_485 k_160 k_162 k_159 ⟨by decide, by decide, by decide +kernel⟩ (by decide) dX7_isWord_20) (so_br (so_icmp_eq C dX7_isWord_23 (by decide)) (so_th (so_iconst C dX7_isWord_28 (by decide)) (so_th (so_istore_n C dX7_isWord_29 rfl (by decide)) (so_th (so_iconst C dX7_isWord_30 (by decide)) (so_th (so_istore_n C dX7_isWord_31 rfl (by decide)) (so_sq (so_lp l32 5000) (so_th (so_iload_n C dX7_isWord_70 rfl) (so_rz C hr dX7_isWord_71))))))) (so_th (so_iconst C dX7_isWord_26 (by decide)) (so_rz C hr dX7_isWord_27))))))))))))))
theorem m_X7_isWord : am_M yX7_isWord cX7_isWord 4 (some .boolean) 4 85 d_X7_isWord := am_M_of (by decide +kernel) b_X7_isWord
theorem dX7_takesWord_0 : decode cX7_takesWord 0 = .ok (.aload_n 0, 1) := by decide +kernel
theorem dX7_takesWord_1 : decode cX7_takesWord 1 = .ok (.aload_n 1, 1) := by decide +kernel
theorem dX7_takesWord_2 : decode cX7_takesWord 2 = .ok (.invokevirtual 123, 3) := by decide +kernel
theorem dX7_takesWord_5 : decode cX7_takesWord 5 = .ok (.ifCond .ne 5, 3) := by decide +kernel
theorem dX7_takesWord_8 : decode cX7_takesWord 8 = .ok (.iconst 0, 1) := by decide +kernel
theorem dX7_takesWord_9 : decode cX7_takesWord 9 = .ok (.ireturn, 1) := by decide +kernel
theorem dX7_takesWord_10 : decode cX7_takesWord 10 = .ok (.aload_n 0, 1) := by decide +kernel
theorem dX7_takesWord_11 : decode cX7_takesWord 11 = .ok (.invokevirtual 127, 3) := by decide +kernel
theorem dX7_takesWord_14 : decode cX7_takesWord 14 = .ok (.iconst 1, 1) := by decide +kernel
theorem dX7_takesWord_15 : decode cX7_takesWord 15 = .ok (.ireturn, 1) := by decide +kernel
def f_X7_takesWord : am_F := am_th (i_al 0) (am_th (i_al 1) (am_th (i_cv 7 1 d_X7_isWord) (am_br (b_1 (fun x => decide (¬ x = 0))) (am_th (i_al 0) (am_th (i_cv 7 0 d_X7_next) (am_th (i_ic (1)) (r_z)))) (am_th (i_ic (0)) (r_z)))))
def d_X7_takesWord : am_D := am_den 2 f_X7_takesWord
set_option maxHeartbeats 4000000 in
set_option maxRecDepth 100000 in
theorem b_X7_takesWord : am_Body yX7_takesWord cX7_takesWord 2 (some .boolean) 5 108 f_X7_takesWord := by
  intro p l e R s m args below meth c g n0 z0 r0 u0 C hr hn
  have C : am_Cx p l e R s m args below meth c g RX7 cX7_takesWord 2 n0 z0 (am_len u0) (am_wt u0) 5 108 := C
  unfold f_X7_takesWord
  exact (so_th (so_aload_n C dX7_takesWord_0 rfl) (so_th (so_aload_n C dX7_takesWord_1 rfl) (so_th (so_cv C m_X7_isWord rfl k_487 k_489 k_488 k_490 k_475 ⟨by decide, by decide, by decide +kernel⟩ (by decide) dX7_takesWord_2) (so_br (so_if_ne C dX7_takesWord_5 (by decide)) (so_th (so_aload_n C dX7_takesWord_10 rfl) (so_th (so_cv C m_X7_next rfl k_491 k_493 k_492 k_494 k_475 ⟨by decide, by decide, by decide +kernel⟩ (by decide) dX7_takesWord_11) (so_th (so_iconst C dX7_takesWord_14 (by decide)) (so_rz C hr dX7_takesWord_15)))) (so_th (so_iconst C dX7_takesWord_8 (by decide)) (so_rz C hr dX7_takesWord_9))))))
theorem m_X7_takesWord : am_M yX7_takesWord cX7_takesWord 2 (some .boolean) 5 108 d_X7_takesWord := am_M_of (by decide +kernel) b_X7_takesWord
theorem dX7_must_0 : decode cX7_must 0 = .ok (.aload_n 0, 1) := by decide +kernel
theorem dX7_must_1 : decode cX7_must 1 = .ok (.getfield 106, 3) := by decide +kernel
theorem dX7_must_4 : decode cX7_must 4 = .ok (.ifCond .ne 20, 3) := by decide +kernel
theorem dX7_must_7 : decode cX7_must 7 = .ok (.aload_n 0, 1) := by decide +kernel
theorem dX7_must_8 : decode cX7_must 8 = .ok (.aload_n 1, 1) := by decide +kernel
theorem dX7_must_9 : decode cX7_must 9 = .ok (.invokevirtual 130, 3) := by decide +kernel
theorem dX7_must_12 : decode cX7_must 12 = .ok (.ifCond .ne 12, 3) := by decide +kernel
theorem dX7_must_15 : decode cX7_must 15 = .ok (.aload_n 0, 1) := by decide +kernel
theorem dX7_must_16 : decode cX7_must 16 = .ok (.iconst 1, 1) := by decide +kernel
theorem dX7_must_17 : decode cX7_must 17 = .ok (.aload_n 0, 1) := by decide +kernel
theorem dX7_must_18 : decode cX7_must 18 = .ok (.getfield 87, 3) := by decide +kernel
theorem dX7_must_21 : decode cX7_must 21 = .ok (.invokevirtual 133, 3) := by decide +kernel
theorem dX7_must_24 : decode cX7_must 24 = .ok (.return_, 1) := by decide +kernel
def f_X7_must : am_F := am_th (i_al 0) (am_th (i_gi 7 13) (am_br (b_1 (fun x => decide (¬ x = 0))) (r_v) (am_th (i_al 0) (am_th (i_al 1) (am_th (i_cv 7 1 d_X7_takesWord) (am_br (b_1 (fun x => decide (¬ x = 0))) (r_v) (am_th (i_al 0) (am_th (i_ic (1)) (am_th (i_al 0) (am_th (i_gi 7 4) (am_th (i_cv 7 2 d_X7_wrong) (r_v))))))))))))
def d_X7_must : am_D := am_den 2 f_X7_must
set_option maxHeartbeats 4000000 in
set_option maxRecDepth 100000 in
theorem b_X7_must : am_Body yX7_must cX7_must 2 none 6 129 f_X7_must := by
  intro p l e R s m args below meth c g n0 z0 r0 u0 C hr hn
  have C : am_Cx p l e R s m args below meth c g RX7 cX7_must 2 n0 z0 (am_len u0) (am_wt u0) 6 129 := C
  unfold f_X7_must
  exact (so_th (so_aload_n C dX7_must_0 rfl) (so_th (so_geti C fl_RX7_106 (by decide) dX7_must_1) (so_br (so_if_ne C dX7_must_4 (by decide)) (so_rv C hr dX7_must_24) (so_th (so_aload_n C dX7_must_7 rfl) (so_th (so_aload_n C dX7_must_8 rfl) (so_th (so_cv C m_X7_takesWord rfl k_495 k_497 k_496 k_498 k_475 ⟨by decide, by decide, by decide +kernel⟩ (by decide) dX7_must_9) (so_br (so_if_ne C dX7_must_12 (by decide)) (so_rv C hr dX7_must_24) (so_th (so_aload_n C dX7_must_15 rfl) (so_th (so_iconst C dX7_must_16 (by decide)) (so_th (so_aload_n C dX7_must_17 rfl) (so_th (so_geti C fl_RX7_87 (by decide) dX7_must_18) (so_th (so_cv C m_X7_wrong rfl k_499 k_501 k_500 k_502 k_475 ⟨by decide, by decide, by decide +kernel⟩ (by decide) dX7_must_21) (so_rv C hr dX7_must_24)))))))))))))
theorem m_X7_must : am_M yX7_must cX7_must 2 none 6 129 d_X7_must := am_M_of (by decide +kernel) b_X7_must
theorem dX7_mustName_0 : decode cX7_mustName 0 = .ok (.aload_n 0, 1) := by decide +kernel
theorem dX7_mustName_1 : decode cX7_mustName 1 = .ok (.getfield 96, 3) := by decide +kernel
theorem dX7_mustName_4 : decode cX7_mustName 4 = .ok (.iconst 2, 1) := by decide +kernel
theorem dX7_mustName_5 : decode cX7_mustName 5 = .ok (.if_icmp .ne 66, 3) := by decide +kernel
theorem dX7_mustName_8 : decode cX7_mustName 8 = .ok (.aload_n 0, 1) := by decide +kernel
theorem dX7_mustName_9 : decode cX7_mustName 9 = .ok (.ldc 137, 2) := by decide +kernel
theorem dX7_mustName_11 : decode cX7_mustName 11 = .ok (.invokevirtual 123, 3) := by decide +kernel
theorem dX7_mustName_14 : decode cX7_mustName 14 = .ok (.ifCond .ne 57, 3) := by decide +kernel
theorem dX7_mustName_17 : decode cX7_mustName 17 = .ok (.aload_n 0, 1) := by decide +kernel
theorem dX7_mustName_18 : decode cX7_mustName 18 = .ok (.ldc 139, 2) := by decide +kernel
theorem dX7_mustName_20 : decode cX7_mustName 20 = .ok (.invokevirtual 123, 3) := by decide +kernel
theorem dX7_mustName_23 : decode cX7_mustName 23 = .ok (.ifCond .ne 48, 3) := by decide +kernel
theorem dX7_mustName_26 : decode cX7_mustName 26 = .ok (.aload_n 0, 1) := by decide +kernel
theorem dX7_mustName_27 : decode cX7_mustName 27 = .ok (.ldc 141, 2) := by decide +kernel
theorem dX7_mustName_29 : decode cX7_mustName 29 = .ok (.invokevirtual 123, 3) := by decide +kernel
theorem dX7_mustName_32 : decode cX7_mustName 32 = .ok (.ifCond .ne 39, 3) := by decide +kernel
theorem dX7_mustName_35 : decode cX7_mustName 35 = .ok (.aload_n 0, 1) := by decide +kernel
theorem dX7_mustName_36 : decode cX7_mustName 36 = .ok (.ldc 143, 2) := by decide +kernel
theorem dX7_mustName_38 : decode cX7_mustName 38 = .ok (.invokevirtual 123, 3) := by decide +kernel
theorem dX7_mustName_41 : decode cX7_mustName 41 = .ok (.ifCond .ne 30, 3) := by decide +kernel
theorem dX7_mustName_44 : decode cX7_mustName 44 = .ok (.aload_n 0, 1) := by decide +kernel
theorem dX7_mustName_45 : decode cX7_mustName 45 = .ok (.ldc 145, 2) := by decide +kernel
theorem dX7_mustName_47 : decode cX7_mustName 47 = .ok (.invokevirtual 123, 3) := by decide +kernel
theorem dX7_mustName_50 : decode cX7_mustName 50 = .ok (.ifCond .ne 21, 3) := by decide +kernel
theorem dX7_mustName_53 : decode cX7_mustName 53 = .ok (.aload_n 0, 1) := by decide +kernel
theorem dX7_mustName_54 : decode cX7_mustName 54 = .ok (.ldc 147, 2) := by decide +kernel
theorem dX7_mustName_56 : decode cX7_mustName 56 = .ok (.invokevirtual 123, 3) := by decide +kernel
theorem dX7_mustName_59 : decode cX7_mustName 59 = .ok (.ifCond .ne 12, 3) := by decide +kernel
theorem dX7_mustName_62 : decode cX7_mustName 62 = .ok (.aload_n 0, 1) := by decide +kernel
theorem dX7_mustName_63 : decode cX7_mustName 63 = .ok (.ldc 149, 2) := by decide +kernel
theorem dX7_mustName_65 : decode cX7_mustName 65 = .ok (.invokevirtual 123, 3) := by decide +kernel
theorem dX7_mustName_68 : decode cX7_mustName 68 = .ok (.ifCond .eq 12, 3) := by decide +kernel
theorem dX7_mustName_71 : decode cX7_mustName 71 = .ok (.aload_n 0, 1) := by decide +kernel
theorem dX7_mustName_72 : decode cX7_mustName 72 = .ok (.iconst 1, 1) := by decide +kernel
theorem dX7_mustName_73 : decode cX7_mustName 73 = .ok (.aload_n 0, 1) := by decide +kernel
theorem dX7_mustName_74 : decode cX7_mustName 74 = .ok (.getfield 87, 3) := by decide +kernel
theorem dX7_mustName_77 : decode cX7_mustName 77 = .ok (.invokevirtual 133, 3) := by decide +kernel
theorem dX7_mustName_80 : decode cX7_mustName 80 = .ok (.return_, 1) := by decide +kernel
def f_X7_mustName : am_F := am_th (i_al 0) (am_th (i_gi 7 6) (am_th (i_ic (2)) (am_br (b_2 (fun x y => decide (¬ x = y))) (am_th (i_al 0) (am_th (i_ic (1)) (am_th (i_al 0) (am_th (i_gi 7 4) (am_th (i_cv 7 2 d_X7_wrong) (r_v)))))) (am_th (i_al 0) (am_th (i_sg 0) (am_th (i_cv 7 1 d_X7_isWord) (am_br (b_1 (fun x => decide (¬ x = 0))) (am_th (i_al 0) (am_th (i_ic (1)) (am_th (i_al 0) (am_th (i_gi 7 4) (am_th (i_cv 7 2 d_X7_wrong) (r_v)))))) (am_th (i_al 0) (am_th (i_sg 1) (am_th (i_cv 7 1 d_X7_isWord) (am_br (b_1 (fun x => decide (¬ x = 0))) (am_th (i_al 0) (am_th (i_ic (1)) (am_th (i_al 0) (am_th (i_gi 7 4) (am_th (i_cv 7 2 d_X7_wrong) (r_v)))))) (am_th (i_al 0) (am_th (i_sg 2) (am_th (i_cv 7 1 d_X7_isWord) (am_br (b_1 (fun x => decide (¬ x = 0))) (am_th (i_al 0) (am_th (i_ic (1)) (am_th (i_al 0) (am_th (i_gi 7 4) (am_th (i_cv 7 2 d_X7_wrong) (r_v)))))) (am_th (i_al 0) (am_th (i_sg 3) (am_th (i_cv 7 1 d_X7_isWord) (am_br (b_1 (fun x => decide (¬ x = 0))) (am_th (i_al 0) (am_th (i_ic (1)) (am_th (i_al 0) (am_th (i_gi 7 4) (am_th (i_cv 7 2 d_X7_wrong) (r_v)))))) (am_th (i_al 0) (am_th (i_sg 4) (am_th (i_cv 7 1 d_X7_isWord) (am_br (b_1 (fun x => decide (¬ x = 0))) (am_th (i_al 0) (am_th (i_ic (1)) (am_th (i_al 0) (am_th (i_gi 7 4) (am_th (i_cv 7 2 d_X7_wrong) (r_v)))))) (am_th (i_al 0) (am_th (i_sg 5) (am_th (i_cv 7 1 d_X7_isWord) (am_br (b_1 (fun x => decide (¬ x = 0))) (am_th (i_al 0) (am_th (i_ic (1)) (am_th (i_al 0) (am_th (i_gi 7 4) (am_th (i_cv 7 2 d_X7_wrong) (r_v)))))) (am_th (i_al 0) (am_th (i_sg 6) (am_th (i_cv 7 1 d_X7_isWord) (am_br (b_1 (fun x => decide (x = 0))) (r_v) (am_th (i_al 0) (am_th (i_ic (1)) (am_th (i_al 0) (am_th (i_gi 7 4) (am_th (i_cv 7 2 d_X7_wrong) (r_v)))))))))))))))))))))))))))))))))))))
def d_X7_mustName : am_D := am_den 1 f_X7_mustName
set_option maxHeartbeats 4000000 in
set_option maxRecDepth 100000 in
theorem b_X7_mustName : am_Body yX7_mustName cX7_mustName 1 none 5 108 f_X7_mustName := by
  intro p l e R s m args below meth c g n0 z0 r0 u0 C hr hn
  have C : am_Cx p l e R s m args below meth c g RX7 cX7_mustName 1 n0 z0 (am_len u0) (am_wt u0) 5 108 := C
  unfold f_X7_mustName
  exact (so_th (so_aload_n C dX7_mustName_0 rfl) (so_th (so_geti C fl_RX7_96 (by decide) dX7_mustName_1) (so_th (so_iconst C dX7_mustName_4 (by decide)) (so_br (so_icmp_ne C dX7_mustName_5 (by decide)) (so_th (so_aload_n C dX7_mustName_71 rfl) (so_th (so_iconst C dX7_mustName_72 (by decide)) (so_th (so_aload_n C dX7_mustName_73 rfl) (so_th (so_geti C fl_RX7_87 (by decide) dX7_mustName_74) (so_th (so_cv C m_X7_wrong rfl k_499 k_501 k_500 k_502 k_475 ⟨by decide, by decide, by decide +kernel⟩ (by decide) dX7_mustName_77) (so_rv C hr dX7_mustName_80)))))) (so_th (so_aload_n C dX7_mustName_8 rfl) (so_th (so_ldcS C dX7_mustName_9 (List.mem_of_getElem? (i := 21) rfl)) (so_th (so_cv C m_X7_isWord rfl k_487 k_489 k_488 k_490 k_475 ⟨by decide, by decide, by decide +kernel⟩ (by decide) dX7_mustName_11) (so_br (so_if_ne C dX7_mustName_14 (by decide)) (so_th (so_aload_n C dX7_mustName_71 rfl) (so_th (so_iconst C dX7_mustName_72 (by decide)) (so_th (so_aload_n C dX7_mustName_73 rfl) (so_th (so_geti C fl_RX7_87 (by decide) dX7_mustName_74) (so_th (so_cv C m_X7_wrong rfl k_499 k_501 k_500 k_502 k_475 ⟨by decide, by decide, by decide +kernel⟩ (by decide) dX7_mustName_77) (so_rv C hr dX7_mustName_80)))))) (so_th (so_aload_n C dX7_mustName_17 rfl) (so_th (so_ldcS C dX7_mustName_18 (List.mem_of_getElem? (i := 25) rfl)) (so_th (so_cv C m_X7_isWord rfl k_487 k_489 k_488 k_490 k_475 ⟨by decide, by decide, by decide +kernel⟩ (by decide) dX7_mustName_20) (so_br (so_if_ne C dX7_mustName_23 (by decide)) (so_th (so_aload_n C dX7_mustName_71 rfl) (so_th (so_iconst C dX7_mustName_72 (by decide)) (so_th (so_aload_n C dX7_mustName_73 rfl) (so_th (so_geti C fl_RX7_87 (by decide) dX7_mustName_74) (so_th (so_cv C m_X7_wrong rfl k_499 k_501 k_500 k_502 k_475 ⟨by decide, by decide, by decide +kernel⟩ (by decide) dX7_mustName_77) (so_rv C hr dX7_mustName_80)))))) (so_th (so_aload_n C dX7_mustName_26 rfl) (so_th (so_ldcS C dX7_mustName_27 (List.mem_of_getElem? (i := 26) rfl)) (so_th (so_cv C m_X7_isWord rfl k_487 k_489 k_488 k_490 k_475 ⟨by decide, by decide, by decide +kernel⟩ (by decide) dX7_mustName_29) (so_br (so_if_ne C dX7_mustName_32 (by decide)) (so_th (so_aload_n C dX7_mustName_71 rfl) (so_th (so_iconst C dX7_mustName_72 (by decide)) (so_th (so_aload_n C dX7_mustName_73 rfl) (so_th (so_geti C fl_RX7_87 (by decide) dX7_mustName_74) (so_th (so_cv C m_X7_wrong rfl k_499 k_501 k_500 k_502 k_475 ⟨by decide, by decide, by decide +kernel⟩ (by decide) dX7_mustName_77) (so_rv C hr dX7_mustName_80)))))) (so_th (so_aload_n C dX7_mustName_35 rfl) (so_th (so_ldcS C dX7_mustName_36 (List.mem_of_getElem? (i := 27) rfl)) (so_th (so_cv C m_X7_isWord rfl k_487 k_489 k_488 k_490 k_475 ⟨by decide, by decide, by decide +kernel⟩ (by decide) dX7_mustName_38) (so_br (so_if_ne C dX7_mustName_41 (by decide)) (so_th (so_aload_n C dX7_mustName_71 rfl) (so_th (so_iconst C dX7_mustName_72 (by decide)) (so_th (so_aload_n C dX7_mustName_73 rfl) (so_th (so_geti C fl_RX7_87 (by decide) dX7_mustName_74) (so_th (so_cv C m_X7_wrong rfl k_499 k_501 k_500 k_502 k_475 ⟨by decide, by decide, by decide +kernel⟩ (by decide) dX7_mustName_77) (so_rv C hr dX7_mustName_80)))))) (so_th (so_aload_n C dX7_mustName_44 rfl) (so_th (so_ldcS C dX7_mustName_45 (List.mem_of_getElem? (i := 28) rfl)) (so_th (so_cv C m_X7_isWord rfl k_487 k_489 k_488 k_490 k_475 ⟨by decide, by decide, by decide +kernel⟩ (by decide) dX7_mustName_47) (so_br (so_if_ne C dX7_mustName_50 (by decide)) (so_th (so_aload_n C dX7_mustName_71 rfl) (so_th (so_iconst C dX7_mustName_72 (by decide)) (so_th (so_aload_n C dX7_mustName_73 rfl) (so_th (so_geti C fl_RX7_87 (by decide) dX7_mustName_74) (so_th (so_cv C m_X7_wrong rfl k_499 k_501 k_500 k_502 k_475 ⟨by decide, by decide, by decide +kernel⟩ (by decide) dX7_mustName_77) (so_rv C hr dX7_mustName_80)))))) (so_th (so_aload_n C dX7_mustName_53 rfl) (so_th (so_ldcS C dX7_mustName_54 (List.mem_of_getElem? (i := 29) rfl)) (so_th (so_cv C m_X7_isWord rfl k_487 k_489 k_488 k_490 k_475 ⟨by decide, by decide, by decide +kernel⟩ (by decide) dX7_mustName_56) (so_br (so_if_ne C dX7_mustName_59 (by decide)) (so_th (so_aload_n C dX7_mustName_71 rfl) (so_th (so_iconst C dX7_mustName_72 (by decide)) (so_th (so_aload_n C dX7_mustName_73 rfl) (so_th (so_geti C fl_RX7_87 (by decide) dX7_mustName_74) (so_th (so_cv C m_X7_wrong rfl k_499 k_501 k_500 k_502 k_475 ⟨by decide, by decide, by decide +kernel⟩ (by decide) dX7_mustName_77) (so_rv C hr dX7_mustName_80)))))) (so_th (so_aload_n C dX7_mustName_62 rfl) (so_th (so_ldcS C dX7_mustName_63 (List.mem_of_getElem? (i := 30) rfl)) (so_th (so_cv C m_X7_isWord rfl k_487 k_489 k_488 k_490 k_475 ⟨by decide, by decide, by decide +kernel⟩ (by decide) dX7_mustName_65) (so_br (so_if_eq C dX7_mustName_68 (by decide)) (so_rv C hr dX7_mustName_80) (so_th (so_aload_n C dX7_mustName_71 rfl) (so_th (so_iconst C dX7_mustName_72 (by decide)) (so_th (so_aload_n C dX7_mustName_73 rfl) (so_th (so_geti C fl_RX7_87 (by decide) dX7_mustName_74) (so_th (so_cv C m_X7_wrong rfl k_499 k_501 k_500 k_502 k_475 ⟨by decide, by decide, by decide +kernel⟩ (by decide) dX7_mustName_77) (so_rv C hr dX7_mustName_80))))))))))))))))))))))))))))))))))))))
theorem m_X7_mustName : am_M yX7_mustName cX7_mustName 1 none 5 108 d_X7_mustName := am_M_of (by decide +kernel) b_X7_mustName
theorem dX7_find_0 : decode cX7_find 0 = .ok (.iconst 0, 1) := by decide +kernel
theorem dX7_find_1 : decode cX7_find 1 = .ok (.istore_n 1, 1) := by decide +kernel
theorem dX7_find_2 : decode cX7_find 2 = .ok (.iload_n 1, 1) := by decide +kernel
theorem dX7_find_3 : decode cX7_find 3 = .ok (.bipush 12, 2) := by decide +kernel
theorem dX7_find_5 : decode cX7_find 5 = .ok (.if_icmp .ge 98, 3) := by decide +kernel
theorem dX7_find_8 : decode cX7_find 8 = .ok (.aload_n 0, 1) := by decide +kernel
theorem dX7_find_9 : decode cX7_find 9 = .ok (.getfield 23, 3) := by decide +kernel
theorem dX7_find_12 : decode cX7_find 12 = .ok (.bipush 112, 2) := by decide +kernel
theorem dX7_find_14 : decode cX7_find 14 = .ok (.iload_n 1, 1) := by decide +kernel
theorem dX7_find_15 : decode cX7_find 15 = .ok (.iadd, 1) := by decide +kernel
theorem dX7_find_16 : decode cX7_find 16 = .ok (.iaload, 1) := by decide +kernel
theorem dX7_find_17 : decode cX7_find 17 = .ok (.ifCond .le 23, 3) := by decide +kernel
theorem dX7_find_20 : decode cX7_find 20 = .ok (.aload_n 0, 1) := by decide +kernel
theorem dX7_find_21 : decode cX7_find 21 = .ok (.getfield 23, 3) := by decide +kernel
theorem dX7_find_24 : decode cX7_find 24 = .ok (.bipush 112, 2) := by decide +kernel
theorem dX7_find_26 : decode cX7_find 26 = .ok (.iload_n 1, 1) := by decide +kernel
theorem dX7_find_27 : decode cX7_find 27 = .ok (.iadd, 1) := by decide +kernel
theorem dX7_find_28 : decode cX7_find 28 = .ok (.iaload, 1) := by decide +kernel
theorem dX7_find_29 : decode cX7_find 29 = .ok (.aload_n 0, 1) := by decide +kernel
theorem dX7_find_30 : decode cX7_find 30 = .ok (.getfield 90, 3) := by decide +kernel
theorem dX7_find_33 : decode cX7_find 33 = .ok (.if_icmp .ne 7, 3) := by decide +kernel
theorem dX7_find_36 : decode cX7_find 36 = .ok (.iconst 1, 1) := by decide +kernel
theorem dX7_find_37 : decode cX7_find 37 = .ok (.goto 4, 3) := by decide +kernel
theorem dX7_find_40 : decode cX7_find 40 = .ok (.iconst 0, 1) := by decide +kernel
theorem dX7_find_41 : decode cX7_find 41 = .ok (.istore_n 2, 1) := by decide +kernel
theorem dX7_find_42 : decode cX7_find 42 = .ok (.iconst 0, 1) := by decide +kernel
theorem dX7_find_43 : decode cX7_find 43 = .ok (.istore_n 3, 1) := by decide +kernel
theorem dX7_find_44 : decode cX7_find 44 = .ok (.iload_n 3, 1) := by decide +kernel
theorem dX7_find_45 : decode cX7_find 45 = .ok (.aload_n 0, 1) := by decide +kernel
theorem dX7_find_46 : decode cX7_find 46 = .ok (.getfield 90, 3) := by decide +kernel
theorem dX7_find_49 : decode cX7_find 49 = .ok (.if_icmp .ge 42, 3) := by decide +kernel
theorem dX7_find_52 : decode cX7_find 52 = .ok (.iload_n 2, 1) := by decide +kernel
theorem dX7_find_53 : decode cX7_find 53 = .ok (.ifCond .eq 38, 3) := by decide +kernel
theorem dX7_find_56 : decode cX7_find 56 = .ok (.aload_n 0, 1) := by decide +kernel
theorem dX7_find_57 : decode cX7_find 57 = .ok (.getfield 23, 3) := by decide +kernel
theorem dX7_find_60 : decode cX7_find 60 = .ok (.bipush 124, 2) := by decide +kernel
theorem dX7_find_62 : decode cX7_find 62 = .ok (.bipush 8, 2) := by decide +kernel
theorem dX7_find_64 : decode cX7_find 64 = .ok (.iload_n 1, 1) := by decide +kernel
theorem dX7_find_65 : decode cX7_find 65 = .ok (.imul, 1) := by decide +kernel
theorem dX7_find_66 : decode cX7_find 66 = .ok (.iadd, 1) := by decide +kernel
theorem dX7_find_67 : decode cX7_find 67 = .ok (.iload_n 3, 1) := by decide +kernel
theorem dX7_find_68 : decode cX7_find 68 = .ok (.iadd, 1) := by decide +kernel
theorem dX7_find_69 : decode cX7_find 69 = .ok (.iaload, 1) := by decide +kernel
theorem dX7_find_70 : decode cX7_find 70 = .ok (.aload_n 0, 1) := by decide +kernel
theorem dX7_find_71 : decode cX7_find 71 = .ok (.getfield 17, 3) := by decide +kernel
theorem dX7_find_74 : decode cX7_find 74 = .ok (.iload_n 3, 1) := by decide +kernel
theorem dX7_find_75 : decode cX7_find 75 = .ok (.iaload, 1) := by decide +kernel
theorem dX7_find_76 : decode cX7_find 76 = .ok (.if_icmp .ne 7, 3) := by decide +kernel
theorem dX7_find_79 : decode cX7_find 79 = .ok (.iconst 1, 1) := by decide +kernel
theorem dX7_find_80 : decode cX7_find 80 = .ok (.goto 4, 3) := by decide +kernel
theorem dX7_find_83 : decode cX7_find 83 = .ok (.iconst 0, 1) := by decide +kernel
theorem dX7_find_84 : decode cX7_find 84 = .ok (.istore_n 2, 1) := by decide +kernel
theorem dX7_find_85 : decode cX7_find 85 = .ok (.iinc 3 1, 3) := by decide +kernel
theorem dX7_find_88 : decode cX7_find 88 = .ok (.goto (-44), 3) := by decide +kernel
theorem dX7_find_91 : decode cX7_find 91 = .ok (.iload_n 2, 1) := by decide +kernel
theorem dX7_find_92 : decode cX7_find 92 = .ok (.ifCond .eq 5, 3) := by decide +kernel
theorem dX7_find_95 : decode cX7_find 95 = .ok (.iload_n 1, 1) := by decide +kernel
theorem dX7_find_96 : decode cX7_find 96 = .ok (.ireturn, 1) := by decide +kernel
theorem dX7_find_97 : decode cX7_find 97 = .ok (.iinc 1 1, 3) := by decide +kernel
theorem dX7_find_100 : decode cX7_find 100 = .ok (.goto (-98), 3) := by decide +kernel
theorem dX7_find_103 : decode cX7_find 103 = .ok (.iconst (-1), 1) := by decide +kernel
theorem dX7_find_104 : decode cX7_find 104 = .ok (.ireturn, 1) := by decide +kernel
def f_X7_find_l44 : am_F := am_th (i_il 3) (am_th (i_al 0) (am_th (i_gi 7 8) (am_br (b_2 (fun x y => decide (y ≤ x))) (am_th (i_il 2) (am_br (b_1 (fun x => decide (x = 0))) (am_th (i_inc 1 (1)) (am_to 2)) (am_th (i_il 1) (r_i)))) (am_th (i_il 2) (am_br (b_1 (fun x => decide (x = 0))) (am_th (i_il 2) (am_br (b_1 (fun x => decide (x = 0))) (am_th (i_inc 1 (1)) (am_to 2)) (am_th (i_il 1) (r_i)))) (am_th (i_al 0) (am_th (i_gr 7 16) (am_th (i_ic (124)) (am_th (i_ic (8)) (am_th (i_il 1) (am_th (i_2 (fun x y => x * y)) (am_th (i_2 (fun x y => x + y)) (am_th (i_il 3) (am_th (i_2 (fun x y => x + y)) (am_th (i_ia 0) (am_th (i_al 0) (am_th (i_gr 7 12) (am_th (i_il 3) (am_th (i_ia 0) (am_sq 84 (am_br (b_2 (fun x y => decide (¬ x = y))) (am_th (i_ic (0)) (am_to 84)) (am_th (i_ic (1)) (am_to 84))) (am_th (i_is 2) (am_th (i_inc 3 (1)) (am_to 44)))))))))))))))))))))))
def f_X7_find_l2 : am_F := am_th (i_il 1) (am_th (i_ic (12)) (am_br (b_2 (fun x y => decide (y ≤ x))) (am_to 103) (am_th (i_al 0) (am_th (i_gr 7 16) (am_th (i_ic (112)) (am_th (i_il 1) (am_th (i_2 (fun x y => x + y)) (am_th (i_ia 0) (am_sq 41 (am_br (b_1 (fun x => decide (x ≤ 0))) (am_th (i_ic (0)) (am_to 41)) (am_th (i_al 0) (am_th (i_gr 7 16) (am_th (i_ic (112)) (am_th (i_il 1) (am_th (i_2 (fun x y => x + y)) (am_th (i_ia 0) (am_th (i_al 0) (am_th (i_gi 7 8) (am_br (b_2 (fun x y => decide (¬ x = y))) (am_th (i_ic (0)) (am_to 41)) (am_th (i_ic (1)) (am_to 41)))))))))))) (am_th (i_is 2) (am_th (i_ic (0)) (am_th (i_is 3) (am_lp 5000 44 f_X7_find_l44)))))))))))))
def f_X7_find : am_F := am_th (i_ic (0)) (am_th (i_is 1) (am_sq 103 (am_lp 5000 2 f_X7_find_l2) (am_th (i_ic (-1)) (r_i))))
def d_X7_find : am_D := am_den 4 f_X7_find
set_option maxHeartbeats 4000000 in
set_option maxRecDepth 100000 in
theorem b_X7_find : am_Body yX7_find cX7_find 4 (some .int) 0 0 f_X7_find := by
  intro p l e R s m args below meth c g n0 z0 r0 u0 C hr hn
  have C : am_Cx p l e R s m args below meth c g RX7 cX7_find 4 n0 z0 (am_len u0) (am_wt u0) 0 0 := C
  have l44 : am_Snd (am_GM p l e R s m args below meth c g 4 n0 z0 r0 u0) (am_Rt r0 u0) 44 (f_X7_find_l44) := by
    unfold f_X7_find_l44
    exact (so_th (so_iload_n C dX7_find_44 rfl) (so_th (so_aload_n C dX7_find_45 rfl) (so_th (so_geti C fl_RX7_90 (by decide) dX7_find_46) (so_br (so_icmp_ge C dX7_find_49 (by decide)) (so_th (so_iload_n C dX7_find_91 rfl) (so_br (so_if_eq C dX7_find_92 (by decide)) (so_th (so_iinc C dX7_find_97 (by decide) (by decide)) (so_goto C dX7_find_100 (by decide) (so_to))) (so_th (so_iload_n C dX7_find_95 rfl) (so_ri C hr dX7_find_96)))) (so_th (so_iload_n C dX7_find_52 rfl) (so_br (so_if_eq C dX7_find_53 (by decide)) (so_th (so_iload_n C dX7_find_91 rfl) (so_br (so_if_eq C dX7_find_92 (by decide)) (so_th (so_iinc C dX7_find_97 (by decide) (by decide)) (so_goto C dX7_find_100 (by decide) (so_to))) (so_th (so_iload_n C dX7_find_95 rfl) (so_ri C hr dX7_find_96)))) (so_th (so_aload_n C dX7_find_56 rfl) (so_th (so_getr C fl_RX7_23 dX7_find_57) (so_th (so_bipush C dX7_find_60 (by decide)) (so_th (so_bipush C dX7_find_62 (by decide)) (so_th (so_iload_n C dX7_find_64 rfl) (so_th (so_imul C dX7_find_65) (so_th (so_iadd C dX7_find_66) (so_th (so_iload_n C dX7_find_67 rfl) (so_th (so_iadd C dX7_find_68) (so_th (so_iald C dX7_find_69) (so_th (so_aload_n C dX7_find_70 rfl) (so_th (so_getr C fl_RX7_17 dX7_find_71) (so_th (so_iload_n C dX7_find_74 rfl) (so_th (so_iald C dX7_find_75) (so_sq (so_br (so_icmp_ne C dX7_find_76 (by decide)) (so_th (so_iconst C dX7_find_83 (by decide)) (so_to)) (so_th (so_iconst C dX7_find_79 (by decide)) (so_goto C dX7_find_80 (by decide) (so_to)))) (so_th (so_istore_n C dX7_find_84 rfl (by decide)) (so_th (so_iinc C dX7_find_85 (by decide) (by decide)) (so_goto C dX7_find_88 (by decide) (so_to)))))))))))))))))))))))))
  have l2 : am_Snd (am_GM p l e R s m args below meth c g 4 n0 z0 r0 u0) (am_Rt r0 u0) 2 (f_X7_find_l2) := by
    unfold f_X7_find_l2
    exact (so_th (so_iload_n C dX7_find_2 rfl) (so_th (so_bipush C dX7_find_3 (by decide)) (so_br (so_icmp_ge C dX7_find_5 (by decide)) (so_to) (so_th (so_aload_n C dX7_find_8 rfl) (so_th (so_getr C fl_RX7_23 dX7_find_9) (so_th (so_bipush C dX7_find_12 (by decide)) (so_th (so_iload_n C dX7_find_14 rfl) (so_th (so_iadd C dX7_find_15) (so_th (so_iald C dX7_find_16) (so_sq (so_br (so_if_le C dX7_find_17 (by decide)) (so_th (so_iconst C dX7_find_40 (by decide)) (so_to)) (so_th (so_aload_n C dX7_find_20 rfl) (so_th (so_getr C fl_RX7_23 dX7_find_21) (so_th (so_bipush C dX7_find_24 (by decide)) (so_th (so_iload_n C dX7_find_26 rfl) (so_th (so_iadd C dX7_find_27) (so_th (so_iald C dX7_find_28) (so_th (so_aload_n C dX7_find_29 rfl) (so_th (so_geti C fl_RX7_90 (by decide) dX7_find_30) (so_br (so_icmp_ne C dX7_find_33 (by decide)) (so_th (so_iconst C dX7_find_40 (by decide)) (so_to)) (so_th (so_iconst C dX7_find_36 (by decide)) (so_goto C dX7_find_37 (by decide) (so_to))))))))))))) (so_th (so_istore_n C dX7_find_41 rfl (by decide)) (so_th (so_iconst C dX7_find_42 (by decide)) (so_th (so_istore_n C dX7_find_43 rfl (by decide)) (so_lp l44 5000))))))))))))))
  unfold f_X7_find
  exact (so_th (so_iconst C dX7_find_0 (by decide)) (so_th (so_istore_n C dX7_find_1 rfl (by decide)) (so_sq (so_lp l2 5000) (so_th (so_iconst C dX7_find_103 (by decide)) (so_ri C hr dX7_find_104)))))
theorem m_X7_find : am_M yX7_find cX7_find 4 (some .int) 0 0 d_X7_find := am_M_of (by decide +kernel) b_X7_find
theorem dX7_newName_0 : decode cX7_newName 0 = .ok (.aload_n 0, 1) := by decide +kernel
theorem dX7_newName_1 : decode cX7_newName 1 = .ok (.getfield 106, 3) := by decide +kernel
theorem dX7_newName_4 : decode cX7_newName 4 = .ok (.ifCond .eq 4, 3) := by decide +kernel
theorem dX7_newName_7 : decode cX7_newName 7 = .ok (.return_, 1) := by decide +kernel
theorem dX7_newName_8 : decode cX7_newName 8 = .ok (.aload_n 0, 1) := by decide +kernel
theorem dX7_newName_9 : decode cX7_newName 9 = .ok (.invokevirtual 151, 3) := by decide +kernel
theorem dX7_newName_12 : decode cX7_newName 12 = .ok (.aload_n 0, 1) := by decide +kernel
theorem dX7_newName_13 : decode cX7_newName 13 = .ok (.getfield 106, 3) := by decide +kernel
theorem dX7_newName_16 : decode cX7_newName 16 = .ok (.ifCond .ne 19, 3) := by decide +kernel
theorem dX7_newName_19 : decode cX7_newName 19 = .ok (.aload_n 0, 1) := by decide +kernel
theorem dX7_newName_20 : decode cX7_newName 20 = .ok (.invokevirtual 154, 3) := by decide +kernel
theorem dX7_newName_23 : decode cX7_newName 23 = .ok (.ifCond .lt 12, 3) := by decide +kernel
theorem dX7_newName_26 : decode cX7_newName 26 = .ok (.aload_n 0, 1) := by decide +kernel
theorem dX7_newName_27 : decode cX7_newName 27 = .ok (.iconst 3, 1) := by decide +kernel
theorem dX7_newName_28 : decode cX7_newName 28 = .ok (.aload_n 0, 1) := by decide +kernel
theorem dX7_newName_29 : decode cX7_newName 29 = .ok (.getfield 87, 3) := by decide +kernel
theorem dX7_newName_32 : decode cX7_newName 32 = .ok (.invokevirtual 133, 3) := by decide +kernel
theorem dX7_newName_35 : decode cX7_newName 35 = .ok (.aload_n 0, 1) := by decide +kernel
theorem dX7_newName_36 : decode cX7_newName 36 = .ok (.getfield 106, 3) := by decide +kernel
theorem dX7_newName_39 : decode cX7_newName 39 = .ok (.ifCond .eq 4, 3) := by decide +kernel
theorem dX7_newName_42 : decode cX7_newName 42 = .ok (.return_, 1) := by decide +kernel
theorem dX7_newName_43 : decode cX7_newName 43 = .ok (.iconst 0, 1) := by decide +kernel
theorem dX7_newName_44 : decode cX7_newName 44 = .ok (.istore_n 2, 1) := by decide +kernel
theorem dX7_newName_45 : decode cX7_newName 45 = .ok (.iload_n 2, 1) := by decide +kernel
theorem dX7_newName_46 : decode cX7_newName 46 = .ok (.aload_n 0, 1) := by decide +kernel
theorem dX7_newName_47 : decode cX7_newName 47 = .ok (.getfield 90, 3) := by decide +kernel
theorem dX7_newName_50 : decode cX7_newName 50 = .ok (.if_icmp .ge 29, 3) := by decide +kernel
theorem dX7_newName_53 : decode cX7_newName 53 = .ok (.aload_n 0, 1) := by decide +kernel
theorem dX7_newName_54 : decode cX7_newName 54 = .ok (.getfield 23, 3) := by decide +kernel
theorem dX7_newName_57 : decode cX7_newName 57 = .ok (.bipush 124, 2) := by decide +kernel
theorem dX7_newName_59 : decode cX7_newName 59 = .ok (.bipush 8, 2) := by decide +kernel
theorem dX7_newName_61 : decode cX7_newName 61 = .ok (.iload_n 1, 1) := by decide +kernel
theorem dX7_newName_62 : decode cX7_newName 62 = .ok (.imul, 1) := by decide +kernel
theorem dX7_newName_63 : decode cX7_newName 63 = .ok (.iadd, 1) := by decide +kernel
theorem dX7_newName_64 : decode cX7_newName 64 = .ok (.iload_n 2, 1) := by decide +kernel
theorem dX7_newName_65 : decode cX7_newName 65 = .ok (.iadd, 1) := by decide +kernel
theorem dX7_newName_66 : decode cX7_newName 66 = .ok (.aload_n 0, 1) := by decide +kernel
theorem dX7_newName_67 : decode cX7_newName 67 = .ok (.getfield 17, 3) := by decide +kernel
theorem dX7_newName_70 : decode cX7_newName 70 = .ok (.iload_n 2, 1) := by decide +kernel
theorem dX7_newName_71 : decode cX7_newName 71 = .ok (.iaload, 1) := by decide +kernel
theorem dX7_newName_72 : decode cX7_newName 72 = .ok (.iastore, 1) := by decide +kernel
theorem dX7_newName_73 : decode cX7_newName 73 = .ok (.iinc 2 1, 3) := by decide +kernel
theorem dX7_newName_76 : decode cX7_newName 76 = .ok (.goto (-31), 3) := by decide +kernel
theorem dX7_newName_79 : decode cX7_newName 79 = .ok (.aload_n 0, 1) := by decide +kernel
theorem dX7_newName_80 : decode cX7_newName 80 = .ok (.getfield 23, 3) := by decide +kernel
theorem dX7_newName_83 : decode cX7_newName 83 = .ok (.bipush 112, 2) := by decide +kernel
theorem dX7_newName_85 : decode cX7_newName 85 = .ok (.iload_n 1, 1) := by decide +kernel
theorem dX7_newName_86 : decode cX7_newName 86 = .ok (.iadd, 1) := by decide +kernel
theorem dX7_newName_87 : decode cX7_newName 87 = .ok (.aload_n 0, 1) := by decide +kernel
theorem dX7_newName_88 : decode cX7_newName 88 = .ok (.getfield 90, 3) := by decide +kernel
theorem dX7_newName_91 : decode cX7_newName 91 = .ok (.iastore, 1) := by decide +kernel
theorem dX7_newName_92 : decode cX7_newName 92 = .ok (.aload_n 0, 1) := by decide +kernel
theorem dX7_newName_93 : decode cX7_newName 93 = .ok (.invokevirtual 127, 3) := by decide +kernel
theorem dX7_newName_96 : decode cX7_newName 96 = .ok (.return_, 1) := by decide +kernel
def f_X7_newName_l45 : am_F := am_th (i_il 2) (am_th (i_al 0) (am_th (i_gi 7 8) (am_br (b_2 (fun x y => decide (y ≤ x))) (am_to 79) (am_th (i_al 0) (am_th (i_gr 7 16) (am_th (i_ic (124)) (am_th (i_ic (8)) (am_th (i_il 1) (am_th (i_2 (fun x y => x * y)) (am_th (i_2 (fun x y => x + y)) (am_th (i_il 2) (am_th (i_2 (fun x y => x + y)) (am_th (i_al 0) (am_th (i_gr 7 12) (am_th (i_il 2) (am_th (i_ia 0) (am_th (i_iS) (am_th (i_inc 2 (1)) (am_to 45)))))))))))))))))))
def f_X7_newName : am_F := am_th (i_al 0) (am_th (i_gi 7 13) (am_br (b_1 (fun x => decide (x = 0))) (am_th (i_al 0) (am_th (i_cv 7 0 d_X7_mustName) (am_th (i_al 0) (am_th (i_gi 7 13) (am_br (b_1 (fun x => decide (¬ x = 0))) (am_th (i_al 0) (am_th (i_gi 7 13) (am_br (b_1 (fun x => decide (x = 0))) (am_th (i_ic (0)) (am_th (i_is 2) (am_sq 79 (am_lp 5000 45 f_X7_newName_l45) (am_th (i_al 0) (am_th (i_gr 7 16) (am_th (i_ic (112)) (am_th (i_il 1) (am_th (i_2 (fun x y => x + y)) (am_th (i_al 0) (am_th (i_gi 7 8) (am_th (i_iS) (am_th (i_al 0) (am_th (i_cv 7 0 d_X7_next) (r_v)))))))))))))) (r_v)))) (am_th (i_al 0) (am_th (i_cv 7 0 d_X7_find) (am_br (b_1 (fun x => decide (x < 0))) (am_th (i_al 0) (am_th (i_gi 7 13) (am_br (b_1 (fun x => decide (x = 0))) (am_th (i_ic (0)) (am_th (i_is 2) (am_sq 79 (am_lp 5000 45 f_X7_newName_l45) (am_th (i_al 0) (am_th (i_gr 7 16) (am_th (i_ic (112)) (am_th (i_il 1) (am_th (i_2 (fun x y => x + y)) (am_th (i_al 0) (am_th (i_gi 7 8) (am_th (i_iS) (am_th (i_al 0) (am_th (i_cv 7 0 d_X7_next) (r_v)))))))))))))) (r_v)))) (am_th (i_al 0) (am_th (i_ic (3)) (am_th (i_al 0) (am_th (i_gi 7 4) (am_th (i_cv 7 2 d_X7_wrong) (am_th (i_al 0) (am_th (i_gi 7 13) (am_br (b_1 (fun x => decide (x = 0))) (am_th (i_ic (0)) (am_th (i_is 2) (am_sq 79 (am_lp 5000 45 f_X7_newName_l45) (am_th (i_al 0) (am_th (i_gr 7 16) (am_th (i_ic (112)) (am_th (i_il 1) (am_th (i_2 (fun x y => x + y)) (am_th (i_al 0) (am_th (i_gi 7 8) (am_th (i_iS) (am_th (i_al 0) (am_th (i_cv 7 0 d_X7_next) (r_v)))))))))))))) (r_v))))))))))))))))) (r_v)))
def d_X7_newName : am_D := am_den 3 f_X7_newName
set_option maxHeartbeats 4000000 in
set_option maxRecDepth 100000 in
theorem b_X7_newName : am_Body yX7_newName cX7_newName 3 none 6 128 f_X7_newName := by
  intro p l e R s m args below meth c g n0 z0 r0 u0 C hr hn
  have C : am_Cx p l e R s m args below meth c g RX7 cX7_newName 3 n0 z0 (am_len u0) (am_wt u0) 6 128 := C
  have l45 : am_Snd (am_GM p l e R s m args below meth c g 3 n0 z0 r0 u0) (am_Rt r0 u0) 45 (f_X7_newName_l45) := by
    unfold f_X7_newName_l45
    exact (so_th (so_iload_n C dX7_newName_45 rfl) (so_th (so_aload_n C dX7_newName_46 rfl) (so_th (so_geti C fl_RX7_90 (by decide) dX7_newName_47) (so_br (so_icmp_ge C dX7_newName_50 (by decide)) (so_to) (so_th (so_aload_n C dX7_newName_53 rfl) (so_th (so_getr C fl_RX7_23 dX7_newName_54) (so_th (so_bipush C dX7_newName_57 (by decide)) (so_th (so_bipush C dX7_newName_59 (by decide)) (so_th (so_iload_n C dX7_newName_61 rfl) (so_th (so_imul C dX7_newName_62) (so_th (so_iadd C dX7_newName_63) (so_th (so_iload_n C dX7_newName_64 rfl) (so_th (so_iadd C dX7_newName_65) (so_th (so_aload_n C dX7_newName_66 rfl) (so_th (so_getr C fl_RX7_17 dX7_newName_67) (so_th (so_iload_n C dX7_newName_70 rfl) (so_th (so_iald C dX7_newName_71) (so_th (so_iast C dX7_newName_72) (so_th (so_iinc C dX7_newName_73 (by decide) (by decide)) (so_goto C dX7_newName_76 (by decide) (so_to)))))))))))))))))))))
  unfold f_X7_newName
  exact (so_th (so_aload_n C dX7_newName_0 rfl) (so_th (so_geti C fl_RX7_106 (by decide) dX7_newName_1) (so_br (so_if_eq C dX7_newName_4 (by decide)) (so_th (so_aload_n C dX7_newName_8 rfl) (so_th (so_cv C m_X7_mustName rfl k_503 k_505 k_504 k_506 k_475 ⟨by decide, by decide, by decide +kernel⟩ (by decide) dX7_newName_9) (so_th (so_aload_n C dX7_newName_12 rfl) (so_th (so_geti C fl_RX7_106 (by decide) dX7_newName_13) (so_br (so_if_ne C dX7_newName_16 (by decide)) (so_th (so_aload_n C dX7_newName_35 rfl) (so_th (so_geti C fl_RX7_106 (by decide) dX7_newName_36) (so_br (so_if_eq C dX7_newName_39 (by decide)) (so_th (so_iconst C dX7_newName_43 (by decide)) (so_th (so_istore_n C dX7_newName_44 rfl (by decide)) (so_sq (so_lp l45 5000) (so_th (so_aload_n C dX7_newName_79 rfl) (so_th (so_getr C fl_RX7_23 dX7_newName_80) (so_th (so_bipush C dX7_newName_83 (by decide)) (so_th (so_iload_n C dX7_newName_85 rfl) (so_th (so_iadd C dX7_newName_86) (so_th (so_aload_n C dX7_newName_87 rfl) (so_th (so_geti C fl_RX7_90 (by decide) dX7_newName_88) (so_th (so_iast C dX7_newName_91) (so_th (so_aload_n C dX7_newName_92 rfl) (so_th (so_cv C m_X7_next rfl k_491 k_493 k_492 k_494 k_475 ⟨by decide, by decide, by decide +kernel⟩ (by decide) dX7_newName_93) (so_rv C hr dX7_newName_96)))))))))))))) (so_rv C hr dX7_newName_42)))) (so_th (so_aload_n C dX7_newName_19 rfl) (so_th (so_cv C m_X7_find rfl k_507 k_509 k_508 k_510 k_475 ⟨by decide, by decide, by decide +kernel⟩ (by decide) dX7_newName_20) (so_br (so_if_lt C dX7_newName_23 (by decide)) (so_th (so_aload_n C dX7_newName_35 rfl) (so_th (so_geti C fl_RX7_106 (by decide) dX7_newName_36) (so_br (so_if_eq C dX7_newName_39 (by decide)) (so_th (so_iconst C dX7_newName_43 (by decide)) (so_th (so_istore_n C dX7_newName_44 rfl (by decide)) (so_sq (so_lp l45 5000) (so_th (so_aload_n C dX7_newName_79 rfl) (so_th (so_getr C fl_RX7_23 dX7_newName_80) (so_th (so_bipush C dX7_newName_83 (by decide)) (so_th (so_iload_n C dX7_newName_85 rfl) (so_th (so_iadd C dX7_newName_86) (so_th (so_aload_n C dX7_newName_87 rfl) (so_th (so_geti C fl_RX7_90 (by decide) dX7_newName_88) (so_th (so_iast C dX7_newName_91) (so_th (so_aload_n C dX7_newName_92 rfl) (so_th (so_cv C m_X7_next rfl k_491 k_493 k_492 k_494 k_475 ⟨by decide, by decide, by decide +kernel⟩ (by decide) dX7_newName_93) (so_rv C hr dX7_newName_96)))))))))))))) (so_rv C hr dX7_newName_42)))) (so_th (so_aload_n C dX7_newName_26 rfl) (so_th (so_iconst C dX7_newName_27 (by decide)) (so_th (so_aload_n C dX7_newName_28 rfl) (so_th (so_geti C fl_RX7_87 (by decide) dX7_newName_29) (so_th (so_cv C m_X7_wrong rfl k_499 k_501 k_500 k_502 k_475 ⟨by decide, by decide, by decide +kernel⟩ (by decide) dX7_newName_32) (so_th (so_aload_n C dX7_newName_35 rfl) (so_th (so_geti C fl_RX7_106 (by decide) dX7_newName_36) (so_br (so_if_eq C dX7_newName_39 (by decide)) (so_th (so_iconst C dX7_newName_43 (by decide)) (so_th (so_istore_n C dX7_newName_44 rfl (by decide)) (so_sq (so_lp l45 5000) (so_th (so_aload_n C dX7_newName_79 rfl) (so_th (so_getr C fl_RX7_23 dX7_newName_80) (so_th (so_bipush C dX7_newName_83 (by decide)) (so_th (so_iload_n C dX7_newName_85 rfl) (so_th (so_iadd C dX7_newName_86) (so_th (so_aload_n C dX7_newName_87 rfl) (so_th (so_geti C fl_RX7_90 (by decide) dX7_newName_88) (so_th (so_iast C dX7_newName_91) (so_th (so_aload_n C dX7_newName_92 rfl) (so_th (so_cv C m_X7_next rfl k_491 k_493 k_492 k_494 k_475 ⟨by decide, by decide, by decide +kernel⟩ (by decide) dX7_newName_93) (so_rv C hr dX7_newName_96)))))))))))))) (so_rv C hr dX7_newName_42))))))))))))))))) (so_rv C hr dX7_newName_7))))
theorem m_X7_newName : am_M yX7_newName cX7_newName 3 none 6 128 d_X7_newName := am_M_of (by decide +kernel) b_X7_newName
theorem dX7_named_0 : decode cX7_named 0 = .ok (.aload_n 0, 1) := by decide +kernel
theorem dX7_named_1 : decode cX7_named 1 = .ok (.getfield 106, 3) := by decide +kernel
theorem dX7_named_4 : decode cX7_named 4 = .ok (.ifCond .eq 5, 3) := by decide +kernel
theorem dX7_named_7 : decode cX7_named 7 = .ok (.iconst 0, 1) := by decide +kernel
theorem dX7_named_8 : decode cX7_named 8 = .ok (.ireturn, 1) := by decide +kernel
theorem dX7_named_9 : decode cX7_named 9 = .ok (.aload_n 0, 1) := by decide +kernel
theorem dX7_named_10 : decode cX7_named 10 = .ok (.invokevirtual 151, 3) := by decide +kernel
theorem dX7_named_13 : decode cX7_named 13 = .ok (.aload_n 0, 1) := by decide +kernel
theorem dX7_named_14 : decode cX7_named 14 = .ok (.getfield 106, 3) := by decide +kernel
theorem dX7_named_17 : decode cX7_named 17 = .ok (.ifCond .eq 5, 3) := by decide +kernel
theorem dX7_named_20 : decode cX7_named 20 = .ok (.iconst 0, 1) := by decide +kernel
theorem dX7_named_21 : decode cX7_named 21 = .ok (.ireturn, 1) := by decide +kernel
theorem dX7_named_22 : decode cX7_named 22 = .ok (.aload_n 0, 1) := by decide +kernel
theorem dX7_named_23 : decode cX7_named 23 = .ok (.invokevirtual 154, 3) := by decide +kernel
theorem dX7_named_26 : decode cX7_named 26 = .ok (.istore_n 3, 1) := by decide +kernel
theorem dX7_named_27 : decode cX7_named 27 = .ok (.iload_n 3, 1) := by decide +kernel
theorem dX7_named_28 : decode cX7_named 28 = .ok (.iload_n 1, 1) := by decide +kernel
theorem dX7_named_29 : decode cX7_named 29 = .ok (.iload_n 2, 1) := by decide +kernel
theorem dX7_named_30 : decode cX7_named 30 = .ok (.invokestatic 157, 3) := by decide +kernel
theorem dX7_named_33 : decode cX7_named 33 = .ok (.ifCond .ne 12, 3) := by decide +kernel
theorem dX7_named_36 : decode cX7_named 36 = .ok (.aload_n 0, 1) := by decide +kernel
theorem dX7_named_37 : decode cX7_named 37 = .ok (.iconst 2, 1) := by decide +kernel
theorem dX7_named_38 : decode cX7_named 38 = .ok (.aload_n 0, 1) := by decide +kernel
theorem dX7_named_39 : decode cX7_named 39 = .ok (.getfield 87, 3) := by decide +kernel
theorem dX7_named_42 : decode cX7_named 42 = .ok (.invokevirtual 133, 3) := by decide +kernel
theorem dX7_named_45 : decode cX7_named 45 = .ok (.aload_n 0, 1) := by decide +kernel
theorem dX7_named_46 : decode cX7_named 46 = .ok (.getfield 106, 3) := by decide +kernel
theorem dX7_named_49 : decode cX7_named 49 = .ok (.ifCond .eq 7, 3) := by decide +kernel
theorem dX7_named_52 : decode cX7_named 52 = .ok (.iconst 0, 1) := by decide +kernel
theorem dX7_named_53 : decode cX7_named 53 = .ok (.goto 6, 3) := by decide +kernel
theorem dX7_named_56 : decode cX7_named 56 = .ok (.iload_n 3, 1) := by decide +kernel
theorem dX7_named_57 : decode cX7_named 57 = .ok (.iload_n 1, 1) := by decide +kernel
theorem dX7_named_58 : decode cX7_named 58 = .ok (.isub, 1) := by decide +kernel
theorem dX7_named_59 : decode cX7_named 59 = .ok (.ireturn, 1) := by decide +kernel
def f_X7_named : am_F := am_th (i_al 0) (am_th (i_gi 7 13) (am_br (b_1 (fun x => decide (x = 0))) (am_th (i_al 0) (am_th (i_cv 7 0 d_X7_mustName) (am_th (i_al 0) (am_th (i_gi 7 13) (am_br (b_1 (fun x => decide (x = 0))) (am_th (i_al 0) (am_th (i_cv 7 0 d_X7_find) (am_th (i_is 3) (am_th (i_il 3) (am_th (i_il 1) (am_th (i_il 2) (am_th (i_cs 3 d_X7_in) (am_br (b_1 (fun x => decide (¬ x = 0))) (am_th (i_al 0) (am_th (i_gi 7 13) (am_br (b_1 (fun x => decide (x = 0))) (am_th (i_il 3) (am_th (i_il 1) (am_th (i_2 (fun x y => x - y)) (r_i)))) (am_th (i_ic (0)) (r_i))))) (am_th (i_al 0) (am_th (i_ic (2)) (am_th (i_al 0) (am_th (i_gi 7 4) (am_th (i_cv 7 2 d_X7_wrong) (am_th (i_al 0) (am_th (i_gi 7 13) (am_br (b_1 (fun x => decide (x = 0))) (am_th (i_il 3) (am_th (i_il 1) (am_th (i_2 (fun x y => x - y)) (r_i)))) (am_th (i_ic (0)) (r_i)))))))))))))))))) (am_th (i_ic (0)) (r_i))))))) (am_th (i_ic (0)) (r_i))))
def d_X7_named : am_D := am_den 4 f_X7_named
set_option maxHeartbeats 4000000 in
set_option maxRecDepth 100000 in
theorem b_X7_named : am_Body yX7_named cX7_named 4 (some .int) 6 128 f_X7_named := by
  intro p l e R s m args below meth c g n0 z0 r0 u0 C hr hn
  have C : am_Cx p l e R s m args below meth c g RX7 cX7_named 4 n0 z0 (am_len u0) (am_wt u0) 6 128 := C
  unfold f_X7_named
  exact (so_th (so_aload_n C dX7_named_0 rfl) (so_th (so_geti C fl_RX7_106 (by decide) dX7_named_1) (so_br (so_if_eq C dX7_named_4 (by decide)) (so_th (so_aload_n C dX7_named_9 rfl) (so_th (so_cv C m_X7_mustName rfl k_503 k_505 k_504 k_506 k_475 ⟨by decide, by decide, by decide +kernel⟩ (by decide) dX7_named_10) (so_th (so_aload_n C dX7_named_13 rfl) (so_th (so_geti C fl_RX7_106 (by decide) dX7_named_14) (so_br (so_if_eq C dX7_named_17 (by decide)) (so_th (so_aload_n C dX7_named_22 rfl) (so_th (so_cv C m_X7_find rfl k_507 k_509 k_508 k_510 k_475 ⟨by decide, by decide, by decide +kernel⟩ (by decide) dX7_named_23) (so_th (so_istore_n C dX7_named_26 rfl (by decide)) (so_th (so_iload_n C dX7_named_27 rfl) (so_th (so_iload_n C dX7_named_28 rfl) (so_th (so_iload_n C dX7_named_29 rfl) (so_th (so_cs C m_X7_in k_511 k_513 k_512 k_475 ⟨by decide, by decide, by decide +kernel⟩ (by decide) dX7_named_30) (so_br (so_if_ne C dX7_named_33 (by decide)) (so_th (so_aload_n C dX7_named_45 rfl) (so_th (so_geti C fl_RX7_106 (by decide) dX7_named_46) (so_br (so_if_eq C dX7_named_49 (by decide)) (so_th (so_iload_n C dX7_named_56 rfl) (so_th (so_iload_n C dX7_named_57 rfl) (so_th (so_isub C dX7_named_58) (so_ri C hr dX7_named_59)))) (so_th (so_iconst C dX7_named_52 (by decide)) (so_goto C dX7_named_53 (by decide) (so_ri C hr dX7_named_59)))))) (so_th (so_aload_n C dX7_named_36 rfl) (so_th (so_iconst C dX7_named_37 (by decide)) (so_th (so_aload_n C dX7_named_38 rfl) (so_th (so_geti C fl_RX7_87 (by decide) dX7_named_39) (so_th (so_cv C m_X7_wrong rfl k_499 k_501 k_500 k_502 k_475 ⟨by decide, by decide, by decide +kernel⟩ (by decide) dX7_named_42) (so_th (so_aload_n C dX7_named_45 rfl) (so_th (so_geti C fl_RX7_106 (by decide) dX7_named_46) (so_br (so_if_eq C dX7_named_49 (by decide)) (so_th (so_iload_n C dX7_named_56 rfl) (so_th (so_iload_n C dX7_named_57 rfl) (so_th (so_isub C dX7_named_58) (so_ri C hr dX7_named_59)))) (so_th (so_iconst C dX7_named_52 (by decide)) (so_goto C dX7_named_53 (by decide) (so_ri C hr dX7_named_59))))))))))))))))))) (so_th (so_iconst C dX7_named_20 (by decide)) (so_ri C hr dX7_named_21))))))) (so_th (so_iconst C dX7_named_7 (by decide)) (so_ri C hr dX7_named_8)))))
theorem m_X7_named : am_M yX7_named cX7_named 4 (some .int) 6 128 d_X7_named := am_M_of (by decide +kernel) b_X7_named
theorem dX7_familyHere_0 : decode cX7_familyHere 0 = .ok (.aload_n 0, 1) := by decide +kernel
theorem dX7_familyHere_1 : decode cX7_familyHere 1 = .ok (.iconst 0, 1) := by decide +kernel
theorem dX7_familyHere_2 : decode cX7_familyHere 2 = .ok (.iconst 5, 1) := by decide +kernel
theorem dX7_familyHere_3 : decode cX7_familyHere 3 = .ok (.invokevirtual 161, 3) := by decide +kernel
theorem dX7_familyHere_6 : decode cX7_familyHere 6 = .ok (.ireturn, 1) := by decide +kernel
def f_X7_familyHere : am_F := am_th (i_al 0) (am_th (i_ic (0)) (am_th (i_ic (5)) (am_th (i_cv 7 2 d_X7_named) (r_i))))
def d_X7_familyHere : am_D := am_den 1 f_X7_familyHere
set_option maxHeartbeats 4000000 in
set_option maxRecDepth 100000 in
theorem b_X7_familyHere : am_Body yX7_familyHere cX7_familyHere 1 (some .int) 7 151 f_X7_familyHere := by
  intro p l e R s m args below meth c g n0 z0 r0 u0 C hr hn
  have C : am_Cx p l e R s m args below meth c g RX7 cX7_familyHere 1 n0 z0 (am_len u0) (am_wt u0) 7 151 := C
  unfold f_X7_familyHere
  exact (so_th (so_aload_n C dX7_familyHere_0 rfl) (so_th (so_iconst C dX7_familyHere_1 (by decide)) (so_th (so_iconst C dX7_familyHere_2 (by decide)) (so_th (so_cv C m_X7_named rfl k_514 k_516 k_515 k_517 k_475 ⟨by decide, by decide, by decide +kernel⟩ (by decide) dX7_familyHere_3) (so_ri C hr dX7_familyHere_6)))))
theorem m_X7_familyHere : am_M yX7_familyHere cX7_familyHere 1 (some .int) 7 151 d_X7_familyHere := am_M_of (by decide +kernel) b_X7_familyHere
theorem dX7_quarrelHere_0 : decode cX7_quarrelHere 0 = .ok (.aload_n 0, 1) := by decide +kernel
theorem dX7_quarrelHere_1 : decode cX7_quarrelHere 1 = .ok (.bipush 6, 2) := by decide +kernel
theorem dX7_quarrelHere_3 : decode cX7_quarrelHere 3 = .ok (.bipush 11, 2) := by decide +kernel
theorem dX7_quarrelHere_5 : decode cX7_quarrelHere 5 = .ok (.invokevirtual 161, 3) := by decide +kernel
theorem dX7_quarrelHere_8 : decode cX7_quarrelHere 8 = .ok (.ireturn, 1) := by decide +kernel
def f_X7_quarrelHere : am_F := am_th (i_al 0) (am_th (i_ic (6)) (am_th (i_ic (11)) (am_th (i_cv 7 2 d_X7_named) (r_i))))
def d_X7_quarrelHere : am_D := am_den 1 f_X7_quarrelHere
set_option maxHeartbeats 4000000 in
set_option maxRecDepth 100000 in
theorem b_X7_quarrelHere : am_Body yX7_quarrelHere cX7_quarrelHere 1 (some .int) 7 151 f_X7_quarrelHere := by
  intro p l e R s m args below meth c g n0 z0 r0 u0 C hr hn
  have C : am_Cx p l e R s m args below meth c g RX7 cX7_quarrelHere 1 n0 z0 (am_len u0) (am_wt u0) 7 151 := C
  unfold f_X7_quarrelHere
  exact (so_th (so_aload_n C dX7_quarrelHere_0 rfl) (so_th (so_bipush C dX7_quarrelHere_1 (by decide)) (so_th (so_bipush C dX7_quarrelHere_3 (by decide)) (so_th (so_cv C m_X7_named rfl k_514 k_516 k_515 k_517 k_475 ⟨by decide, by decide, by decide +kernel⟩ (by decide) dX7_quarrelHere_5) (so_ri C hr dX7_quarrelHere_8)))))
theorem m_X7_quarrelHere : am_M yX7_quarrelHere cX7_quarrelHere 1 (some .int) 7 151 d_X7_quarrelHere := am_M_of (by decide +kernel) b_X7_quarrelHere
theorem dX7_quarrelPassed_0 : decode cX7_quarrelPassed 0 = .ok (.aload_n 0, 1) := by decide +kernel
theorem dX7_quarrelPassed_1 : decode cX7_quarrelPassed 1 = .ok (.invokevirtual 165, 3) := by decide +kernel
theorem dX7_quarrelPassed_4 : decode cX7_quarrelPassed 4 = .ok (.istore_n 1, 1) := by decide +kernel
theorem dX7_quarrelPassed_5 : decode cX7_quarrelPassed 5 = .ok (.aload_n 0, 1) := by decide +kernel
theorem dX7_quarrelPassed_6 : decode cX7_quarrelPassed 6 = .ok (.getfield 106, 3) := by decide +kernel
theorem dX7_quarrelPassed_9 : decode cX7_quarrelPassed 9 = .ok (.ifCond .ne 7, 3) := by decide +kernel
theorem dX7_quarrelPassed_12 : decode cX7_quarrelPassed 12 = .ok (.aload_n 0, 1) := by decide +kernel
theorem dX7_quarrelPassed_13 : decode cX7_quarrelPassed 13 = .ok (.invokevirtual 127, 3) := by decide +kernel
theorem dX7_quarrelPassed_16 : decode cX7_quarrelPassed 16 = .ok (.iload_n 1, 1) := by decide +kernel
theorem dX7_quarrelPassed_17 : decode cX7_quarrelPassed 17 = .ok (.ireturn, 1) := by decide +kernel
def f_X7_quarrelPassed : am_F := am_th (i_al 0) (am_th (i_cv 7 0 d_X7_quarrelHere) (am_th (i_is 1) (am_th (i_al 0) (am_th (i_gi 7 13) (am_br (b_1 (fun x => decide (¬ x = 0))) (am_th (i_il 1) (r_i)) (am_th (i_al 0) (am_th (i_cv 7 0 d_X7_next) (am_th (i_il 1) (r_i)))))))))
def d_X7_quarrelPassed : am_D := am_den 2 f_X7_quarrelPassed
set_option maxHeartbeats 4000000 in
set_option maxRecDepth 100000 in
theorem b_X7_quarrelPassed : am_Body yX7_quarrelPassed cX7_quarrelPassed 2 (some .int) 8 171 f_X7_quarrelPassed := by
  intro p l e R s m args below meth c g n0 z0 r0 u0 C hr hn
  have C : am_Cx p l e R s m args below meth c g RX7 cX7_quarrelPassed 2 n0 z0 (am_len u0) (am_wt u0) 8 171 := C
  unfold f_X7_quarrelPassed
  exact (so_th (so_aload_n C dX7_quarrelPassed_0 rfl) (so_th (so_cv C m_X7_quarrelHere rfl k_518 k_520 k_519 k_521 k_475 ⟨by decide, by decide, by decide +kernel⟩ (by decide) dX7_quarrelPassed_1) (so_th (so_istore_n C dX7_quarrelPassed_4 rfl (by decide)) (so_th (so_aload_n C dX7_quarrelPassed_5 rfl) (so_th (so_geti C fl_RX7_106 (by decide) dX7_quarrelPassed_6) (so_br (so_if_ne C dX7_quarrelPassed_9 (by decide)) (so_th (so_iload_n C dX7_quarrelPassed_16 rfl) (so_ri C hr dX7_quarrelPassed_17)) (so_th (so_aload_n C dX7_quarrelPassed_12 rfl) (so_th (so_cv C m_X7_next rfl k_491 k_493 k_492 k_494 k_475 ⟨by decide, by decide, by decide +kernel⟩ (by decide) dX7_quarrelPassed_13) (so_th (so_iload_n C dX7_quarrelPassed_16 rfl) (so_ri C hr dX7_quarrelPassed_17))))))))))
theorem m_X7_quarrelPassed : am_M yX7_quarrelPassed cX7_quarrelPassed 2 (some .int) 8 171 d_X7_quarrelPassed := am_M_of (by decide +kernel) b_X7_quarrelPassed
theorem dX7_numberHere_0 : decode cX7_numberHere 0 = .ok (.aload_n 0, 1) := by decide +kernel
theorem dX7_numberHere_1 : decode cX7_numberHere 1 = .ok (.getfield 106, 3) := by decide +kernel
theorem dX7_numberHere_4 : decode cX7_numberHere 4 = .ok (.ifCond .eq 5, 3) := by decide +kernel
theorem dX7_numberHere_7 : decode cX7_numberHere 7 = .ok (.iload_n 1, 1) := by decide +kernel
theorem dX7_numberHere_8 : decode cX7_numberHere 8 = .ok (.ireturn, 1) := by decide +kernel
theorem dX7_numberHere_9 : decode cX7_numberHere 9 = .ok (.aload_n 0, 1) := by decide +kernel
theorem dX7_numberHere_10 : decode cX7_numberHere 10 = .ok (.getfield 96, 3) := by decide +kernel
theorem dX7_numberHere_13 : decode cX7_numberHere 13 = .ok (.iconst 3, 1) := by decide +kernel
theorem dX7_numberHere_14 : decode cX7_numberHere 14 = .ok (.if_icmp .eq 15, 3) := by decide +kernel
theorem dX7_numberHere_17 : decode cX7_numberHere 17 = .ok (.aload_n 0, 1) := by decide +kernel
theorem dX7_numberHere_18 : decode cX7_numberHere 18 = .ok (.iconst 1, 1) := by decide +kernel
theorem dX7_numberHere_19 : decode cX7_numberHere 19 = .ok (.aload_n 0, 1) := by decide +kernel
theorem dX7_numberHere_20 : decode cX7_numberHere 20 = .ok (.getfield 87, 3) := by decide +kernel
theorem dX7_numberHere_23 : decode cX7_numberHere 23 = .ok (.invokevirtual 133, 3) := by decide +kernel
theorem dX7_numberHere_26 : decode cX7_numberHere 26 = .ok (.goto 24, 3) := by decide +kernel
theorem dX7_numberHere_29 : decode cX7_numberHere 29 = .ok (.aload_n 0, 1) := by decide +kernel
theorem dX7_numberHere_30 : decode cX7_numberHere 30 = .ok (.getfield 93, 3) := by decide +kernel
theorem dX7_numberHere_33 : decode cX7_numberHere 33 = .ok (.iload_n 1, 1) := by decide +kernel
theorem dX7_numberHere_34 : decode cX7_numberHere 34 = .ok (.iload_n 2, 1) := by decide +kernel
theorem dX7_numberHere_35 : decode cX7_numberHere 35 = .ok (.invokestatic 157, 3) := by decide +kernel
theorem dX7_numberHere_38 : decode cX7_numberHere 38 = .ok (.ifCond .ne 12, 3) := by decide +kernel
theorem dX7_numberHere_41 : decode cX7_numberHere 41 = .ok (.aload_n 0, 1) := by decide +kernel
theorem dX7_numberHere_42 : decode cX7_numberHere 42 = .ok (.iconst 4, 1) := by decide +kernel
theorem dX7_numberHere_43 : decode cX7_numberHere 43 = .ok (.aload_n 0, 1) := by decide +kernel
theorem dX7_numberHere_44 : decode cX7_numberHere 44 = .ok (.getfield 87, 3) := by decide +kernel
theorem dX7_numberHere_47 : decode cX7_numberHere 47 = .ok (.invokevirtual 133, 3) := by decide +kernel
theorem dX7_numberHere_50 : decode cX7_numberHere 50 = .ok (.aload_n 0, 1) := by decide +kernel
theorem dX7_numberHere_51 : decode cX7_numberHere 51 = .ok (.getfield 106, 3) := by decide +kernel
theorem dX7_numberHere_54 : decode cX7_numberHere 54 = .ok (.ifCond .eq 7, 3) := by decide +kernel
theorem dX7_numberHere_57 : decode cX7_numberHere 57 = .ok (.iload_n 1, 1) := by decide +kernel
theorem dX7_numberHere_58 : decode cX7_numberHere 58 = .ok (.goto 7, 3) := by decide +kernel
theorem dX7_numberHere_61 : decode cX7_numberHere 61 = .ok (.aload_n 0, 1) := by decide +kernel
theorem dX7_numberHere_62 : decode cX7_numberHere 62 = .ok (.getfield 93, 3) := by decide +kernel
theorem dX7_numberHere_65 : decode cX7_numberHere 65 = .ok (.ireturn, 1) := by decide +kernel
def f_X7_numberHere : am_F := am_th (i_al 0) (am_th (i_gi 7 13) (am_br (b_1 (fun x => decide (x = 0))) (am_th (i_al 0) (am_th (i_gi 7 6) (am_th (i_ic (3)) (am_br (b_2 (fun x y => decide (x = y))) (am_th (i_al 0) (am_th (i_gi 7 7) (am_th (i_il 1) (am_th (i_il 2) (am_th (i_cs 3 d_X7_in) (am_br (b_1 (fun x => decide (¬ x = 0))) (am_th (i_al 0) (am_th (i_gi 7 13) (am_br (b_1 (fun x => decide (x = 0))) (am_th (i_al 0) (am_th (i_gi 7 7) (r_i))) (am_th (i_il 1) (r_i))))) (am_th (i_al 0) (am_th (i_ic (4)) (am_th (i_al 0) (am_th (i_gi 7 4) (am_th (i_cv 7 2 d_X7_wrong) (am_th (i_al 0) (am_th (i_gi 7 13) (am_br (b_1 (fun x => decide (x = 0))) (am_th (i_al 0) (am_th (i_gi 7 7) (r_i))) (am_th (i_il 1) (r_i)))))))))))))))) (am_th (i_al 0) (am_th (i_ic (1)) (am_th (i_al 0) (am_th (i_gi 7 4) (am_th (i_cv 7 2 d_X7_wrong) (am_th (i_al 0) (am_th (i_gi 7 13) (am_br (b_1 (fun x => decide (x = 0))) (am_th (i_al 0) (am_th (i_gi 7 7) (r_i))) (am_th (i_il 1) (r_i)))))))))))))) (am_th (i_il 1) (r_i))))
def d_X7_numberHere : am_D := am_den 3 f_X7_numberHere
set_option maxHeartbeats 4000000 in
set_option maxRecDepth 100000 in
theorem b_X7_numberHere : am_Body yX7_numberHere cX7_numberHere 3 (some .int) 1 22 f_X7_numberHere := by
  intro p l e R s m args below meth c g n0 z0 r0 u0 C hr hn
  have C : am_Cx p l e R s m args below meth c g RX7 cX7_numberHere 3 n0 z0 (am_len u0) (am_wt u0) 1 22 := C
  unfold f_X7_numberHere
  exact (so_th (so_aload_n C dX7_numberHere_0 rfl) (so_th (so_geti C fl_RX7_106 (by decide) dX7_numberHere_1) (so_br (so_if_eq C dX7_numberHere_4 (by decide)) (so_th (so_aload_n C dX7_numberHere_9 rfl) (so_th (so_geti C fl_RX7_96 (by decide) dX7_numberHere_10) (so_th (so_iconst C dX7_numberHere_13 (by decide)) (so_br (so_icmp_eq C dX7_numberHere_14 (by decide)) (so_th (so_aload_n C dX7_numberHere_29 rfl) (so_th (so_geti C fl_RX7_93 (by decide) dX7_numberHere_30) (so_th (so_iload_n C dX7_numberHere_33 rfl) (so_th (so_iload_n C dX7_numberHere_34 rfl) (so_th (so_cs C m_X7_in k_511 k_513 k_512 k_475 ⟨by decide, by decide, by decide +kernel⟩ (by decide) dX7_numberHere_35) (so_br (so_if_ne C dX7_numberHere_38 (by decide)) (so_th (so_aload_n C dX7_numberHere_50 rfl) (so_th (so_geti C fl_RX7_106 (by decide) dX7_numberHere_51) (so_br (so_if_eq C dX7_numberHere_54 (by decide)) (so_th (so_aload_n C dX7_numberHere_61 rfl) (so_th (so_geti C fl_RX7_93 (by decide) dX7_numberHere_62) (so_ri C hr dX7_numberHere_65))) (so_th (so_iload_n C dX7_numberHere_57 rfl) (so_goto C dX7_numberHere_58 (by decide) (so_ri C hr dX7_numberHere_65)))))) (so_th (so_aload_n C dX7_numberHere_41 rfl) (so_th (so_iconst C dX7_numberHere_42 (by decide)) (so_th (so_aload_n C dX7_numberHere_43 rfl) (so_th (so_geti C fl_RX7_87 (by decide) dX7_numberHere_44) (so_th (so_cv C m_X7_wrong rfl k_499 k_501 k_500 k_502 k_475 ⟨by decide, by decide, by decide +kernel⟩ (by decide) dX7_numberHere_47) (so_th (so_aload_n C dX7_numberHere_50 rfl) (so_th (so_geti C fl_RX7_106 (by decide) dX7_numberHere_51) (so_br (so_if_eq C dX7_numberHere_54 (by decide)) (so_th (so_aload_n C dX7_numberHere_61 rfl) (so_th (so_geti C fl_RX7_93 (by decide) dX7_numberHere_62) (so_ri C hr dX7_numberHere_65))) (so_th (so_iload_n C dX7_numberHere_57 rfl) (so_goto C dX7_numberHere_58 (by decide) (so_ri C hr dX7_numberHere_65))))))))))))))))) (so_th (so_aload_n C dX7_numberHere_17 rfl) (so_th (so_iconst C dX7_numberHere_18 (by decide)) (so_th (so_aload_n C dX7_numberHere_19 rfl) (so_th (so_geti C fl_RX7_87 (by decide) dX7_numberHere_20) (so_th (so_cv C m_X7_wrong rfl k_499 k_501 k_500 k_502 k_475 ⟨by decide, by decide, by decide +kernel⟩ (by decide) dX7_numberHere_23) (so_goto C dX7_numberHere_26 (by decide) (so_th (so_aload_n C dX7_numberHere_50 rfl) (so_th (so_geti C fl_RX7_106 (by decide) dX7_numberHere_51) (so_br (so_if_eq C dX7_numberHere_54 (by decide)) (so_th (so_aload_n C dX7_numberHere_61 rfl) (so_th (so_geti C fl_RX7_93 (by decide) dX7_numberHere_62) (so_ri C hr dX7_numberHere_65))) (so_th (so_iload_n C dX7_numberHere_57 rfl) (so_goto C dX7_numberHere_58 (by decide) (so_ri C hr dX7_numberHere_65)))))))))))))))) (so_th (so_iload_n C dX7_numberHere_7 rfl) (so_ri C hr dX7_numberHere_8)))))
theorem m_X7_numberHere : am_M yX7_numberHere cX7_numberHere 3 (some .int) 1 22 d_X7_numberHere := am_M_of (by decide +kernel) b_X7_numberHere
theorem dX7_number_0 : decode cX7_number 0 = .ok (.aload_n 0, 1) := by decide +kernel
theorem dX7_number_1 : decode cX7_number 1 = .ok (.iload_n 1, 1) := by decide +kernel
theorem dX7_number_2 : decode cX7_number 2 = .ok (.iload_n 2, 1) := by decide +kernel
theorem dX7_number_3 : decode cX7_number 3 = .ok (.invokevirtual 168, 3) := by decide +kernel
theorem dX7_number_6 : decode cX7_number 6 = .ok (.istore_n 3, 1) := by decide +kernel
theorem dX7_number_7 : decode cX7_number 7 = .ok (.aload_n 0, 1) := by decide +kernel
theorem dX7_number_8 : decode cX7_number 8 = .ok (.getfield 106, 3) := by decide +kernel
theorem dX7_number_11 : decode cX7_number 11 = .ok (.ifCond .ne 7, 3) := by decide +kernel
theorem dX7_number_14 : decode cX7_number 14 = .ok (.aload_n 0, 1) := by decide +kernel
theorem dX7_number_15 : decode cX7_number 15 = .ok (.invokevirtual 127, 3) := by decide +kernel
theorem dX7_number_18 : decode cX7_number 18 = .ok (.iload_n 3, 1) := by decide +kernel
theorem dX7_number_19 : decode cX7_number 19 = .ok (.ireturn, 1) := by decide +kernel
def f_X7_number : am_F := am_th (i_al 0) (am_th (i_il 1) (am_th (i_il 2) (am_th (i_cv 7 2 d_X7_numberHere) (am_th (i_is 3) (am_th (i_al 0) (am_th (i_gi 7 13) (am_br (b_1 (fun x => decide (¬ x = 0))) (am_th (i_il 3) (r_i)) (am_th (i_al 0) (am_th (i_cv 7 0 d_X7_next) (am_th (i_il 3) (r_i)))))))))))
def d_X7_number : am_D := am_den 4 f_X7_number
set_option maxHeartbeats 4000000 in
set_option maxRecDepth 100000 in
theorem b_X7_number : am_Body yX7_number cX7_number 4 (some .int) 2 44 f_X7_number := by
  intro p l e R s m args below meth c g n0 z0 r0 u0 C hr hn
  have C : am_Cx p l e R s m args below meth c g RX7 cX7_number 4 n0 z0 (am_len u0) (am_wt u0) 2 44 := C
  unfold f_X7_number
  exact (so_th (so_aload_n C dX7_number_0 rfl) (so_th (so_iload_n C dX7_number_1 rfl) (so_th (so_iload_n C dX7_number_2 rfl) (so_th (so_cv C m_X7_numberHere rfl k_522 k_524 k_523 k_525 k_475 ⟨by decide, by decide, by decide +kernel⟩ (by decide) dX7_number_3) (so_th (so_istore_n C dX7_number_6 rfl (by decide)) (so_th (so_aload_n C dX7_number_7 rfl) (so_th (so_geti C fl_RX7_106 (by decide) dX7_number_8) (so_br (so_if_ne C dX7_number_11 (by decide)) (so_th (so_iload_n C dX7_number_18 rfl) (so_ri C hr dX7_number_19)) (so_th (so_aload_n C dX7_number_14 rfl) (so_th (so_cv C m_X7_next rfl k_491 k_493 k_492 k_494 k_475 ⟨by decide, by decide, by decide +kernel⟩ (by decide) dX7_number_15) (so_th (so_iload_n C dX7_number_18 rfl) (so_ri C hr dX7_number_19))))))))))))
theorem m_X7_number : am_M yX7_number cX7_number 4 (some .int) 2 44 d_X7_number := am_M_of (by decide +kernel) b_X7_number
theorem dX7_after_0 : decode cX7_after 0 = .ok (.aload_n 0, 1) := by decide +kernel
theorem dX7_after_1 : decode cX7_after 1 = .ok (.aload_n 1, 1) := by decide +kernel
theorem dX7_after_2 : decode cX7_after 2 = .ok (.invokevirtual 171, 3) := by decide +kernel
theorem dX7_after_5 : decode cX7_after 5 = .ok (.aload_n 0, 1) := by decide +kernel
theorem dX7_after_6 : decode cX7_after 6 = .ok (.iload_n 2, 1) := by decide +kernel
theorem dX7_after_7 : decode cX7_after 7 = .ok (.iload_n 3, 1) := by decide +kernel
theorem dX7_after_8 : decode cX7_after 8 = .ok (.invokevirtual 175, 3) := by decide +kernel
theorem dX7_after_11 : decode cX7_after 11 = .ok (.ireturn, 1) := by decide +kernel
def f_X7_after : am_F := am_th (i_al 0) (am_th (i_al 1) (am_th (i_cv 7 1 d_X7_must) (am_th (i_al 0) (am_th (i_il 2) (am_th (i_il 3) (am_th (i_cv 7 2 d_X7_number) (r_i)))))))
def d_X7_after : am_D := am_den 4 f_X7_after
set_option maxHeartbeats 4000000 in
set_option maxRecDepth 100000 in
theorem b_X7_after : am_Body yX7_after cX7_after 4 (some .int) 7 150 f_X7_after := by
  intro p l e R s m args below meth c g n0 z0 r0 u0 C hr hn
  have C : am_Cx p l e R s m args below meth c g RX7 cX7_after 4 n0 z0 (am_len u0) (am_wt u0) 7 150 := C
  unfold f_X7_after
  exact (so_th (so_aload_n C dX7_after_0 rfl) (so_th (so_aload_n C dX7_after_1 rfl) (so_th (so_cv C m_X7_must rfl k_526 k_528 k_527 k_529 k_475 ⟨by decide, by decide, by decide +kernel⟩ (by decide) dX7_after_2) (so_th (so_aload_n C dX7_after_5 rfl) (so_th (so_iload_n C dX7_after_6 rfl) (so_th (so_iload_n C dX7_after_7 rfl) (so_th (so_cv C m_X7_number rfl k_530 k_532 k_531 k_533 k_475 ⟨by decide, by decide, by decide +kernel⟩ (by decide) dX7_after_8) (so_ri C hr dX7_after_11))))))))
theorem m_X7_after : am_M yX7_after cX7_after 4 (some .int) 7 150 d_X7_after := am_M_of (by decide +kernel) b_X7_after
theorem dX7_kindHere_0 : decode cX7_kindHere 0 = .ok (.aload_n 0, 1) := by decide +kernel
theorem dX7_kindHere_1 : decode cX7_kindHere 1 = .ok (.ldc 178, 2) := by decide +kernel
theorem dX7_kindHere_3 : decode cX7_kindHere 3 = .ok (.invokevirtual 123, 3) := by decide +kernel
theorem dX7_kindHere_6 : decode cX7_kindHere 6 = .ok (.ifCond .eq 7, 3) := by decide +kernel
theorem dX7_kindHere_9 : decode cX7_kindHere 9 = .ok (.iconst 0, 1) := by decide +kernel
theorem dX7_kindHere_10 : decode cX7_kindHere 10 = .ok (.goto 43, 3) := by decide +kernel
theorem dX7_kindHere_13 : decode cX7_kindHere 13 = .ok (.aload_n 0, 1) := by decide +kernel
theorem dX7_kindHere_14 : decode cX7_kindHere 14 = .ok (.ldc 180, 2) := by decide +kernel
theorem dX7_kindHere_16 : decode cX7_kindHere 16 = .ok (.invokevirtual 123, 3) := by decide +kernel
theorem dX7_kindHere_19 : decode cX7_kindHere 19 = .ok (.ifCond .eq 7, 3) := by decide +kernel
theorem dX7_kindHere_22 : decode cX7_kindHere 22 = .ok (.iconst 1, 1) := by decide +kernel
theorem dX7_kindHere_23 : decode cX7_kindHere 23 = .ok (.goto 30, 3) := by decide +kernel
theorem dX7_kindHere_26 : decode cX7_kindHere 26 = .ok (.aload_n 0, 1) := by decide +kernel
theorem dX7_kindHere_27 : decode cX7_kindHere 27 = .ok (.ldc 182, 2) := by decide +kernel
theorem dX7_kindHere_29 : decode cX7_kindHere 29 = .ok (.invokevirtual 123, 3) := by decide +kernel
theorem dX7_kindHere_32 : decode cX7_kindHere 32 = .ok (.ifCond .eq 7, 3) := by decide +kernel
theorem dX7_kindHere_35 : decode cX7_kindHere 35 = .ok (.iconst 2, 1) := by decide +kernel
theorem dX7_kindHere_36 : decode cX7_kindHere 36 = .ok (.goto 17, 3) := by decide +kernel
theorem dX7_kindHere_39 : decode cX7_kindHere 39 = .ok (.aload_n 0, 1) := by decide +kernel
theorem dX7_kindHere_40 : decode cX7_kindHere 40 = .ok (.ldc 184, 2) := by decide +kernel
theorem dX7_kindHere_42 : decode cX7_kindHere 42 = .ok (.invokevirtual 123, 3) := by decide +kernel
theorem dX7_kindHere_45 : decode cX7_kindHere 45 = .ok (.ifCond .eq 7, 3) := by decide +kernel
theorem dX7_kindHere_48 : decode cX7_kindHere 48 = .ok (.iconst 3, 1) := by decide +kernel
theorem dX7_kindHere_49 : decode cX7_kindHere 49 = .ok (.goto 4, 3) := by decide +kernel
theorem dX7_kindHere_52 : decode cX7_kindHere 52 = .ok (.iconst (-1), 1) := by decide +kernel
theorem dX7_kindHere_53 : decode cX7_kindHere 53 = .ok (.istore_n 1, 1) := by decide +kernel
theorem dX7_kindHere_54 : decode cX7_kindHere 54 = .ok (.aload_n 0, 1) := by decide +kernel
theorem dX7_kindHere_55 : decode cX7_kindHere 55 = .ok (.getfield 106, 3) := by decide +kernel
theorem dX7_kindHere_58 : decode cX7_kindHere 58 = .ok (.ifCond .ne 16, 3) := by decide +kernel
theorem dX7_kindHere_61 : decode cX7_kindHere 61 = .ok (.iload_n 1, 1) := by decide +kernel
theorem dX7_kindHere_62 : decode cX7_kindHere 62 = .ok (.ifCond .ge 12, 3) := by decide +kernel
theorem dX7_kindHere_65 : decode cX7_kindHere 65 = .ok (.aload_n 0, 1) := by decide +kernel
theorem dX7_kindHere_66 : decode cX7_kindHere 66 = .ok (.iconst 1, 1) := by decide +kernel
theorem dX7_kindHere_67 : decode cX7_kindHere 67 = .ok (.aload_n 0, 1) := by decide +kernel
theorem dX7_kindHere_68 : decode cX7_kindHere 68 = .ok (.getfield 87, 3) := by decide +kernel
theorem dX7_kindHere_71 : decode cX7_kindHere 71 = .ok (.invokevirtual 133, 3) := by decide +kernel
theorem dX7_kindHere_74 : decode cX7_kindHere 74 = .ok (.aload_n 0, 1) := by decide +kernel
theorem dX7_kindHere_75 : decode cX7_kindHere 75 = .ok (.getfield 106, 3) := by decide +kernel
theorem dX7_kindHere_78 : decode cX7_kindHere 78 = .ok (.ifCond .eq 7, 3) := by decide +kernel
theorem dX7_kindHere_81 : decode cX7_kindHere 81 = .ok (.iconst 0, 1) := by decide +kernel
theorem dX7_kindHere_82 : decode cX7_kindHere 82 = .ok (.goto 4, 3) := by decide +kernel
theorem dX7_kindHere_85 : decode cX7_kindHere 85 = .ok (.iload_n 1, 1) := by decide +kernel
theorem dX7_kindHere_86 : decode cX7_kindHere 86 = .ok (.ireturn, 1) := by decide +kernel
def f_X7_kindHere : am_F := am_th (i_al 0) (am_th (i_sg 11) (am_th (i_cv 7 1 d_X7_isWord) (am_br (b_1 (fun x => decide (x = 0))) (am_th (i_al 0) (am_th (i_sg 12) (am_th (i_cv 7 1 d_X7_isWord) (am_br (b_1 (fun x => decide (x = 0))) (am_th (i_al 0) (am_th (i_sg 13) (am_th (i_cv 7 1 d_X7_isWord) (am_br (b_1 (fun x => decide (x = 0))) (am_th (i_al 0) (am_th (i_sg 14) (am_th (i_cv 7 1 d_X7_isWord) (am_br (b_1 (fun x => decide (x = 0))) (am_th (i_ic (-1)) (am_th (i_is 1) (am_th (i_al 0) (am_th (i_gi 7 13) (am_br (b_1 (fun x => decide (¬ x = 0))) (am_th (i_al 0) (am_th (i_gi 7 13) (am_br (b_1 (fun x => decide (x = 0))) (am_th (i_il 1) (r_i)) (am_th (i_ic (0)) (r_i))))) (am_th (i_il 1) (am_br (b_1 (fun x => decide (0 ≤ x))) (am_th (i_al 0) (am_th (i_gi 7 13) (am_br (b_1 (fun x => decide (x = 0))) (am_th (i_il 1) (r_i)) (am_th (i_ic (0)) (r_i))))) (am_th (i_al 0) (am_th (i_ic (1)) (am_th (i_al 0) (am_th (i_gi 7 4) (am_th (i_cv 7 2 d_X7_wrong) (am_th (i_al 0) (am_th (i_gi 7 13) (am_br (b_1 (fun x => decide (x = 0))) (am_th (i_il 1) (r_i)) (am_th (i_ic (0)) (r_i))))))))))))))))) (am_th (i_ic (3)) (am_th (i_is 1) (am_th (i_al 0) (am_th (i_gi 7 13) (am_br (b_1 (fun x => decide (¬ x = 0))) (am_th (i_al 0) (am_th (i_gi 7 13) (am_br (b_1 (fun x => decide (x = 0))) (am_th (i_il 1) (r_i)) (am_th (i_ic (0)) (r_i))))) (am_th (i_il 1) (am_br (b_1 (fun x => decide (0 ≤ x))) (am_th (i_al 0) (am_th (i_gi 7 13) (am_br (b_1 (fun x => decide (x = 0))) (am_th (i_il 1) (r_i)) (am_th (i_ic (0)) (r_i))))) (am_th (i_al 0) (am_th (i_ic (1)) (am_th (i_al 0) (am_th (i_gi 7 4) (am_th (i_cv 7 2 d_X7_wrong) (am_th (i_al 0) (am_th (i_gi 7 13) (am_br (b_1 (fun x => decide (x = 0))) (am_th (i_il 1) (r_i)) (am_th (i_ic (0)) (r_i))))))))))))))))))))) (am_th (i_ic (2)) (am_th (i_is 1) (am_th (i_al 0) (am_th (i_gi 7 13) (am_br (b_1 (fun x => decide (¬ x = 0))) (am_th (i_al 0) (am_th (i_gi 7 13) (am_br (b_1 (fun x => decide (x = 0))) (am_th (i_il 1) (r_i)) (am_th (i_ic (0)) (r_i))))) (am_th (i_il 1) (am_br (b_1 (fun x => decide (0 ≤ x))) (am_th (i_al 0) (am_th (i_gi 7 13) (am_br (b_1 (fun x => decide (x = 0))) (am_th (i_il 1) (r_i)) (am_th (i_ic (0)) (r_i))))) (am_th (i_al 0) (am_th (i_ic (1)) (am_th (i_al 0) (am_th (i_gi 7 4) (am_th (i_cv 7 2 d_X7_wrong) (am_th (i_al 0) (am_th (i_gi 7 13) (am_br (b_1 (fun x => decide (x = 0))) (am_th (i_il 1) (r_i)) (am_th (i_ic (0)) (r_i))))))))))))))))))))) (am_th (i_ic (1)) (am_th (i_is 1) (am_th (i_al 0) (am_th (i_gi 7 13) (am_br (b_1 (fun x => decide (¬ x = 0))) (am_th (i_al 0) (am_th (i_gi 7 13) (am_br (b_1 (fun x => decide (x = 0))) (am_th (i_il 1) (r_i)) (am_th (i_ic (0)) (r_i))))) (am_th (i_il 1) (am_br (b_1 (fun x => decide (0 ≤ x))) (am_th (i_al 0) (am_th (i_gi 7 13) (am_br (b_1 (fun x => decide (x = 0))) (am_th (i_il 1) (r_i)) (am_th (i_ic (0)) (r_i))))) (am_th (i_al 0) (am_th (i_ic (1)) (am_th (i_al 0) (am_th (i_gi 7 4) (am_th (i_cv 7 2 d_X7_wrong) (am_th (i_al 0) (am_th (i_gi 7 13) (am_br (b_1 (fun x => decide (x = 0))) (am_th (i_il 1) (r_i)) (am_th (i_ic (0)) (r_i))))))))))))))))))))) (am_th (i_ic (0)) (am_th (i_is 1) (am_th (i_al 0) (am_th (i_gi 7 13) (am_br (b_1 (fun x => decide (¬ x = 0))) (am_th (i_al 0) (am_th (i_gi 7 13) (am_br (b_1 (fun x => decide (x = 0))) (am_th (i_il 1) (r_i)) (am_th (i_ic (0)) (r_i))))) (am_th (i_il 1) (am_br (b_1 (fun x => decide (0 ≤ x))) (am_th (i_al 0) (am_th (i_gi 7 13) (am_br (b_1 (fun x => decide (x = 0))) (am_th (i_il 1) (r_i)) (am_th (i_ic (0)) (r_i))))) (am_th (i_al 0) (am_th (i_ic (1)) (am_th (i_al 0) (am_th (i_gi 7 4) (am_th (i_cv 7 2 d_X7_wrong) (am_th (i_al 0) (am_th (i_gi 7 13) (am_br (b_1 (fun x => decide (x = 0))) (am_th (i_il 1) (r_i)) (am_th (i_ic (0)) (r_i))))))))))))))))))))
def d_X7_kindHere : am_D := am_den 2 f_X7_kindHere
set_option maxHeartbeats 4000000 in
set_option maxRecDepth 100000 in
theorem b_X7_kindHere : am_Body yX7_kindHere cX7_kindHere 2 (some .int) 5 108 f_X7_kindHere := by
  intro p l e R s m args below meth c g n0 z0 r0 u0 C hr hn
  have C : am_Cx p l e R s m args below meth c g RX7 cX7_kindHere 2 n0 z0 (am_len u0) (am_wt u0) 5 108 := C
  unfold f_X7_kindHere
  exact (so_th (so_aload_n C dX7_kindHere_0 rfl) (so_th (so_ldcS C dX7_kindHere_1 (List.mem_of_getElem? (i := 32) rfl)) (so_th (so_cv C m_X7_isWord rfl k_487 k_489 k_488 k_490 k_475 ⟨by decide, by decide, by decide +kernel⟩ (by decide) dX7_kindHere_3) (so_br (so_if_eq C dX7_kindHere_6 (by decide)) (so_th (so_aload_n C dX7_kindHere_13 rfl) (so_th (so_ldcS C dX7_kindHere_14 (List.mem_of_getElem? (i := 33) rfl)) (so_th (so_cv C m_X7_isWord rfl k_487 k_489 k_488 k_490 k_475 ⟨by decide, by decide, by decide +kernel⟩ (by decide) dX7_kindHere_16) (so_br (so_if_eq C dX7_kindHere_19 (by decide)) (so_th (so_aload_n C dX7_kindHere_26 rfl) (so_th (so_ldcS C dX7_kindHere_27 (List.mem_of_getElem? (i := 34) rfl)) (so_th (so_cv C m_X7_isWord rfl k_487 k_489 k_488 k_490 k_475 ⟨by decide, by decide, by decide +kernel⟩ (by decide) dX7_kindHere_29) (so_br (so_if_eq C dX7_kindHere_32 (by decide)) (so_th (so_aload_n C dX7_kindHere_39 rfl) (so_th (so_ldcS C dX7_kindHere_40 (List.mem_of_getElem? (i := 35) rfl)) (so_th (so_cv C m_X7_isWord rfl k_487 k_489 k_488 k_490 k_475 ⟨by decide, by decide, by decide +kernel⟩ (by decide) dX7_kindHere_42) (so_br (so_if_eq C dX7_kindHere_45 (by decide)) (so_th (so_iconst C dX7_kindHere_52 (by decide)) (so_th (so_istore_n C dX7_kindHere_53 rfl (by decide)) (so_th (so_aload_n C dX7_kindHere_54 rfl) (so_th (so_geti C fl_RX7_106 (by decide) dX7_kindHere_55) (so_br (so_if_ne C dX7_kindHere_58 (by decide)) (so_th (so_aload_n C dX7_kindHere_74 rfl) (so_th (so_geti C fl_RX7_106 (by decide) dX7_kindHere_75) (so_br (so_if_eq C dX7_kindHere_78 (by decide)) (so_th (so_iload_n C dX7_kindHere_85 rfl) (so_ri C hr dX7_kindHere_86)) (so_th (so_iconst C dX7_kindHere_81 (by decide)) (so_goto C dX7_kindHere_82 (by decide) (so_ri C hr dX7_kindHere_86)))))) (so_th (so_iload_n C dX7_kindHere_61 rfl) (so_br (so_if_ge C dX7_kindHere_62 (by decide)) (so_th (so_aload_n C dX7_kindHere_74 rfl) (so_th (so_geti C fl_RX7_106 (by decide) dX7_kindHere_75) (so_br (so_if_eq C dX7_kindHere_78 (by decide)) (so_th (so_iload_n C dX7_kindHere_85 rfl) (so_ri C hr dX7_kindHere_86)) (so_th (so_iconst C dX7_kindHere_81 (by decide)) (so_goto C dX7_kindHere_82 (by decide) (so_ri C hr dX7_kindHere_86)))))) (so_th (so_aload_n C dX7_kindHere_65 rfl) (so_th (so_iconst C dX7_kindHere_66 (by decide)) (so_th (so_aload_n C dX7_kindHere_67 rfl) (so_th (so_geti C fl_RX7_87 (by decide) dX7_kindHere_68) (so_th (so_cv C m_X7_wrong rfl k_499 k_501 k_500 k_502 k_475 ⟨by decide, by decide, by decide +kernel⟩ (by decide) dX7_kindHere_71) (so_th (so_aload_n C dX7_kindHere_74 rfl) (so_th (so_geti C fl_RX7_106 (by decide) dX7_kindHere_75) (so_br (so_if_eq C dX7_kindHere_78 (by decide)) (so_th (so_iload_n C dX7_kindHere_85 rfl) (so_ri C hr dX7_kindHere_86)) (so_th (so_iconst C dX7_kindHere_81 (by decide)) (so_goto C dX7_kindHere_82 (by decide) (so_ri C hr dX7_kindHere_86)))))))))))))))))) (so_th (so_iconst C dX7_kindHere_48 (by decide)) (so_goto C dX7_kindHere_49 (by decide) (so_th (so_istore_n C dX7_kindHere_53 rfl (by decide)) (so_th (so_aload_n C dX7_kindHere_54 rfl) (so_th (so_geti C fl_RX7_106 (by decide) dX7_kindHere_55) (so_br (so_if_ne C dX7_kindHere_58 (by decide)) (so_th (so_aload_n C dX7_kindHere_74 rfl) (so_th (so_geti C fl_RX7_106 (by decide) dX7_kindHere_75) (so_br (so_if_eq C dX7_kindHere_78 (by decide)) (so_th (so_iload_n C dX7_kindHere_85 rfl) (so_ri C hr dX7_kindHere_86)) (so_th (so_iconst C dX7_kindHere_81 (by decide)) (so_goto C dX7_kindHere_82 (by decide) (so_ri C hr dX7_kindHere_86)))))) (so_th (so_iload_n C dX7_kindHere_61 rfl) (so_br (so_if_ge C dX7_kindHere_62 (by decide)) (so_th (so_aload_n C dX7_kindHere_74 rfl) (so_th (so_geti C fl_RX7_106 (by decide) dX7_kindHere_75) (so_br (so_if_eq C dX7_kindHere_78 (by decide)) (so_th (so_iload_n C dX7_kindHere_85 rfl) (so_ri C hr dX7_kindHere_86)) (so_th (so_iconst C dX7_kindHere_81 (by decide)) (so_goto C dX7_kindHere_82 (by decide) (so_ri C hr dX7_kindHere_86)))))) (so_th (so_aload_n C dX7_kindHere_65 rfl) (so_th (so_iconst C dX7_kindHere_66 (by decide)) (so_th (so_aload_n C dX7_kindHere_67 rfl) (so_th (so_geti C fl_RX7_87 (by decide) dX7_kindHere_68) (so_th (so_cv C m_X7_wrong rfl k_499 k_501 k_500 k_502 k_475 ⟨by decide, by decide, by decide +kernel⟩ (by decide) dX7_kindHere_71) (so_th (so_aload_n C dX7_kindHere_74 rfl) (so_th (so_geti C fl_RX7_106 (by decide) dX7_kindHere_75) (so_br (so_if_eq C dX7_kindHere_78 (by decide)) (so_th (so_iload_n C dX7_kindHere_85 rfl) (so_ri C hr dX7_kindHere_86)) (so_th (so_iconst C dX7_kindHere_81 (by decide)) (so_goto C dX7_kindHere_82 (by decide) (so_ri C hr dX7_kindHere_86))))))))))))))))))))))) (so_th (so_iconst C dX7_kindHere_35 (by decide)) (so_goto C dX7_kindHere_36 (by decide) (so_th (so_istore_n C dX7_kindHere_53 rfl (by decide)) (so_th (so_aload_n C dX7_kindHere_54 rfl) (so_th (so_geti C fl_RX7_106 (by decide) dX7_kindHere_55) (so_br (so_if_ne C dX7_kindHere_58 (by decide)) (so_th (so_aload_n C dX7_kindHere_74 rfl) (so_th (so_geti C fl_RX7_106 (by decide) dX7_kindHere_75) (so_br (so_if_eq C dX7_kindHere_78 (by decide)) (so_th (so_iload_n C dX7_kindHere_85 rfl) (so_ri C hr dX7_kindHere_86)) (so_th (so_iconst C dX7_kindHere_81 (by decide)) (so_goto C dX7_kindHere_82 (by decide) (so_ri C hr dX7_kindHere_86)))))) (so_th (so_iload_n C dX7_kindHere_61 rfl) (so_br (so_if_ge C dX7_kindHere_62 (by decide)) (so_th (so_aload_n C dX7_kindHere_74 rfl) (so_th (so_geti C fl_RX7_106 (by decide) dX7_kindHere_75) (so_br (so_if_eq C dX7_kindHere_78 (by decide)) (so_th (so_iload_n C dX7_kindHere_85 rfl) (so_ri C hr dX7_kindHere_86)) (so_th (so_iconst C dX7_kindHere_81 (by decide)) (so_goto C dX7_kindHere_82 (by decide) (so_ri C hr dX7_kindHere_86)))))) (so_th (so_aload_n C dX7_kindHere_65 rfl) (so_th (so_iconst C dX7_kindHere_66 (by decide)) (so_th (so_aload_n C dX7_kindHere_67 rfl) (so_th (so_geti C fl_RX7_87 (by decide) dX7_kindHere_68) (so_th (so_cv C m_X7_wrong rfl k_499 k_501 k_500 k_502 k_475 ⟨by decide, by decide, by decide +kernel⟩ (by decide) dX7_kindHere_71) (so_th (so_aload_n C dX7_kindHere_74 rfl) (so_th (so_geti C fl_RX7_106 (by decide) dX7_kindHere_75) (so_br (so_if_eq C dX7_kindHere_78 (by decide)) (so_th (so_iload_n C dX7_kindHere_85 rfl) (so_ri C hr dX7_kindHere_86)) (so_th (so_iconst C dX7_kindHere_81 (by decide)) (so_goto C dX7_kindHere_82 (by decide) (so_ri C hr dX7_kindHere_86))))))))))))))))))))))) (so_th (so_iconst C dX7_kindHere_22 (by decide)) (so_goto C dX7_kindHere_23 (by decide) (so_th (so_istore_n C dX7_kindHere_53 rfl (by decide)) (so_th (so_aload_n C dX7_kindHere_54 rfl) (so_th (so_geti C fl_RX7_106 (by decide) dX7_kindHere_55) (so_br (so_if_ne C dX7_kindHere_58 (by decide)) (so_th (so_aload_n C dX7_kindHere_74 rfl) (so_th (so_geti C fl_RX7_106 (by decide) dX7_kindHere_75) (so_br (so_if_eq C dX7_kindHere_78 (by decide)) (so_th (so_iload_n C dX7_kindHere_85 rfl) (so_ri C hr dX7_kindHere_86)) (so_th (so_iconst C dX7_kindHere_81 (by decide)) (so_goto C dX7_kindHere_82 (by decide) (so_ri C hr dX7_kindHere_86)))))) (so_th (so_iload_n C dX7_kindHere_61 rfl) (so_br (so_if_ge C dX7_kindHere_62 (by decide)) (so_th (so_aload_n C dX7_kindHere_74 rfl) (so_th (so_geti C fl_RX7_106 (by decide) dX7_kindHere_75) (so_br (so_if_eq C dX7_kindHere_78 (by decide)) (so_th (so_iload_n C dX7_kindHere_85 rfl) (so_ri C hr dX7_kindHere_86)) (so_th (so_iconst C dX7_kindHere_81 (by decide)) (so_goto C dX7_kindHere_82 (by decide) (so_ri C hr dX7_kindHere_86)))))) (so_th (so_aload_n C dX7_kindHere_65 rfl) (so_th (so_iconst C dX7_kindHere_66 (by decide)) (so_th (so_aload_n C dX7_kindHere_67 rfl) (so_th (so_geti C fl_RX7_87 (by decide) dX7_kindHere_68) (so_th (so_cv C m_X7_wrong rfl k_499 k_501 k_500 k_502 k_475 ⟨by decide, by decide, by decide +kernel⟩ (by decide) dX7_kindHere_71) (so_th (so_aload_n C dX7_kindHere_74 rfl) (so_th (so_geti C fl_RX7_106 (by decide) dX7_kindHere_75) (so_br (so_if_eq C dX7_kindHere_78 (by decide)) (so_th (so_iload_n C dX7_kindHere_85 rfl) (so_ri C hr dX7_kindHere_86)) (so_th (so_iconst C dX7_kindHere_81 (by decide)) (so_goto C dX7_kindHere_82 (by decide) (so_ri C hr dX7_kindHere_86))))))))))))))))))))))) (so_th (so_iconst C dX7_kindHere_9 (by decide)) (so_goto C dX7_kindHere_10 (by decide) (so_th (so_istore_n C dX7_kindHere_53 rfl (by decide)) (so_th (so_aload_n C dX7_kindHere_54 rfl) (so_th (so_geti C fl_RX7_106 (by decide) dX7_kindHere_55) (so_br (so_if_ne C dX7_kindHere_58 (by decide)) (so_th (so_aload_n C dX7_kindHere_74 rfl) (so_th (so_geti C fl_RX7_106 (by decide) dX7_kindHere_75) (so_br (so_if_eq C dX7_kindHere_78 (by decide)) (so_th (so_iload_n C dX7_kindHere_85 rfl) (so_ri C hr dX7_kindHere_86)) (so_th (so_iconst C dX7_kindHere_81 (by decide)) (so_goto C dX7_kindHere_82 (by decide) (so_ri C hr dX7_kindHere_86)))))) (so_th (so_iload_n C dX7_kindHere_61 rfl) (so_br (so_if_ge C dX7_kindHere_62 (by decide)) (so_th (so_aload_n C dX7_kindHere_74 rfl) (so_th (so_geti C fl_RX7_106 (by decide) dX7_kindHere_75) (so_br (so_if_eq C dX7_kindHere_78 (by decide)) (so_th (so_iload_n C dX7_kindHere_85 rfl) (so_ri C hr dX7_kindHere_86)) (so_th (so_iconst C dX7_kindHere_81 (by decide)) (so_goto C dX7_kindHere_82 (by decide) (so_ri C hr dX7_kindHere_86)))))) (so_th (so_aload_n C dX7_kindHere_65 rfl) (so_th (so_iconst C dX7_kindHere_66 (by decide)) (so_th (so_aload_n C dX7_kindHere_67 rfl) (so_th (so_geti C fl_RX7_87 (by decide) dX7_kindHere_68) (so_th (so_cv C m_X7_wrong rfl k_499 k_501 k_500 k_502 k_475 ⟨by decide, by decide, by decide +kernel⟩ (by decide) dX7_kindHere_71) (so_th (so_aload_n C dX7_kindHere_74 rfl) (so_th (so_geti C fl_RX7_106 (by decide) dX7_kindHere_75) (so_br (so_if_eq C dX7_kindHere_78 (by decide)) (so_th (so_iload_n C dX7_kindHere_85 rfl) (so_ri C hr dX7_kindHere_86)) (so_th (so_iconst C dX7_kindHere_81 (by decide)) (so_goto C dX7_kindHere_82 (by decide) (so_ri C hr dX7_kindHere_86)))))))))))))))))))))))
theorem m_X7_kindHere : am_M yX7_kindHere cX7_kindHere 2 (some .int) 5 108 d_X7_kindHere := am_M_of (by decide +kernel) b_X7_kindHere
theorem dX7_kindPassed_0 : decode cX7_kindPassed 0 = .ok (.aload_n 0, 1) := by decide +kernel
theorem dX7_kindPassed_1 : decode cX7_kindPassed 1 = .ok (.invokevirtual 186, 3) := by decide +kernel
theorem dX7_kindPassed_4 : decode cX7_kindPassed 4 = .ok (.istore_n 1, 1) := by decide +kernel
theorem dX7_kindPassed_5 : decode cX7_kindPassed 5 = .ok (.aload_n 0, 1) := by decide +kernel
theorem dX7_kindPassed_6 : decode cX7_kindPassed 6 = .ok (.getfield 106, 3) := by decide +kernel
theorem dX7_kindPassed_9 : decode cX7_kindPassed 9 = .ok (.ifCond .ne 7, 3) := by decide +kernel
theorem dX7_kindPassed_12 : decode cX7_kindPassed 12 = .ok (.aload_n 0, 1) := by decide +kernel
theorem dX7_kindPassed_13 : decode cX7_kindPassed 13 = .ok (.invokevirtual 127, 3) := by decide +kernel
theorem dX7_kindPassed_16 : decode cX7_kindPassed 16 = .ok (.iload_n 1, 1) := by decide +kernel
theorem dX7_kindPassed_17 : decode cX7_kindPassed 17 = .ok (.ireturn, 1) := by decide +kernel
def f_X7_kindPassed : am_F := am_th (i_al 0) (am_th (i_cv 7 0 d_X7_kindHere) (am_th (i_is 1) (am_th (i_al 0) (am_th (i_gi 7 13) (am_br (b_1 (fun x => decide (¬ x = 0))) (am_th (i_il 1) (r_i)) (am_th (i_al 0) (am_th (i_cv 7 0 d_X7_next) (am_th (i_il 1) (r_i)))))))))
def d_X7_kindPassed : am_D := am_den 2 f_X7_kindPassed
set_option maxHeartbeats 4000000 in
set_option maxRecDepth 100000 in
theorem b_X7_kindPassed : am_Body yX7_kindPassed cX7_kindPassed 2 (some .int) 6 129 f_X7_kindPassed := by
  intro p l e R s m args below meth c g n0 z0 r0 u0 C hr hn
  have C : am_Cx p l e R s m args below meth c g RX7 cX7_kindPassed 2 n0 z0 (am_len u0) (am_wt u0) 6 129 := C
  unfold f_X7_kindPassed
  exact (so_th (so_aload_n C dX7_kindPassed_0 rfl) (so_th (so_cv C m_X7_kindHere rfl k_534 k_536 k_535 k_537 k_475 ⟨by decide, by decide, by decide +kernel⟩ (by decide) dX7_kindPassed_1) (so_th (so_istore_n C dX7_kindPassed_4 rfl (by decide)) (so_th (so_aload_n C dX7_kindPassed_5 rfl) (so_th (so_geti C fl_RX7_106 (by decide) dX7_kindPassed_6) (so_br (so_if_ne C dX7_kindPassed_9 (by decide)) (so_th (so_iload_n C dX7_kindPassed_16 rfl) (so_ri C hr dX7_kindPassed_17)) (so_th (so_aload_n C dX7_kindPassed_12 rfl) (so_th (so_cv C m_X7_next rfl k_491 k_493 k_492 k_494 k_475 ⟨by decide, by decide, by decide +kernel⟩ (by decide) dX7_kindPassed_13) (so_th (so_iload_n C dX7_kindPassed_16 rfl) (so_ri C hr dX7_kindPassed_17))))))))))
theorem m_X7_kindPassed : am_M yX7_kindPassed cX7_kindPassed 2 (some .int) 6 129 d_X7_kindPassed := am_M_of (by decide +kernel) b_X7_kindPassed
theorem dX7_valleyLine_0 : decode cX7_valleyLine 0 = .ok (.aload_n 0, 1) := by decide +kernel
theorem dX7_valleyLine_1 : decode cX7_valleyLine 1 = .ok (.getfield 23, 3) := by decide +kernel
theorem dX7_valleyLine_4 : decode cX7_valleyLine 4 = .ok (.iconst 1, 1) := by decide +kernel
theorem dX7_valleyLine_5 : decode cX7_valleyLine 5 = .ok (.iaload, 1) := by decide +kernel
theorem dX7_valleyLine_6 : decode cX7_valleyLine 6 = .ok (.ifCond .le 12, 3) := by decide +kernel
theorem dX7_valleyLine_9 : decode cX7_valleyLine 9 = .ok (.aload_n 0, 1) := by decide +kernel
theorem dX7_valleyLine_10 : decode cX7_valleyLine 10 = .ok (.iconst 3, 1) := by decide +kernel
theorem dX7_valleyLine_11 : decode cX7_valleyLine 11 = .ok (.aload_n 0, 1) := by decide +kernel
theorem dX7_valleyLine_12 : decode cX7_valleyLine 12 = .ok (.getfield 87, 3) := by decide +kernel
theorem dX7_valleyLine_15 : decode cX7_valleyLine 15 = .ok (.invokevirtual 133, 3) := by decide +kernel
theorem dX7_valleyLine_18 : decode cX7_valleyLine 18 = .ok (.aload_n 0, 1) := by decide +kernel
theorem dX7_valleyLine_19 : decode cX7_valleyLine 19 = .ok (.getfield 106, 3) := by decide +kernel
theorem dX7_valleyLine_22 : decode cX7_valleyLine 22 = .ok (.ifCond .eq 4, 3) := by decide +kernel
theorem dX7_valleyLine_25 : decode cX7_valleyLine 25 = .ok (.return_, 1) := by decide +kernel
theorem dX7_valleyLine_26 : decode cX7_valleyLine 26 = .ok (.aload_n 0, 1) := by decide +kernel
theorem dX7_valleyLine_27 : decode cX7_valleyLine 27 = .ok (.invokevirtual 127, 3) := by decide +kernel
theorem dX7_valleyLine_30 : decode cX7_valleyLine 30 = .ok (.aload_n 0, 1) := by decide +kernel
theorem dX7_valleyLine_31 : decode cX7_valleyLine 31 = .ok (.getfield 23, 3) := by decide +kernel
theorem dX7_valleyLine_34 : decode cX7_valleyLine 34 = .ok (.iconst 0, 1) := by decide +kernel
theorem dX7_valleyLine_35 : decode cX7_valleyLine 35 = .ok (.aload_n 0, 1) := by decide +kernel
theorem dX7_valleyLine_36 : decode cX7_valleyLine 36 = .ok (.ldc 243, 2) := by decide +kernel
theorem dX7_valleyLine_38 : decode cX7_valleyLine 38 = .ok (.iconst 0, 1) := by decide +kernel
theorem dX7_valleyLine_39 : decode cX7_valleyLine 39 = .ok (.bipush 9, 2) := by decide +kernel
theorem dX7_valleyLine_41 : decode cX7_valleyLine 41 = .ok (.invokevirtual 245, 3) := by decide +kernel
theorem dX7_valleyLine_44 : decode cX7_valleyLine 44 = .ok (.iastore, 1) := by decide +kernel
theorem dX7_valleyLine_45 : decode cX7_valleyLine 45 = .ok (.aload_n 0, 1) := by decide +kernel
theorem dX7_valleyLine_46 : decode cX7_valleyLine 46 = .ok (.ldc 249, 2) := by decide +kernel
theorem dX7_valleyLine_48 : decode cX7_valleyLine 48 = .ok (.iconst 4, 1) := by decide +kernel
theorem dX7_valleyLine_49 : decode cX7_valleyLine 49 = .ok (.bipush 30, 2) := by decide +kernel
theorem dX7_valleyLine_51 : decode cX7_valleyLine 51 = .ok (.invokevirtual 245, 3) := by decide +kernel
theorem dX7_valleyLine_54 : decode cX7_valleyLine 54 = .ok (.istore_n 1, 1) := by decide +kernel
theorem dX7_valleyLine_55 : decode cX7_valleyLine 55 = .ok (.aload_n 0, 1) := by decide +kernel
theorem dX7_valleyLine_56 : decode cX7_valleyLine 56 = .ok (.ldc 251, 2) := by decide +kernel
theorem dX7_valleyLine_58 : decode cX7_valleyLine 58 = .ok (.invokevirtual 171, 3) := by decide +kernel
theorem dX7_valleyLine_61 : decode cX7_valleyLine 61 = .ok (.iconst 0, 1) := by decide +kernel
theorem dX7_valleyLine_62 : decode cX7_valleyLine 62 = .ok (.istore_n 2, 1) := by decide +kernel
theorem dX7_valleyLine_63 : decode cX7_valleyLine 63 = .ok (.iload_n 2, 1) := by decide +kernel
theorem dX7_valleyLine_64 : decode cX7_valleyLine 64 = .ok (.iconst 4, 1) := by decide +kernel
theorem dX7_valleyLine_65 : decode cX7_valleyLine 65 = .ok (.if_icmp .ge 24, 3) := by decide +kernel
theorem dX7_valleyLine_68 : decode cX7_valleyLine 68 = .ok (.aload_n 0, 1) := by decide +kernel
theorem dX7_valleyLine_69 : decode cX7_valleyLine 69 = .ok (.getfield 23, 3) := by decide +kernel
theorem dX7_valleyLine_72 : decode cX7_valleyLine 72 = .ok (.iconst 2, 1) := by decide +kernel
theorem dX7_valleyLine_73 : decode cX7_valleyLine 73 = .ok (.iload_n 2, 1) := by decide +kernel
theorem dX7_valleyLine_74 : decode cX7_valleyLine 74 = .ok (.iadd, 1) := by decide +kernel
theorem dX7_valleyLine_75 : decode cX7_valleyLine 75 = .ok (.aload_n 0, 1) := by decide +kernel
theorem dX7_valleyLine_76 : decode cX7_valleyLine 76 = .ok (.iconst 1, 1) := by decide +kernel
theorem dX7_valleyLine_77 : decode cX7_valleyLine 77 = .ok (.bipush 9, 2) := by decide +kernel
theorem dX7_valleyLine_79 : decode cX7_valleyLine 79 = .ok (.invokevirtual 175, 3) := by decide +kernel
theorem dX7_valleyLine_82 : decode cX7_valleyLine 82 = .ok (.iastore, 1) := by decide +kernel
theorem dX7_valleyLine_83 : decode cX7_valleyLine 83 = .ok (.iinc 2 1, 3) := by decide +kernel
theorem dX7_valleyLine_86 : decode cX7_valleyLine 86 = .ok (.goto (-23), 3) := by decide +kernel
theorem dX7_valleyLine_89 : decode cX7_valleyLine 89 = .ok (.aload_n 0, 1) := by decide +kernel
theorem dX7_valleyLine_90 : decode cX7_valleyLine 90 = .ok (.getfield 106, 3) := by decide +kernel
theorem dX7_valleyLine_93 : decode cX7_valleyLine 93 = .ok (.ifCond .ne 10, 3) := by decide +kernel
theorem dX7_valleyLine_96 : decode cX7_valleyLine 96 = .ok (.aload_n 0, 1) := by decide +kernel
theorem dX7_valleyLine_97 : decode cX7_valleyLine 97 = .ok (.getfield 23, 3) := by decide +kernel
theorem dX7_valleyLine_100 : decode cX7_valleyLine 100 = .ok (.iconst 1, 1) := by decide +kernel
theorem dX7_valleyLine_101 : decode cX7_valleyLine 101 = .ok (.iload_n 1, 1) := by decide +kernel
theorem dX7_valleyLine_102 : decode cX7_valleyLine 102 = .ok (.iastore, 1) := by decide +kernel
theorem dX7_valleyLine_103 : decode cX7_valleyLine 103 = .ok (.return_, 1) := by decide +kernel
def f_X7_valleyLine_l63 : am_F := am_th (i_il 2) (am_th (i_ic (4)) (am_br (b_2 (fun x y => decide (y ≤ x))) (am_to 89) (am_th (i_al 0) (am_th (i_gr 7 16) (am_th (i_ic (2)) (am_th (i_il 2) (am_th (i_2 (fun x y => x + y)) (am_th (i_al 0) (am_th (i_ic (1)) (am_th (i_ic (9)) (am_th (i_cv 7 2 d_X7_number) (am_th (i_iS) (am_th (i_inc 2 (1)) (am_to 63))))))))))))))
def f_X7_valleyLine : am_F := am_th (i_al 0) (am_th (i_gr 7 16) (am_th (i_ic (1)) (am_th (i_ia 0) (am_br (b_1 (fun x => decide (x ≤ 0))) (am_th (i_al 0) (am_th (i_gi 7 13) (am_br (b_1 (fun x => decide (x = 0))) (am_th (i_al 0) (am_th (i_cv 7 0 d_X7_next) (am_th (i_al 0) (am_th (i_gr 7 16) (am_th (i_ic (0)) (am_th (i_al 0) (am_th (i_sg 7) (am_th (i_ic (0)) (am_th (i_ic (9)) (am_th (i_cv 7 3 d_X7_after) (am_th (i_iS) (am_th (i_al 0) (am_th (i_sg 8) (am_th (i_ic (4)) (am_th (i_ic (30)) (am_th (i_cv 7 3 d_X7_after) (am_th (i_is 1) (am_th (i_al 0) (am_th (i_sg 9) (am_th (i_cv 7 1 d_X7_must) (am_th (i_ic (0)) (am_th (i_is 2) (am_sq 89 (am_lp 5000 63 f_X7_valleyLine_l63) (am_th (i_al 0) (am_th (i_gi 7 13) (am_br (b_1 (fun x => decide (¬ x = 0))) (r_v) (am_th (i_al 0) (am_th (i_gr 7 16) (am_th (i_ic (1)) (am_th (i_il 1) (am_th (i_iS) (r_v)))))))))))))))))))))))))))))))) (r_v)))) (am_th (i_al 0) (am_th (i_ic (3)) (am_th (i_al 0) (am_th (i_gi 7 4) (am_th (i_cv 7 2 d_X7_wrong) (am_th (i_al 0) (am_th (i_gi 7 13) (am_br (b_1 (fun x => decide (x = 0))) (am_th (i_al 0) (am_th (i_cv 7 0 d_X7_next) (am_th (i_al 0) (am_th (i_gr 7 16) (am_th (i_ic (0)) (am_th (i_al 0) (am_th (i_sg 7) (am_th (i_ic (0)) (am_th (i_ic (9)) (am_th (i_cv 7 3 d_X7_after) (am_th (i_iS) (am_th (i_al 0) (am_th (i_sg 8) (am_th (i_ic (4)) (am_th (i_ic (30)) (am_th (i_cv 7 3 d_X7_after) (am_th (i_is 1) (am_th (i_al 0) (am_th (i_sg 9) (am_th (i_cv 7 1 d_X7_must) (am_th (i_ic (0)) (am_th (i_is 2) (am_sq 89 (am_lp 5000 63 f_X7_valleyLine_l63) (am_th (i_al 0) (am_th (i_gi 7 13) (am_br (b_1 (fun x => decide (¬ x = 0))) (r_v) (am_th (i_al 0) (am_th (i_gr 7 16) (am_th (i_ic (1)) (am_th (i_il 1) (am_th (i_iS) (r_v)))))))))))))))))))))))))))))))) (r_v)))))))))))))
def d_X7_valleyLine : am_D := am_den 3 f_X7_valleyLine
set_option maxHeartbeats 4000000 in
set_option maxRecDepth 100000 in
theorem b_X7_valleyLine : am_Body yX7_valleyLine cX7_valleyLine 3 none 8 173 f_X7_valleyLine := by
  intro p l e R s m args below meth c g n0 z0 r0 u0 C hr hn
  have C : am_Cx p l e R s m args below meth c g RX7 cX7_valleyLine 3 n0 z0 (am_len u0) (am_wt u0) 8 173 := C
  have l63 : am_Snd (am_GM p l e R s m args below meth c g 3 n0 z0 r0 u0) (am_Rt r0 u0) 63 (f_X7_valleyLine_l63) := by
    unfold f_X7_valleyLine_l63
    exact (so_th (so_iload_n C dX7_valleyLine_63 rfl) (so_th (so_iconst C dX7_valleyLine_64 (by decide)) (so_br (so_icmp_ge C dX7_valleyLine_65 (by decide)) (so_to) (so_th (so_aload_n C dX7_valleyLine_68 rfl) (so_th (so_getr C fl_RX7_23 dX7_valleyLine_69) (so_th (so_iconst C dX7_valleyLine_72 (by decide)) (so_th (so_iload_n C dX7_valleyLine_73 rfl) (so_th (so_iadd C dX7_valleyLine_74) (so_th (so_aload_n C dX7_valleyLine_75 rfl) (so_th (so_iconst C dX7_valleyLine_76 (by decide)) (so_th (so_bipush C dX7_valleyLine_77 (by decide)) (so_th (so_cv C m_X7_number rfl k_530 k_532 k_531 k_533 k_475 ⟨by decide, by decide, by decide +kernel⟩ (by decide) dX7_valleyLine_79) (so_th (so_iast C dX7_valleyLine_82) (so_th (so_iinc C dX7_valleyLine_83 (by decide) (by decide)) (so_goto C dX7_valleyLine_86 (by decide) (so_to))))))))))))))))
  unfold f_X7_valleyLine
  exact (so_th (so_aload_n C dX7_valleyLine_0 rfl) (so_th (so_getr C fl_RX7_23 dX7_valleyLine_1) (so_th (so_iconst C dX7_valleyLine_4 (by decide)) (so_th (so_iald C dX7_valleyLine_5) (so_br (so_if_le C dX7_valleyLine_6 (by decide)) (so_th (so_aload_n C dX7_valleyLine_18 rfl) (so_th (so_geti C fl_RX7_106 (by decide) dX7_valleyLine_19) (so_br (so_if_eq C dX7_valleyLine_22 (by decide)) (so_th (so_aload_n C dX7_valleyLine_26 rfl) (so_th (so_cv C m_X7_next rfl k_491 k_493 k_492 k_494 k_475 ⟨by decide, by decide, by decide +kernel⟩ (by decide) dX7_valleyLine_27) (so_th (so_aload_n C dX7_valleyLine_30 rfl) (so_th (so_getr C fl_RX7_23 dX7_valleyLine_31) (so_th (so_iconst C dX7_valleyLine_34 (by decide)) (so_th (so_aload_n C dX7_valleyLine_35 rfl) (so_th (so_ldcS C dX7_valleyLine_36 (List.mem_of_getElem? (i := 22) rfl)) (so_th (so_iconst C dX7_valleyLine_38 (by decide)) (so_th (so_bipush C dX7_valleyLine_39 (by decide)) (so_th (so_cv C m_X7_after rfl k_538 k_540 k_539 k_541 k_475 ⟨by decide, by decide, by decide +kernel⟩ (by decide) dX7_valleyLine_41) (so_th (so_iast C dX7_valleyLine_44) (so_th (so_aload_n C dX7_valleyLine_45 rfl) (so_th (so_ldcS C dX7_valleyLine_46 (List.mem_of_getElem? (i := 23) rfl)) (so_th (so_iconst C dX7_valleyLine_48 (by decide)) (so_th (so_bipush C dX7_valleyLine_49 (by decide)) (so_th (so_cv C m_X7_after rfl k_538 k_540 k_539 k_541 k_475 ⟨by decide, by decide, by decide +kernel⟩ (by decide) dX7_valleyLine_51) (so_th (so_istore_n C dX7_valleyLine_54 rfl (by decide)) (so_th (so_aload_n C dX7_valleyLine_55 rfl) (so_th (so_ldcS C dX7_valleyLine_56 (List.mem_of_getElem? (i := 24) rfl)) (so_th (so_cv C m_X7_must rfl k_526 k_528 k_527 k_529 k_475 ⟨by decide, by decide, by decide +kernel⟩ (by decide) dX7_valleyLine_58) (so_th (so_iconst C dX7_valleyLine_61 (by decide)) (so_th (so_istore_n C dX7_valleyLine_62 rfl (by decide)) (so_sq (so_lp l63 5000) (so_th (so_aload_n C dX7_valleyLine_89 rfl) (so_th (so_geti C fl_RX7_106 (by decide) dX7_valleyLine_90) (so_br (so_if_ne C dX7_valleyLine_93 (by decide)) (so_rv C hr dX7_valleyLine_103) (so_th (so_aload_n C dX7_valleyLine_96 rfl) (so_th (so_getr C fl_RX7_23 dX7_valleyLine_97) (so_th (so_iconst C dX7_valleyLine_100 (by decide)) (so_th (so_iload_n C dX7_valleyLine_101 rfl) (so_th (so_iast C dX7_valleyLine_102) (so_rv C hr dX7_valleyLine_103)))))))))))))))))))))))))))))))) (so_rv C hr dX7_valleyLine_25)))) (so_th (so_aload_n C dX7_valleyLine_9 rfl) (so_th (so_iconst C dX7_valleyLine_10 (by decide)) (so_th (so_aload_n C dX7_valleyLine_11 rfl) (so_th (so_geti C fl_RX7_87 (by decide) dX7_valleyLine_12) (so_th (so_cv C m_X7_wrong rfl k_499 k_501 k_500 k_502 k_475 ⟨by decide, by decide, by decide +kernel⟩ (by decide) dX7_valleyLine_15) (so_th (so_aload_n C dX7_valleyLine_18 rfl) (so_th (so_geti C fl_RX7_106 (by decide) dX7_valleyLine_19) (so_br (so_if_eq C dX7_valleyLine_22 (by decide)) (so_th (so_aload_n C dX7_valleyLine_26 rfl) (so_th (so_cv C m_X7_next rfl k_491 k_493 k_492 k_494 k_475 ⟨by decide, by decide, by decide +kernel⟩ (by decide) dX7_valleyLine_27) (so_th (so_aload_n C dX7_valleyLine_30 rfl) (so_th (so_getr C fl_RX7_23 dX7_valleyLine_31) (so_th (so_iconst C dX7_valleyLine_34 (by decide)) (so_th (so_aload_n C dX7_valleyLine_35 rfl) (so_th (so_ldcS C dX7_valleyLine_36 (List.mem_of_getElem? (i := 22) rfl)) (so_th (so_iconst C dX7_valleyLine_38 (by decide)) (so_th (so_bipush C dX7_valleyLine_39 (by decide)) (so_th (so_cv C m_X7_after rfl k_538 k_540 k_539 k_541 k_475 ⟨by decide, by decide, by decide +kernel⟩ (by decide) dX7_valleyLine_41) (so_th (so_iast C dX7_valleyLine_44) (so_th (so_aload_n C dX7_valleyLine_45 rfl) (so_th (so_ldcS C dX7_valleyLine_46 (List.mem_of_getElem? (i := 23) rfl)) (so_th (so_iconst C dX7_valleyLine_48 (by decide)) (so_th (so_bipush C dX7_valleyLine_49 (by decide)) (so_th (so_cv C m_X7_after rfl k_538 k_540 k_539 k_541 k_475 ⟨by decide, by decide, by decide +kernel⟩ (by decide) dX7_valleyLine_51) (so_th (so_istore_n C dX7_valleyLine_54 rfl (by decide)) (so_th (so_aload_n C dX7_valleyLine_55 rfl) (so_th (so_ldcS C dX7_valleyLine_56 (List.mem_of_getElem? (i := 24) rfl)) (so_th (so_cv C m_X7_must rfl k_526 k_528 k_527 k_529 k_475 ⟨by decide, by decide, by decide +kernel⟩ (by decide) dX7_valleyLine_58) (so_th (so_iconst C dX7_valleyLine_61 (by decide)) (so_th (so_istore_n C dX7_valleyLine_62 rfl (by decide)) (so_sq (so_lp l63 5000) (so_th (so_aload_n C dX7_valleyLine_89 rfl) (so_th (so_geti C fl_RX7_106 (by decide) dX7_valleyLine_90) (so_br (so_if_ne C dX7_valleyLine_93 (by decide)) (so_rv C hr dX7_valleyLine_103) (so_th (so_aload_n C dX7_valleyLine_96 rfl) (so_th (so_getr C fl_RX7_23 dX7_valleyLine_97) (so_th (so_iconst C dX7_valleyLine_100 (by decide)) (so_th (so_iload_n C dX7_valleyLine_101 rfl) (so_th (so_iast C dX7_valleyLine_102) (so_rv C hr dX7_valleyLine_103)))))))))))))))))))))))))))))))) (so_rv C hr dX7_valleyLine_25))))))))))))))
theorem m_X7_valleyLine : am_M yX7_valleyLine cX7_valleyLine 3 none 8 173 d_X7_valleyLine := am_M_of (by decide +kernel) b_X7_valleyLine
theorem dX7_begins_0 : decode cX7_begins 0 = .ok (.aload_n 0, 1) := by decide +kernel
theorem dX7_begins_1 : decode cX7_begins 1 = .ok (.aload_n 1, 1) := by decide +kernel
theorem dX7_begins_2 : decode cX7_begins 2 = .ok (.invokevirtual 123, 3) := by decide +kernel
theorem dX7_begins_5 : decode cX7_begins 5 = .ok (.ifCond .ne 5, 3) := by decide +kernel
theorem dX7_begins_8 : decode cX7_begins 8 = .ok (.iconst 0, 1) := by decide +kernel
theorem dX7_begins_9 : decode cX7_begins 9 = .ok (.ireturn, 1) := by decide +kernel
theorem dX7_begins_10 : decode cX7_begins 10 = .ok (.iload_n 2, 1) := by decide +kernel
theorem dX7_begins_11 : decode cX7_begins 11 = .ok (.ifCond .ne 12, 3) := by decide +kernel
theorem dX7_begins_14 : decode cX7_begins 14 = .ok (.aload_n 0, 1) := by decide +kernel
theorem dX7_begins_15 : decode cX7_begins 15 = .ok (.iconst 5, 1) := by decide +kernel
theorem dX7_begins_16 : decode cX7_begins 16 = .ok (.aload_n 0, 1) := by decide +kernel
theorem dX7_begins_17 : decode cX7_begins 17 = .ok (.getfield 87, 3) := by decide +kernel
theorem dX7_begins_20 : decode cX7_begins 20 = .ok (.invokevirtual 133, 3) := by decide +kernel
theorem dX7_begins_23 : decode cX7_begins 23 = .ok (.aload_n 0, 1) := by decide +kernel
theorem dX7_begins_24 : decode cX7_begins 24 = .ok (.getfield 23, 3) := by decide +kernel
theorem dX7_begins_27 : decode cX7_begins 27 = .ok (.iconst 1, 1) := by decide +kernel
theorem dX7_begins_28 : decode cX7_begins 28 = .ok (.iaload, 1) := by decide +kernel
theorem dX7_begins_29 : decode cX7_begins 29 = .ok (.ifCond .ne 13, 3) := by decide +kernel
theorem dX7_begins_32 : decode cX7_begins 32 = .ok (.aload_n 0, 1) := by decide +kernel
theorem dX7_begins_33 : decode cX7_begins 33 = .ok (.bipush 6, 2) := by decide +kernel
theorem dX7_begins_35 : decode cX7_begins 35 = .ok (.aload_n 0, 1) := by decide +kernel
theorem dX7_begins_36 : decode cX7_begins 36 = .ok (.getfield 87, 3) := by decide +kernel
theorem dX7_begins_39 : decode cX7_begins 39 = .ok (.invokevirtual 133, 3) := by decide +kernel
theorem dX7_begins_42 : decode cX7_begins 42 = .ok (.aload_n 0, 1) := by decide +kernel
theorem dX7_begins_43 : decode cX7_begins 43 = .ok (.getfield 106, 3) := by decide +kernel
theorem dX7_begins_46 : decode cX7_begins 46 = .ok (.ifCond .ne 7, 3) := by decide +kernel
theorem dX7_begins_49 : decode cX7_begins 49 = .ok (.aload_n 0, 1) := by decide +kernel
theorem dX7_begins_50 : decode cX7_begins 50 = .ok (.invokevirtual 127, 3) := by decide +kernel
theorem dX7_begins_53 : decode cX7_begins 53 = .ok (.iconst 1, 1) := by decide +kernel
theorem dX7_begins_54 : decode cX7_begins 54 = .ok (.ireturn, 1) := by decide +kernel
def f_X7_begins : am_F := am_th (i_al 0) (am_th (i_al 1) (am_th (i_cv 7 1 d_X7_isWord) (am_br (b_1 (fun x => decide (¬ x = 0))) (am_th (i_il 2) (am_br (b_1 (fun x => decide (¬ x = 0))) (am_th (i_al 0) (am_th (i_gr 7 16) (am_th (i_ic (1)) (am_th (i_ia 0) (am_br (b_1 (fun x => decide (¬ x = 0))) (am_th (i_al 0) (am_th (i_gi 7 13) (am_br (b_1 (fun x => decide (¬ x = 0))) (am_th (i_ic (1)) (r_z)) (am_th (i_al 0) (am_th (i_cv 7 0 d_X7_next) (am_th (i_ic (1)) (r_z))))))) (am_th (i_al 0) (am_th (i_ic (6)) (am_th (i_al 0) (am_th (i_gi 7 4) (am_th (i_cv 7 2 d_X7_wrong) (am_th (i_al 0) (am_th (i_gi 7 13) (am_br (b_1 (fun x => decide (¬ x = 0))) (am_th (i_ic (1)) (r_z)) (am_th (i_al 0) (am_th (i_cv 7 0 d_X7_next) (am_th (i_ic (1)) (r_z))))))))))))))))) (am_th (i_al 0) (am_th (i_ic (5)) (am_th (i_al 0) (am_th (i_gi 7 4) (am_th (i_cv 7 2 d_X7_wrong) (am_th (i_al 0) (am_th (i_gr 7 16) (am_th (i_ic (1)) (am_th (i_ia 0) (am_br (b_1 (fun x => decide (¬ x = 0))) (am_th (i_al 0) (am_th (i_gi 7 13) (am_br (b_1 (fun x => decide (¬ x = 0))) (am_th (i_ic (1)) (r_z)) (am_th (i_al 0) (am_th (i_cv 7 0 d_X7_next) (am_th (i_ic (1)) (r_z))))))) (am_th (i_al 0) (am_th (i_ic (6)) (am_th (i_al 0) (am_th (i_gi 7 4) (am_th (i_cv 7 2 d_X7_wrong) (am_th (i_al 0) (am_th (i_gi 7 13) (am_br (b_1 (fun x => decide (¬ x = 0))) (am_th (i_ic (1)) (r_z)) (am_th (i_al 0) (am_th (i_cv 7 0 d_X7_next) (am_th (i_ic (1)) (r_z)))))))))))))))))))))))) (am_th (i_ic (0)) (r_z)))))
def d_X7_begins : am_D := am_den 3 f_X7_begins
set_option maxHeartbeats 4000000 in
set_option maxRecDepth 100000 in
theorem b_X7_begins : am_Body yX7_begins cX7_begins 3 (some .boolean) 5 108 f_X7_begins := by
  intro p l e R s m args below meth c g n0 z0 r0 u0 C hr hn
  have C : am_Cx p l e R s m args below meth c g RX7 cX7_begins 3 n0 z0 (am_len u0) (am_wt u0) 5 108 := C
  unfold f_X7_begins
  exact (so_th (so_aload_n C dX7_begins_0 rfl) (so_th (so_aload_n C dX7_begins_1 rfl) (so_th (so_cv C m_X7_isWord rfl k_487 k_489 k_488 k_490 k_475 ⟨by decide, by decide, by decide +kernel⟩ (by decide) dX7_begins_2) (so_br (so_if_ne C dX7_begins_5 (by decide)) (so_th (so_iload_n C dX7_begins_10 rfl) (so_br (so_if_ne C dX7_begins_11 (by decide)) (so_th (so_aload_n C dX7_begins_23 rfl) (so_th (so_getr C fl_RX7_23 dX7_begins_24) (so_th (so_iconst C dX7_begins_27 (by decide)) (so_th (so_iald C dX7_begins_28) (so_br (so_if_ne C dX7_begins_29 (by decide)) (so_th (so_aload_n C dX7_begins_42 rfl) (so_th (so_geti C fl_RX7_106 (by decide) dX7_begins_43) (so_br (so_if_ne C dX7_begins_46 (by decide)) (so_th (so_iconst C dX7_begins_53 (by decide)) (so_rz C hr dX7_begins_54)) (so_th (so_aload_n C dX7_begins_49 rfl) (so_th (so_cv C m_X7_next rfl k_491 k_493 k_492 k_494 k_475 ⟨by decide, by decide, by decide +kernel⟩ (by decide) dX7_begins_50) (so_th (so_iconst C dX7_begins_53 (by decide)) (so_rz C hr dX7_begins_54))))))) (so_th (so_aload_n C dX7_begins_32 rfl) (so_th (so_bipush C dX7_begins_33 (by decide)) (so_th (so_aload_n C dX7_begins_35 rfl) (so_th (so_geti C fl_RX7_87 (by decide) dX7_begins_36) (so_th (so_cv C m_X7_wrong rfl k_499 k_501 k_500 k_502 k_475 ⟨by decide, by decide, by decide +kernel⟩ (by decide) dX7_begins_39) (so_th (so_aload_n C dX7_begins_42 rfl) (so_th (so_geti C fl_RX7_106 (by decide) dX7_begins_43) (so_br (so_if_ne C dX7_begins_46 (by decide)) (so_th (so_iconst C dX7_begins_53 (by decide)) (so_rz C hr dX7_begins_54)) (so_th (so_aload_n C dX7_begins_49 rfl) (so_th (so_cv C m_X7_next rfl k_491 k_493 k_492 k_494 k_475 ⟨by decide, by decide, by decide +kernel⟩ (by decide) dX7_begins_50) (so_th (so_iconst C dX7_begins_53 (by decide)) (so_rz C hr dX7_begins_54))))))))))))))))) (so_th (so_aload_n C dX7_begins_14 rfl) (so_th (so_iconst C dX7_begins_15 (by decide)) (so_th (so_aload_n C dX7_begins_16 rfl) (so_th (so_geti C fl_RX7_87 (by decide) dX7_begins_17) (so_th (so_cv C m_X7_wrong rfl k_499 k_501 k_500 k_502 k_475 ⟨by decide, by decide, by decide +kernel⟩ (by decide) dX7_begins_20) (so_th (so_aload_n C dX7_begins_23 rfl) (so_th (so_getr C fl_RX7_23 dX7_begins_24) (so_th (so_iconst C dX7_begins_27 (by decide)) (so_th (so_iald C dX7_begins_28) (so_br (so_if_ne C dX7_begins_29 (by decide)) (so_th (so_aload_n C dX7_begins_42 rfl) (so_th (so_geti C fl_RX7_106 (by decide) dX7_begins_43) (so_br (so_if_ne C dX7_begins_46 (by decide)) (so_th (so_iconst C dX7_begins_53 (by decide)) (so_rz C hr dX7_begins_54)) (so_th (so_aload_n C dX7_begins_49 rfl) (so_th (so_cv C m_X7_next rfl k_491 k_493 k_492 k_494 k_475 ⟨by decide, by decide, by decide +kernel⟩ (by decide) dX7_begins_50) (so_th (so_iconst C dX7_begins_53 (by decide)) (so_rz C hr dX7_begins_54))))))) (so_th (so_aload_n C dX7_begins_32 rfl) (so_th (so_bipush C dX7_begins_33 (by decide)) (so_th (so_aload_n C dX7_begins_35 rfl) (so_th (so_geti C fl_RX7_87 (by decide) dX7_begins_36) (so_th (so_cv C m_X7_wrong rfl k_499 k_501 k_500 k_502 k_475 ⟨by decide, by decide, by decide +kernel⟩ (by decide) dX7_begins_39) (so_th (so_aload_n C dX7_begins_42 rfl) (so_th (so_geti C fl_RX7_106 (by decide) dX7_begins_43) (so_br (so_if_ne C dX7_begins_46 (by decide)) (so_th (so_iconst C dX7_begins_53 (by decide)) (so_rz C hr dX7_begins_54)) (so_th (so_aload_n C dX7_begins_49 rfl) (so_th (so_cv C m_X7_next rfl k_491 k_493 k_492 k_494 k_475 ⟨by decide, by decide, by decide +kernel⟩ (by decide) dX7_begins_50) (so_th (so_iconst C dX7_begins_53 (by decide)) (so_rz C hr dX7_begins_54)))))))))))))))))))))))) (so_th (so_iconst C dX7_begins_8 (by decide)) (so_rz C hr dX7_begins_9))))))
theorem m_X7_begins : am_M yX7_begins cX7_begins 3 (some .boolean) 5 108 d_X7_begins := am_M_of (by decide +kernel) b_X7_begins
theorem dX7_familyLine_0 : decode cX7_familyLine 0 = .ok (.aload_n 0, 1) := by decide +kernel
theorem dX7_familyLine_1 : decode cX7_familyLine 1 = .ok (.getfield 106, 3) := by decide +kernel
theorem dX7_familyLine_4 : decode cX7_familyLine 4 = .ok (.ifCond .eq 4, 3) := by decide +kernel
theorem dX7_familyLine_7 : decode cX7_familyLine 7 = .ok (.return_, 1) := by decide +kernel
theorem dX7_familyLine_8 : decode cX7_familyLine 8 = .ok (.aload_n 0, 1) := by decide +kernel
theorem dX7_familyLine_9 : decode cX7_familyLine 9 = .ok (.aload_n 0, 1) := by decide +kernel
theorem dX7_familyLine_10 : decode cX7_familyLine 10 = .ok (.getfield 23, 3) := by decide +kernel
theorem dX7_familyLine_13 : decode cX7_familyLine 13 = .ok (.bipush 6, 2) := by decide +kernel
theorem dX7_familyLine_15 : decode cX7_familyLine 15 = .ok (.iaload, 1) := by decide +kernel
theorem dX7_familyLine_16 : decode cX7_familyLine 16 = .ok (.invokevirtual 252, 3) := by decide +kernel
theorem dX7_familyLine_19 : decode cX7_familyLine 19 = .ok (.aload_n 0, 1) := by decide +kernel
theorem dX7_familyLine_20 : decode cX7_familyLine 20 = .ok (.getfield 23, 3) := by decide +kernel
theorem dX7_familyLine_23 : decode cX7_familyLine 23 = .ok (.bipush 12, 2) := by decide +kernel
theorem dX7_familyLine_25 : decode cX7_familyLine 25 = .ok (.aload_n 0, 1) := by decide +kernel
theorem dX7_familyLine_26 : decode cX7_familyLine 26 = .ok (.getfield 23, 3) := by decide +kernel
theorem dX7_familyLine_29 : decode cX7_familyLine 29 = .ok (.bipush 6, 2) := by decide +kernel
theorem dX7_familyLine_31 : decode cX7_familyLine 31 = .ok (.iaload, 1) := by decide +kernel
theorem dX7_familyLine_32 : decode cX7_familyLine 32 = .ok (.iadd, 1) := by decide +kernel
theorem dX7_familyLine_33 : decode cX7_familyLine 33 = .ok (.aload_n 0, 1) := by decide +kernel
theorem dX7_familyLine_34 : decode cX7_familyLine 34 = .ok (.ldc_w 256, 3) := by decide +kernel
theorem dX7_familyLine_37 : decode cX7_familyLine 37 = .ok (.iconst 1, 1) := by decide +kernel
theorem dX7_familyLine_38 : decode cX7_familyLine 38 = .ok (.bipush 99, 2) := by decide +kernel
theorem dX7_familyLine_40 : decode cX7_familyLine 40 = .ok (.invokevirtual 245, 3) := by decide +kernel
theorem dX7_familyLine_43 : decode cX7_familyLine 43 = .ok (.iastore, 1) := by decide +kernel
theorem dX7_familyLine_44 : decode cX7_familyLine 44 = .ok (.aload_n 0, 1) := by decide +kernel
theorem dX7_familyLine_45 : decode cX7_familyLine 45 = .ok (.getfield 106, 3) := by decide +kernel
theorem dX7_familyLine_48 : decode cX7_familyLine 48 = .ok (.ifCond .ne 14, 3) := by decide +kernel
theorem dX7_familyLine_51 : decode cX7_familyLine 51 = .ok (.aload_n 0, 1) := by decide +kernel
theorem dX7_familyLine_52 : decode cX7_familyLine 52 = .ok (.getfield 23, 3) := by decide +kernel
theorem dX7_familyLine_55 : decode cX7_familyLine 55 = .ok (.bipush 6, 2) := by decide +kernel
theorem dX7_familyLine_57 : decode cX7_familyLine 57 = .ok (.dup2, 1) := by decide +kernel
theorem dX7_familyLine_58 : decode cX7_familyLine 58 = .ok (.iaload, 1) := by decide +kernel
theorem dX7_familyLine_59 : decode cX7_familyLine 59 = .ok (.iconst 1, 1) := by decide +kernel
theorem dX7_familyLine_60 : decode cX7_familyLine 60 = .ok (.iadd, 1) := by decide +kernel
theorem dX7_familyLine_61 : decode cX7_familyLine 61 = .ok (.iastore, 1) := by decide +kernel
theorem dX7_familyLine_62 : decode cX7_familyLine 62 = .ok (.return_, 1) := by decide +kernel
def f_X7_familyLine : am_F := am_th (i_al 0) (am_th (i_gi 7 13) (am_br (b_1 (fun x => decide (x = 0))) (am_th (i_al 0) (am_th (i_al 0) (am_th (i_gr 7 16) (am_th (i_ic (6)) (am_th (i_ia 0) (am_th (i_cv 7 1 d_X7_newName) (am_th (i_al 0) (am_th (i_gr 7 16) (am_th (i_ic (12)) (am_th (i_al 0) (am_th (i_gr 7 16) (am_th (i_ic (6)) (am_th (i_ia 0) (am_th (i_2 (fun x y => x + y)) (am_th (i_al 0) (am_th (i_sg 10) (am_th (i_ic (1)) (am_th (i_ic (99)) (am_th (i_cv 7 3 d_X7_after) (am_th (i_iS) (am_th (i_al 0) (am_th (i_gi 7 13) (am_br (b_1 (fun x => decide (¬ x = 0))) (r_v) (am_th (i_al 0) (am_th (i_gr 7 16) (am_th (i_ic (6)) (am_th (i_dup2) (am_th (i_ia 0) (am_th (i_ic (1)) (am_th (i_2 (fun x y => x + y)) (am_th (i_iS) (r_v)))))))))))))))))))))))))))))))) (r_v)))
def d_X7_familyLine : am_D := am_den 1 f_X7_familyLine
set_option maxHeartbeats 4000000 in
set_option maxRecDepth 100000 in
theorem b_X7_familyLine : am_Body yX7_familyLine cX7_familyLine 1 none 8 173 f_X7_familyLine := by
  intro p l e R s m args below meth c g n0 z0 r0 u0 C hr hn
  have C : am_Cx p l e R s m args below meth c g RX7 cX7_familyLine 1 n0 z0 (am_len u0) (am_wt u0) 8 173 := C
  unfold f_X7_familyLine
  exact (so_th (so_aload_n C dX7_familyLine_0 rfl) (so_th (so_geti C fl_RX7_106 (by decide) dX7_familyLine_1) (so_br (so_if_eq C dX7_familyLine_4 (by decide)) (so_th (so_aload_n C dX7_familyLine_8 rfl) (so_th (so_aload_n C dX7_familyLine_9 rfl) (so_th (so_getr C fl_RX7_23 dX7_familyLine_10) (so_th (so_bipush C dX7_familyLine_13 (by decide)) (so_th (so_iald C dX7_familyLine_15) (so_th (so_cv C m_X7_newName rfl k_542 k_544 k_543 k_545 k_475 ⟨by decide, by decide, by decide +kernel⟩ (by decide) dX7_familyLine_16) (so_th (so_aload_n C dX7_familyLine_19 rfl) (so_th (so_getr C fl_RX7_23 dX7_familyLine_20) (so_th (so_bipush C dX7_familyLine_23 (by decide)) (so_th (so_aload_n C dX7_familyLine_25 rfl) (so_th (so_getr C fl_RX7_23 dX7_familyLine_26) (so_th (so_bipush C dX7_familyLine_29 (by decide)) (so_th (so_iald C dX7_familyLine_31) (so_th (so_iadd C dX7_familyLine_32) (so_th (so_aload_n C dX7_familyLine_33 rfl) (so_th (so_ldcwS C dX7_familyLine_34 (List.mem_of_getElem? (i := 31) rfl)) (so_th (so_iconst C dX7_familyLine_37 (by decide)) (so_th (so_bipush C dX7_familyLine_38 (by decide)) (so_th (so_cv C m_X7_after rfl k_538 k_540 k_539 k_541 k_475 ⟨by decide, by decide, by decide +kernel⟩ (by decide) dX7_familyLine_40) (so_th (so_iast C dX7_familyLine_43) (so_th (so_aload_n C dX7_familyLine_44 rfl) (so_th (so_geti C fl_RX7_106 (by decide) dX7_familyLine_45) (so_br (so_if_ne C dX7_familyLine_48 (by decide)) (so_rv C hr dX7_familyLine_62) (so_th (so_aload_n C dX7_familyLine_51 rfl) (so_th (so_getr C fl_RX7_23 dX7_familyLine_52) (so_th (so_bipush C dX7_familyLine_55 (by decide)) (so_th (so_dup2 C dX7_familyLine_57) (so_th (so_iald C dX7_familyLine_58) (so_th (so_iconst C dX7_familyLine_59 (by decide)) (so_th (so_iadd C dX7_familyLine_60) (so_th (so_iast C dX7_familyLine_61) (so_rv C hr dX7_familyLine_62)))))))))))))))))))))))))))))))) (so_rv C hr dX7_familyLine_7))))
theorem m_X7_familyLine : am_M yX7_familyLine cX7_familyLine 1 none 8 173 d_X7_familyLine := am_M_of (by decide +kernel) b_X7_familyLine
theorem dX7_quarrelLine_0 : decode cX7_quarrelLine 0 = .ok (.aload_n 0, 1) := by decide +kernel
theorem dX7_quarrelLine_1 : decode cX7_quarrelLine 1 = .ok (.getfield 106, 3) := by decide +kernel
theorem dX7_quarrelLine_4 : decode cX7_quarrelLine 4 = .ok (.ifCond .eq 4, 3) := by decide +kernel
theorem dX7_quarrelLine_7 : decode cX7_quarrelLine 7 = .ok (.return_, 1) := by decide +kernel
theorem dX7_quarrelLine_8 : decode cX7_quarrelLine 8 = .ok (.bipush 18, 2) := by decide +kernel
theorem dX7_quarrelLine_10 : decode cX7_quarrelLine 10 = .ok (.iconst 5, 1) := by decide +kernel
theorem dX7_quarrelLine_11 : decode cX7_quarrelLine 11 = .ok (.aload_n 0, 1) := by decide +kernel
theorem dX7_quarrelLine_12 : decode cX7_quarrelLine 12 = .ok (.getfield 23, 3) := by decide +kernel
theorem dX7_quarrelLine_15 : decode cX7_quarrelLine 15 = .ok (.bipush 7, 2) := by decide +kernel
theorem dX7_quarrelLine_17 : decode cX7_quarrelLine 17 = .ok (.iaload, 1) := by decide +kernel
theorem dX7_quarrelLine_18 : decode cX7_quarrelLine 18 = .ok (.imul, 1) := by decide +kernel
theorem dX7_quarrelLine_19 : decode cX7_quarrelLine 19 = .ok (.iadd, 1) := by decide +kernel
theorem dX7_quarrelLine_20 : decode cX7_quarrelLine 20 = .ok (.istore_n 1, 1) := by decide +kernel
theorem dX7_quarrelLine_21 : decode cX7_quarrelLine 21 = .ok (.aload_n 0, 1) := by decide +kernel
theorem dX7_quarrelLine_22 : decode cX7_quarrelLine 22 = .ok (.bipush 6, 2) := by decide +kernel
theorem dX7_quarrelLine_24 : decode cX7_quarrelLine 24 = .ok (.aload_n 0, 1) := by decide +kernel
theorem dX7_quarrelLine_25 : decode cX7_quarrelLine 25 = .ok (.getfield 23, 3) := by decide +kernel
theorem dX7_quarrelLine_28 : decode cX7_quarrelLine 28 = .ok (.bipush 7, 2) := by decide +kernel
theorem dX7_quarrelLine_30 : decode cX7_quarrelLine 30 = .ok (.iaload, 1) := by decide +kernel
theorem dX7_quarrelLine_31 : decode cX7_quarrelLine 31 = .ok (.iadd, 1) := by decide +kernel
theorem dX7_quarrelLine_32 : decode cX7_quarrelLine 32 = .ok (.invokevirtual 252, 3) := by decide +kernel
theorem dX7_quarrelLine_35 : decode cX7_quarrelLine 35 = .ok (.aload_n 0, 1) := by decide +kernel
theorem dX7_quarrelLine_36 : decode cX7_quarrelLine 36 = .ok (.getfield 23, 3) := by decide +kernel
theorem dX7_quarrelLine_39 : decode cX7_quarrelLine 39 = .ok (.iload_n 1, 1) := by decide +kernel
theorem dX7_quarrelLine_40 : decode cX7_quarrelLine 40 = .ok (.aload_n 0, 1) := by decide +kernel
theorem dX7_quarrelLine_41 : decode cX7_quarrelLine 41 = .ok (.invokevirtual 258, 3) := by decide +kernel
theorem dX7_quarrelLine_44 : decode cX7_quarrelLine 44 = .ok (.iastore, 1) := by decide +kernel
theorem dX7_quarrelLine_45 : decode cX7_quarrelLine 45 = .ok (.aload_n 0, 1) := by decide +kernel
theorem dX7_quarrelLine_46 : decode cX7_quarrelLine 46 = .ok (.ldc_w 261, 3) := by decide +kernel
theorem dX7_quarrelLine_49 : decode cX7_quarrelLine 49 = .ok (.invokevirtual 171, 3) := by decide +kernel
theorem dX7_quarrelLine_52 : decode cX7_quarrelLine 52 = .ok (.aload_n 0, 1) := by decide +kernel
theorem dX7_quarrelLine_53 : decode cX7_quarrelLine 53 = .ok (.getfield 23, 3) := by decide +kernel
theorem dX7_quarrelLine_56 : decode cX7_quarrelLine 56 = .ok (.iload_n 1, 1) := by decide +kernel
theorem dX7_quarrelLine_57 : decode cX7_quarrelLine 57 = .ok (.iconst 1, 1) := by decide +kernel
theorem dX7_quarrelLine_58 : decode cX7_quarrelLine 58 = .ok (.iadd, 1) := by decide +kernel
theorem dX7_quarrelLine_59 : decode cX7_quarrelLine 59 = .ok (.aload_n 0, 1) := by decide +kernel
theorem dX7_quarrelLine_60 : decode cX7_quarrelLine 60 = .ok (.invokevirtual 263, 3) := by decide +kernel
theorem dX7_quarrelLine_63 : decode cX7_quarrelLine 63 = .ok (.iastore, 1) := by decide +kernel
theorem dX7_quarrelLine_64 : decode cX7_quarrelLine 64 = .ok (.aload_n 0, 1) := by decide +kernel
theorem dX7_quarrelLine_65 : decode cX7_quarrelLine 65 = .ok (.getfield 106, 3) := by decide +kernel
theorem dX7_quarrelLine_68 : decode cX7_quarrelLine 68 = .ok (.ifCond .ne 7, 3) := by decide +kernel
theorem dX7_quarrelLine_71 : decode cX7_quarrelLine 71 = .ok (.aload_n 0, 1) := by decide +kernel
theorem dX7_quarrelLine_72 : decode cX7_quarrelLine 72 = .ok (.invokevirtual 127, 3) := by decide +kernel
theorem dX7_quarrelLine_75 : decode cX7_quarrelLine 75 = .ok (.aload_n 0, 1) := by decide +kernel
theorem dX7_quarrelLine_76 : decode cX7_quarrelLine 76 = .ok (.invokevirtual 263, 3) := by decide +kernel
theorem dX7_quarrelLine_79 : decode cX7_quarrelLine 79 = .ok (.istore_n 2, 1) := by decide +kernel
theorem dX7_quarrelLine_80 : decode cX7_quarrelLine 80 = .ok (.aload_n 0, 1) := by decide +kernel
theorem dX7_quarrelLine_81 : decode cX7_quarrelLine 81 = .ok (.getfield 106, 3) := by decide +kernel
theorem dX7_quarrelLine_84 : decode cX7_quarrelLine 84 = .ok (.ifCond .ne 24, 3) := by decide +kernel
theorem dX7_quarrelLine_87 : decode cX7_quarrelLine 87 = .ok (.iload_n 2, 1) := by decide +kernel
theorem dX7_quarrelLine_88 : decode cX7_quarrelLine 88 = .ok (.aload_n 0, 1) := by decide +kernel
theorem dX7_quarrelLine_89 : decode cX7_quarrelLine 89 = .ok (.getfield 23, 3) := by decide +kernel
theorem dX7_quarrelLine_92 : decode cX7_quarrelLine 92 = .ok (.iload_n 1, 1) := by decide +kernel
theorem dX7_quarrelLine_93 : decode cX7_quarrelLine 93 = .ok (.iconst 1, 1) := by decide +kernel
theorem dX7_quarrelLine_94 : decode cX7_quarrelLine 94 = .ok (.iadd, 1) := by decide +kernel
theorem dX7_quarrelLine_95 : decode cX7_quarrelLine 95 = .ok (.iaload, 1) := by decide +kernel
theorem dX7_quarrelLine_96 : decode cX7_quarrelLine 96 = .ok (.if_icmp .ne 12, 3) := by decide +kernel
theorem dX7_quarrelLine_99 : decode cX7_quarrelLine 99 = .ok (.aload_n 0, 1) := by decide +kernel
theorem dX7_quarrelLine_100 : decode cX7_quarrelLine 100 = .ok (.iconst 3, 1) := by decide +kernel
theorem dX7_quarrelLine_101 : decode cX7_quarrelLine 101 = .ok (.aload_n 0, 1) := by decide +kernel
theorem dX7_quarrelLine_102 : decode cX7_quarrelLine 102 = .ok (.getfield 87, 3) := by decide +kernel
theorem dX7_quarrelLine_105 : decode cX7_quarrelLine 105 = .ok (.invokevirtual 133, 3) := by decide +kernel
theorem dX7_quarrelLine_108 : decode cX7_quarrelLine 108 = .ok (.aload_n 0, 1) := by decide +kernel
theorem dX7_quarrelLine_109 : decode cX7_quarrelLine 109 = .ok (.getfield 106, 3) := by decide +kernel
theorem dX7_quarrelLine_112 : decode cX7_quarrelLine 112 = .ok (.ifCond .eq 4, 3) := by decide +kernel
theorem dX7_quarrelLine_115 : decode cX7_quarrelLine 115 = .ok (.return_, 1) := by decide +kernel
theorem dX7_quarrelLine_116 : decode cX7_quarrelLine 116 = .ok (.aload_n 0, 1) := by decide +kernel
theorem dX7_quarrelLine_117 : decode cX7_quarrelLine 117 = .ok (.invokevirtual 127, 3) := by decide +kernel
theorem dX7_quarrelLine_120 : decode cX7_quarrelLine 120 = .ok (.aload_n 0, 1) := by decide +kernel
theorem dX7_quarrelLine_121 : decode cX7_quarrelLine 121 = .ok (.getfield 23, 3) := by decide +kernel
theorem dX7_quarrelLine_124 : decode cX7_quarrelLine 124 = .ok (.iload_n 1, 1) := by decide +kernel
theorem dX7_quarrelLine_125 : decode cX7_quarrelLine 125 = .ok (.iconst 2, 1) := by decide +kernel
theorem dX7_quarrelLine_126 : decode cX7_quarrelLine 126 = .ok (.iadd, 1) := by decide +kernel
theorem dX7_quarrelLine_127 : decode cX7_quarrelLine 127 = .ok (.iload_n 2, 1) := by decide +kernel
theorem dX7_quarrelLine_128 : decode cX7_quarrelLine 128 = .ok (.iastore, 1) := by decide +kernel
theorem dX7_quarrelLine_129 : decode cX7_quarrelLine 129 = .ok (.aload_n 0, 1) := by decide +kernel
theorem dX7_quarrelLine_130 : decode cX7_quarrelLine 130 = .ok (.getfield 23, 3) := by decide +kernel
theorem dX7_quarrelLine_133 : decode cX7_quarrelLine 133 = .ok (.iload_n 1, 1) := by decide +kernel
theorem dX7_quarrelLine_134 : decode cX7_quarrelLine 134 = .ok (.iconst 3, 1) := by decide +kernel
theorem dX7_quarrelLine_135 : decode cX7_quarrelLine 135 = .ok (.iadd, 1) := by decide +kernel
theorem dX7_quarrelLine_136 : decode cX7_quarrelLine 136 = .ok (.aload_n 0, 1) := by decide +kernel
theorem dX7_quarrelLine_137 : decode cX7_quarrelLine 137 = .ok (.ldc_w 266, 3) := by decide +kernel
theorem dX7_quarrelLine_140 : decode cX7_quarrelLine 140 = .ok (.iconst 0, 1) := by decide +kernel
theorem dX7_quarrelLine_141 : decode cX7_quarrelLine 141 = .ok (.bipush 30, 2) := by decide +kernel
theorem dX7_quarrelLine_143 : decode cX7_quarrelLine 143 = .ok (.invokevirtual 245, 3) := by decide +kernel
theorem dX7_quarrelLine_146 : decode cX7_quarrelLine 146 = .ok (.iastore, 1) := by decide +kernel
theorem dX7_quarrelLine_147 : decode cX7_quarrelLine 147 = .ok (.aload_n 0, 1) := by decide +kernel
theorem dX7_quarrelLine_148 : decode cX7_quarrelLine 148 = .ok (.getfield 106, 3) := by decide +kernel
theorem dX7_quarrelLine_151 : decode cX7_quarrelLine 151 = .ok (.ifCond .ne 14, 3) := by decide +kernel
theorem dX7_quarrelLine_154 : decode cX7_quarrelLine 154 = .ok (.aload_n 0, 1) := by decide +kernel
theorem dX7_quarrelLine_155 : decode cX7_quarrelLine 155 = .ok (.getfield 23, 3) := by decide +kernel
theorem dX7_quarrelLine_158 : decode cX7_quarrelLine 158 = .ok (.bipush 7, 2) := by decide +kernel
theorem dX7_quarrelLine_160 : decode cX7_quarrelLine 160 = .ok (.dup2, 1) := by decide +kernel
theorem dX7_quarrelLine_161 : decode cX7_quarrelLine 161 = .ok (.iaload, 1) := by decide +kernel
theorem dX7_quarrelLine_162 : decode cX7_quarrelLine 162 = .ok (.iconst 1, 1) := by decide +kernel
theorem dX7_quarrelLine_163 : decode cX7_quarrelLine 163 = .ok (.iadd, 1) := by decide +kernel
theorem dX7_quarrelLine_164 : decode cX7_quarrelLine 164 = .ok (.iastore, 1) := by decide +kernel
theorem dX7_quarrelLine_165 : decode cX7_quarrelLine 165 = .ok (.return_, 1) := by decide +kernel
def f_X7_quarrelLine : am_F := am_th (i_al 0) (am_th (i_gi 7 13) (am_br (b_1 (fun x => decide (x = 0))) (am_th (i_ic (18)) (am_th (i_ic (5)) (am_th (i_al 0) (am_th (i_gr 7 16) (am_th (i_ic (7)) (am_th (i_ia 0) (am_th (i_2 (fun x y => x * y)) (am_th (i_2 (fun x y => x + y)) (am_th (i_is 1) (am_th (i_al 0) (am_th (i_ic (6)) (am_th (i_al 0) (am_th (i_gr 7 16) (am_th (i_ic (7)) (am_th (i_ia 0) (am_th (i_2 (fun x y => x + y)) (am_th (i_cv 7 1 d_X7_newName) (am_th (i_al 0) (am_th (i_gr 7 16) (am_th (i_il 1) (am_th (i_al 0) (am_th (i_cv 7 0 d_X7_kindPassed) (am_th (i_iS) (am_th (i_al 0) (am_th (i_sg 15) (am_th (i_cv 7 1 d_X7_must) (am_th (i_al 0) (am_th (i_gr 7 16) (am_th (i_il 1) (am_th (i_ic (1)) (am_th (i_2 (fun x y => x + y)) (am_th (i_al 0) (am_th (i_cv 7 0 d_X7_familyHere) (am_th (i_iS) (am_th (i_al 0) (am_th (i_gi 7 13) (am_br (b_1 (fun x => decide (¬ x = 0))) (am_th (i_al 0) (am_th (i_cv 7 0 d_X7_familyHere) (am_th (i_is 2) (am_th (i_al 0) (am_th (i_gi 7 13) (am_br (b_1 (fun x => decide (¬ x = 0))) (am_th (i_al 0) (am_th (i_gi 7 13) (am_br (b_1 (fun x => decide (x = 0))) (am_th (i_al 0) (am_th (i_cv 7 0 d_X7_next) (am_th (i_al 0) (am_th (i_gr 7 16) (am_th (i_il 1) (am_th (i_ic (2)) (am_th (i_2 (fun x y => x + y)) (am_th (i_il 2) (am_th (i_iS) (am_th (i_al 0) (am_th (i_gr 7 16) (am_th (i_il 1) (am_th (i_ic (3)) (am_th (i_2 (fun x y => x + y)) (am_th (i_al 0) (am_th (i_sg 16) (am_th (i_ic (0)) (am_th (i_ic (30)) (am_th (i_cv 7 3 d_X7_after) (am_th (i_iS) (am_th (i_al 0) (am_th (i_gi 7 13) (am_br (b_1 (fun x => decide (¬ x = 0))) (r_v) (am_th (i_al 0) (am_th (i_gr 7 16) (am_th (i_ic (7)) (am_th (i_dup2) (am_th (i_ia 0) (am_th (i_ic (1)) (am_th (i_2 (fun x y => x + y)) (am_th (i_iS) (r_v)))))))))))))))))))))))))))))))) (r_v)))) (am_th (i_il 2) (am_th (i_al 0) (am_th (i_gr 7 16) (am_th (i_il 1) (am_th (i_ic (1)) (am_th (i_2 (fun x y => x + y)) (am_th (i_ia 0) (am_br (b_2 (fun x y => decide (¬ x = y))) (am_th (i_al 0) (am_th (i_gi 7 13) (am_br (b_1 (fun x => decide (x = 0))) (am_th (i_al 0) (am_th (i_cv 7 0 d_X7_next) (am_th (i_al 0) (am_th (i_gr 7 16) (am_th (i_il 1) (am_th (i_ic (2)) (am_th (i_2 (fun x y => x + y)) (am_th (i_il 2) (am_th (i_iS) (am_th (i_al 0) (am_th (i_gr 7 16) (am_th (i_il 1) (am_th (i_ic (3)) (am_th (i_2 (fun x y => x + y)) (am_th (i_al 0) (am_th (i_sg 16) (am_th (i_ic (0)) (am_th (i_ic (30)) (am_th (i_cv 7 3 d_X7_after) (am_th (i_iS) (am_th (i_al 0) (am_th (i_gi 7 13) (am_br (b_1 (fun x => decide (¬ x = 0))) (r_v) (am_th (i_al 0) (am_th (i_gr 7 16) (am_th (i_ic (7)) (am_th (i_dup2) (am_th (i_ia 0) (am_th (i_ic (1)) (am_th (i_2 (fun x y => x + y)) (am_th (i_iS) (r_v)))))))))))))))))))))))))))))))) (r_v)))) (am_th (i_al 0) (am_th (i_ic (3)) (am_th (i_al 0) (am_th (i_gi 7 4) (am_th (i_cv 7 2 d_X7_wrong) (am_th (i_al 0) (am_th (i_gi 7 13) (am_br (b_1 (fun x => decide (x = 0))) (am_th (i_al 0) (am_th (i_cv 7 0 d_X7_next) (am_th (i_al 0) (am_th (i_gr 7 16) (am_th (i_il 1) (am_th (i_ic (2)) (am_th (i_2 (fun x y => x + y)) (am_th (i_il 2) (am_th (i_iS) (am_th (i_al 0) (am_th (i_gr 7 16) (am_th (i_il 1) (am_th (i_ic (3)) (am_th (i_2 (fun x y => x + y)) (am_th (i_al 0) (am_th (i_sg 16) (am_th (i_ic (0)) (am_th (i_ic (30)) (am_th (i_cv 7 3 d_X7_after) (am_th (i_iS) (am_th (i_al 0) (am_th (i_gi 7 13) (am_br (b_1 (fun x => decide (¬ x = 0))) (r_v) (am_th (i_al 0) (am_th (i_gr 7 16) (am_th (i_ic (7)) (am_th (i_dup2) (am_th (i_ia 0) (am_th (i_ic (1)) (am_th (i_2 (fun x y => x + y)) (am_th (i_iS) (r_v)))))))))))))))))))))))))))))))) (r_v))))))))))))))))))))))) (am_th (i_al 0) (am_th (i_cv 7 0 d_X7_next) (am_th (i_al 0) (am_th (i_cv 7 0 d_X7_familyHere) (am_th (i_is 2) (am_th (i_al 0) (am_th (i_gi 7 13) (am_br (b_1 (fun x => decide (¬ x = 0))) (am_th (i_al 0) (am_th (i_gi 7 13) (am_br (b_1 (fun x => decide (x = 0))) (am_th (i_al 0) (am_th (i_cv 7 0 d_X7_next) (am_th (i_al 0) (am_th (i_gr 7 16) (am_th (i_il 1) (am_th (i_ic (2)) (am_th (i_2 (fun x y => x + y)) (am_th (i_il 2) (am_th (i_iS) (am_th (i_al 0) (am_th (i_gr 7 16) (am_th (i_il 1) (am_th (i_ic (3)) (am_th (i_2 (fun x y => x + y)) (am_th (i_al 0) (am_th (i_sg 16) (am_th (i_ic (0)) (am_th (i_ic (30)) (am_th (i_cv 7 3 d_X7_after) (am_th (i_iS) (am_th (i_al 0) (am_th (i_gi 7 13) (am_br (b_1 (fun x => decide (¬ x = 0))) (r_v) (am_th (i_al 0) (am_th (i_gr 7 16) (am_th (i_ic (7)) (am_th (i_dup2) (am_th (i_ia 0) (am_th (i_ic (1)) (am_th (i_2 (fun x y => x + y)) (am_th (i_iS) (r_v)))))))))))))))))))))))))))))))) (r_v)))) (am_th (i_il 2) (am_th (i_al 0) (am_th (i_gr 7 16) (am_th (i_il 1) (am_th (i_ic (1)) (am_th (i_2 (fun x y => x + y)) (am_th (i_ia 0) (am_br (b_2 (fun x y => decide (¬ x = y))) (am_th (i_al 0) (am_th (i_gi 7 13) (am_br (b_1 (fun x => decide (x = 0))) (am_th (i_al 0) (am_th (i_cv 7 0 d_X7_next) (am_th (i_al 0) (am_th (i_gr 7 16) (am_th (i_il 1) (am_th (i_ic (2)) (am_th (i_2 (fun x y => x + y)) (am_th (i_il 2) (am_th (i_iS) (am_th (i_al 0) (am_th (i_gr 7 16) (am_th (i_il 1) (am_th (i_ic (3)) (am_th (i_2 (fun x y => x + y)) (am_th (i_al 0) (am_th (i_sg 16) (am_th (i_ic (0)) (am_th (i_ic (30)) (am_th (i_cv 7 3 d_X7_after) (am_th (i_iS) (am_th (i_al 0) (am_th (i_gi 7 13) (am_br (b_1 (fun x => decide (¬ x = 0))) (r_v) (am_th (i_al 0) (am_th (i_gr 7 16) (am_th (i_ic (7)) (am_th (i_dup2) (am_th (i_ia 0) (am_th (i_ic (1)) (am_th (i_2 (fun x y => x + y)) (am_th (i_iS) (r_v)))))))))))))))))))))))))))))))) (r_v)))) (am_th (i_al 0) (am_th (i_ic (3)) (am_th (i_al 0) (am_th (i_gi 7 4) (am_th (i_cv 7 2 d_X7_wrong) (am_th (i_al 0) (am_th (i_gi 7 13) (am_br (b_1 (fun x => decide (x = 0))) (am_th (i_al 0) (am_th (i_cv 7 0 d_X7_next) (am_th (i_al 0) (am_th (i_gr 7 16) (am_th (i_il 1) (am_th (i_ic (2)) (am_th (i_2 (fun x y => x + y)) (am_th (i_il 2) (am_th (i_iS) (am_th (i_al 0) (am_th (i_gr 7 16) (am_th (i_il 1) (am_th (i_ic (3)) (am_th (i_2 (fun x y => x + y)) (am_th (i_al 0) (am_th (i_sg 16) (am_th (i_ic (0)) (am_th (i_ic (30)) (am_th (i_cv 7 3 d_X7_after) (am_th (i_iS) (am_th (i_al 0) (am_th (i_gi 7 13) (am_br (b_1 (fun x => decide (¬ x = 0))) (r_v) (am_th (i_al 0) (am_th (i_gr 7 16) (am_th (i_ic (7)) (am_th (i_dup2) (am_th (i_ia 0) (am_th (i_ic (1)) (am_th (i_2 (fun x y => x + y)) (am_th (i_iS) (r_v)))))))))))))))))))))))))))))))) (r_v)))))))))))))))))))))))))))))))))))))))))))))))))))))))))))))) (r_v)))
def d_X7_quarrelLine : am_D := am_den 3 f_X7_quarrelLine
set_option maxHeartbeats 4000000 in
set_option maxRecDepth 100000 in
theorem b_X7_quarrelLine : am_Body yX7_quarrelLine cX7_quarrelLine 3 none 8 173 f_X7_quarrelLine := by
  intro p l e R s m args below meth c g n0 z0 r0 u0 C hr hn
  have C : am_Cx p l e R s m args below meth c g RX7 cX7_quarrelLine 3 n0 z0 (am_len u0) (am_wt u0) 8 173 := C
  unfold f_X7_quarrelLine
  exact (so_th (so_aload_n C dX7_quarrelLine_0 rfl) (so_th (so_geti C fl_RX7_106 (by decide) dX7_quarrelLine_1) (so_br (so_if_eq C dX7_quarrelLine_4 (by decide)) (so_th (so_bipush C dX7_quarrelLine_8 (by decide)) (so_th (so_iconst C dX7_quarrelLine_10 (by decide)) (so_th (so_aload_n C dX7_quarrelLine_11 rfl) (so_th (so_getr C fl_RX7_23 dX7_quarrelLine_12) (so_th (so_bipush C dX7_quarrelLine_15 (by decide)) (so_th (so_iald C dX7_quarrelLine_17) (so_th (so_imul C dX7_quarrelLine_18) (so_th (so_iadd C dX7_quarrelLine_19) (so_th (so_istore_n C dX7_quarrelLine_20 rfl (by decide)) (so_th (so_aload_n C dX7_quarrelLine_21 rfl) (so_th (so_bipush C dX7_quarrelLine_22 (by decide)) (so_th (so_aload_n C dX7_quarrelLine_24 rfl) (so_th (so_getr C fl_RX7_23 dX7_quarrelLine_25) (so_th (so_bipush C dX7_quarrelLine_28 (by decide)) (so_th (so_iald C dX7_quarrelLine_30) (so_th (so_iadd C dX7_quarrelLine_31) (so_th (so_cv C m_X7_newName rfl k_542 k_544 k_543 k_545 k_475 ⟨by decide, by decide, by decide +kernel⟩ (by decide) dX7_quarrelLine_32) (so_th (so_aload_n C dX7_quarrelLine_35 rfl) (so_th (so_getr C fl_RX7_23 dX7_quarrelLine_36) (so_th (so_iload_n C dX7_quarrelLine_39 rfl) (so_th (so_aload_n C dX7_quarrelLine_40 rfl) (so_th (so_cv C m_X7_kindPassed rfl k_546 k_548 k_547 k_549 k_475 ⟨by decide, by decide, by decide +kernel⟩ (by decide) dX7_quarrelLine_41) (so_th (so_iast C dX7_quarrelLine_44) (so_th (so_aload_n C dX7_quarrelLine_45 rfl) (so_th (so_ldcwS C dX7_quarrelLine_46 (List.mem_of_getElem? (i := 36) rfl)) (so_th (so_cv C m_X7_must rfl k_526 k_528 k_527 k_529 k_475 ⟨by decide, by decide, by decide +kernel⟩ (by decide) dX7_quarrelLine_49) (so_th (so_aload_n C dX7_quarrelLine_52 rfl) (so_th (so_getr C fl_RX7_23 dX7_quarrelLine_53) (so_th (so_iload_n C dX7_quarrelLine_56 rfl) (so_th (so_iconst C dX7_quarrelLine_57 (by decide)) (so_th (so_iadd C dX7_quarrelLine_58) (so_th (so_aload_n C dX7_quarrelLine_59 rfl) (so_th (so_cv C m_X7_familyHere rfl k_550 k_552 k_551 k_553 k_475 ⟨by decide, by decide, by decide +kernel⟩ (by decide) dX7_quarrelLine_60) (so_th (so_iast C dX7_quarrelLine_63) (so_th (so_aload_n C dX7_quarrelLine_64 rfl) (so_th (so_geti C fl_RX7_106 (by decide) dX7_quarrelLine_65) (so_br (so_if_ne C dX7_quarrelLine_68 (by decide)) (so_th (so_aload_n C dX7_quarrelLine_75 rfl) (so_th (so_cv C m_X7_familyHere rfl k_550 k_552 k_551 k_553 k_475 ⟨by decide, by decide, by decide +kernel⟩ (by decide) dX7_quarrelLine_76) (so_th (so_istore_n C dX7_quarrelLine_79 rfl (by decide)) (so_th (so_aload_n C dX7_quarrelLine_80 rfl) (so_th (so_geti C fl_RX7_106 (by decide) dX7_quarrelLine_81) (so_br (so_if_ne C dX7_quarrelLine_84 (by decide)) (so_th (so_aload_n C dX7_quarrelLine_108 rfl) (so_th (so_geti C fl_RX7_106 (by decide) dX7_quarrelLine_109) (so_br (so_if_eq C dX7_quarrelLine_112 (by decide)) (so_th (so_aload_n C dX7_quarrelLine_116 rfl) (so_th (so_cv C m_X7_next rfl k_491 k_493 k_492 k_494 k_475 ⟨by decide, by decide, by decide +kernel⟩ (by decide) dX7_quarrelLine_117) (so_th (so_aload_n C dX7_quarrelLine_120 rfl) (so_th (so_getr C fl_RX7_23 dX7_quarrelLine_121) (so_th (so_iload_n C dX7_quarrelLine_124 rfl) (so_th (so_iconst C dX7_quarrelLine_125 (by decide)) (so_th (so_iadd C dX7_quarrelLine_126) (so_th (so_iload_n C dX7_quarrelLine_127 rfl) (so_th (so_iast C dX7_quarrelLine_128) (so_th (so_aload_n C dX7_quarrelLine_129 rfl) (so_th (so_getr C fl_RX7_23 dX7_quarrelLine_130) (so_th (so_iload_n C dX7_quarrelLine_133 rfl) (so_th (so_iconst C dX7_quarrelLine_134 (by decide)) (so_th (so_iadd C dX7_quarrelLine_135) (so_th (so_aload_n C dX7_quarrelLine_136 rfl) (so_th (so_ldcwS C dX7_quarrelLine_137 (List.mem_of_getElem? (i := 37) rfl)) (so_th (so_iconst C dX7_quarrelLine_140 (by decide)) (so_th (so_bipush C dX7_quarrelLine_141 (by decide)) (so_th (so_cv C m_X7_after rfl k_538 k_540 k_539 k_541 k_475 ⟨by decide, by decide, by decide +kernel⟩ (by decide) dX7_quarrelLine_143) (so_th (so_iast C dX7_quarrelLine_146) (so_th (so_aload_n C dX7_quarrelLine_147 rfl) (so_th (so_geti C fl_RX7_106 (by decide) dX7_quarrelLine_148) (so_br (so_if_ne C dX7_quarrelLine_151 (by decide)) (so_rv C hr dX7_quarrelLine_165) (so_th (so_aload_n C dX7_quarrelLine_154 rfl) (so_th (so_getr C fl_RX7_23 dX7_quarrelLine_155) (so_th (so_bipush C dX7_quarrelLine_158 (by decide)) (so_th (so_dup2 C dX7_quarrelLine_160) (so_th (so_iald C dX7_quarrelLine_161) (so_th (so_iconst C dX7_quarrelLine_162 (by decide)) (so_th (so_iadd C dX7_quarrelLine_163) (so_th (so_iast C dX7_quarrelLine_164) (so_rv C hr dX7_quarrelLine_165)))))))))))))))))))))))))))))))) (so_rv C hr dX7_quarrelLine_115)))) (so_th (so_iload_n C dX7_quarrelLine_87 rfl) (so_th (so_aload_n C dX7_quarrelLine_88 rfl) (so_th (so_getr C fl_RX7_23 dX7_quarrelLine_89) (so_th (so_iload_n C dX7_quarrelLine_92 rfl) (so_th (so_iconst C dX7_quarrelLine_93 (by decide)) (so_th (so_iadd C dX7_quarrelLine_94) (so_th (so_iald C dX7_quarrelLine_95) (so_br (so_icmp_ne C dX7_quarrelLine_96 (by decide)) (so_th (so_aload_n C dX7_quarrelLine_108 rfl) (so_th (so_geti C fl_RX7_106 (by decide) dX7_quarrelLine_109) (so_br (so_if_eq C dX7_quarrelLine_112 (by decide)) (so_th (so_aload_n C dX7_quarrelLine_116 rfl) (so_th (so_cv C m_X7_next rfl k_491 k_493 k_492 k_494 k_475 ⟨by decide, by decide, by decide +kernel⟩ (by decide) dX7_quarrelLine_117) (so_th (so_aload_n C dX7_quarrelLine_120 rfl) (so_th (so_getr C fl_RX7_23 dX7_quarrelLine_121) (so_th (so_iload_n C dX7_quarrelLine_124 rfl) (so_th (so_iconst C dX7_quarrelLine_125 (by decide)) (so_th (so_iadd C dX7_quarrelLine_126) (so_th (so_iload_n C dX7_quarrelLine_127 rfl) (so_th (so_iast C dX7_quarrelLine_128) (so_th (so_aload_n C dX7_quarrelLine_129 rfl) (so_th (so_getr C fl_RX7_23 dX7_quarrelLine_130) (so_th (so_iload_n C dX7_quarrelLine_133 rfl) (so_th (so_iconst C dX7_quarrelLine_134 (by decide)) (so_th (so_iadd C dX7_quarrelLine_135) (so_th (so_aload_n C dX7_quarrelLine_136 rfl) (so_th (so_ldcwS C dX7_quarrelLine_137 (List.mem_of_getElem? (i := 37) rfl)) (so_th (so_iconst C dX7_quarrelLine_140 (by decide)) (so_th (so_bipush C dX7_quarrelLine_141 (by decide)) (so_th (so_cv C m_X7_after rfl k_538 k_540 k_539 k_541 k_475 ⟨by decide, by decide, by decide +kernel⟩ (by decide) dX7_quarrelLine_143) (so_th (so_iast C dX7_quarrelLine_146) (so_th (so_aload_n C dX7_quarrelLine_147 rfl) (so_th (so_geti C fl_RX7_106 (by decide) dX7_quarrelLine_148) (so_br (so_if_ne C dX7_quarrelLine_151 (by decide)) (so_rv C hr dX7_quarrelLine_165) (so_th (so_aload_n C dX7_quarrelLine_154 rfl) (so_th (so_getr C fl_RX7_23 dX7_quarrelLine_155) (so_th (so_bipush C dX7_quarrelLine_158 (by decide)) (so_th (so_dup2 C dX7_quarrelLine_160) (so_th (so_iald C dX7_quarrelLine_161) (so_th (so_iconst C dX7_quarrelLine_162 (by decide)) (so_th (so_iadd C dX7_quarrelLine_163) (so_th (so_iast C dX7_quarrelLine_164) (so_rv C hr dX7_quarrelLine_165)))))))))))))))))))))))))))))))) (so_rv C hr dX7_quarrelLine_115)))) (so_th (so_aload_n C dX7_quarrelLine_99 rfl) (so_th (so_iconst C dX7_quarrelLine_100 (by decide)) (so_th (so_aload_n C dX7_quarrelLine_101 rfl) (so_th (so_geti C fl_RX7_87 (by decide) dX7_quarrelLine_102) (so_th (so_cv C m_X7_wrong rfl k_499 k_501 k_500 k_502 k_475 ⟨by decide, by decide, by decide +kernel⟩ (by decide) dX7_quarrelLine_105) (so_th (so_aload_n C dX7_quarrelLine_108 rfl) (so_th (so_geti C fl_RX7_106 (by decide) dX7_quarrelLine_109) (so_br (so_if_eq C dX7_quarrelLine_112 (by decide)) (so_th (so_aload_n C dX7_quarrelLine_116 rfl) (so_th (so_cv C m_X7_next rfl k_491 k_493 k_492 k_494 k_475 ⟨by decide, by decide, by decide +kernel⟩ (by decide) dX7_quarrelLine_117) (so_th (so_aload_n C dX7_quarrelLine_120 rfl) (so_th (so_getr C fl_RX7_23 dX7_quarrelLine_121) (so_th (so_iload_n C dX7_quarrelLine_124 rfl) (so_th (so_iconst C dX7_quarrelLine_125 (by decide)) (so_th (so_iadd C dX7_quarrelLine_126) (so_th (so_iload_n C dX7_quarrelLine_127 rfl) (so_th (so_iast C dX7_quarrelLine_128) (so_th (so_aload_n C dX7_quarrelLine_129 rfl) (so_th (so_getr C fl_RX7_23 dX7_quarrelLine_130) (so_th (so_iload_n C dX7_quarrelLine_133 rfl) (so_th (so_iconst C dX7_quarrelLine_134 (by decide)) (so_th (so_iadd C dX7_quarrelLine_135) (so_th (so_aload_n C dX7_quarrelLine_136 rfl) (so_th (so_ldcwS C dX7_quarrelLine_137 (List.mem_of_getElem? (i := 37) rfl)) (so_th (so_iconst C dX7_quarrelLine_140 (by decide)) (so_th (so_bipush C dX7_quarrelLine_141 (by decide)) (so_th (so_cv C m_X7_after rfl k_538 k_540 k_539 k_541 k_475 ⟨by decide, by decide, by decide +kernel⟩ (by decide) dX7_quarrelLine_143) (so_th (so_iast C dX7_quarrelLine_146) (so_th (so_aload_n C dX7_quarrelLine_147 rfl) (so_th (so_geti C fl_RX7_106 (by decide) dX7_quarrelLine_148) (so_br (so_if_ne C dX7_quarrelLine_151 (by decide)) (so_rv C hr dX7_quarrelLine_165) (so_th (so_aload_n C dX7_quarrelLine_154 rfl) (so_th (so_getr C fl_RX7_23 dX7_quarrelLine_155) (so_th (so_bipush C dX7_quarrelLine_158 (by decide)) (so_th (so_dup2 C dX7_quarrelLine_160) (so_th (so_iald C dX7_quarrelLine_161) (so_th (so_iconst C dX7_quarrelLine_162 (by decide)) (so_th (so_iadd C dX7_quarrelLine_163) (so_th (so_iast C dX7_quarrelLine_164) (so_rv C hr dX7_quarrelLine_165)))))))))))))))))))))))))))))))) (so_rv C hr dX7_quarrelLine_115))))))))))))))))))))))) (so_th (so_aload_n C dX7_quarrelLine_71 rfl) (so_th (so_cv C m_X7_next rfl k_491 k_493 k_492 k_494 k_475 ⟨by decide, by decide, by decide +kernel⟩ (by decide) dX7_quarrelLine_72) (so_th (so_aload_n C dX7_quarrelLine_75 rfl) (so_th (so_cv C m_X7_familyHere rfl k_550 k_552 k_551 k_553 k_475 ⟨by decide, by decide, by decide +kernel⟩ (by decide) dX7_quarrelLine_76) (so_th (so_istore_n C dX7_quarrelLine_79 rfl (by decide)) (so_th (so_aload_n C dX7_quarrelLine_80 rfl) (so_th (so_geti C fl_RX7_106 (by decide) dX7_quarrelLine_81) (so_br (so_if_ne C dX7_quarrelLine_84 (by decide)) (so_th (so_aload_n C dX7_quarrelLine_108 rfl) (so_th (so_geti C fl_RX7_106 (by decide) dX7_quarrelLine_109) (so_br (so_if_eq C dX7_quarrelLine_112 (by decide)) (so_th (so_aload_n C dX7_quarrelLine_116 rfl) (so_th (so_cv C m_X7_next rfl k_491 k_493 k_492 k_494 k_475 ⟨by decide, by decide, by decide +kernel⟩ (by decide) dX7_quarrelLine_117) (so_th (so_aload_n C dX7_quarrelLine_120 rfl) (so_th (so_getr C fl_RX7_23 dX7_quarrelLine_121) (so_th (so_iload_n C dX7_quarrelLine_124 rfl) (so_th (so_iconst C dX7_quarrelLine_125 (by decide)) (so_th (so_iadd C dX7_quarrelLine_126) (so_th (so_iload_n C dX7_quarrelLine_127 rfl) (so_th (so_iast C dX7_quarrelLine_128) (so_th (so_aload_n C dX7_quarrelLine_129 rfl) (so_th (so_getr C fl_RX7_23 dX7_quarrelLine_130) (so_th (so_iload_n C dX7_quarrelLine_133 rfl) (so_th (so_iconst C dX7_quarrelLine_134 (by decide)) (so_th (so_iadd C dX7_quarrelLine_135) (so_th (so_aload_n C dX7_quarrelLine_136 rfl) (so_th (so_ldcwS C dX7_quarrelLine_137 (List.mem_of_getElem? (i := 37) rfl)) (so_th (so_iconst C dX7_quarrelLine_140 (by decide)) (so_th (so_bipush C dX7_quarrelLine_141 (by decide)) (so_th (so_cv C m_X7_after rfl k_538 k_540 k_539 k_541 k_475 ⟨by decide, by decide, by decide +kernel⟩ (by decide) dX7_quarrelLine_143) (so_th (so_iast C dX7_quarrelLine_146) (so_th (so_aload_n C dX7_quarrelLine_147 rfl) (so_th (so_geti C fl_RX7_106 (by decide) dX7_quarrelLine_148) (so_br (so_if_ne C dX7_quarrelLine_151 (by decide)) (so_rv C hr dX7_quarrelLine_165) (so_th (so_aload_n C dX7_quarrelLine_154 rfl) (so_th (so_getr C fl_RX7_23 dX7_quarrelLine_155) (so_th (so_bipush C dX7_quarrelLine_158 (by decide)) (so_th (so_dup2 C dX7_quarrelLine_160) (so_th (so_iald C dX7_quarrelLine_161) (so_th (so_iconst C dX7_quarrelLine_162 (by decide)) (so_th (so_iadd C dX7_quarrelLine_163) (so_th (so_iast C dX7_quarrelLine_164) (so_rv C hr dX7_quarrelLine_165)))))))))))))))))))))))))))))))) (so_rv C hr dX7_quarrelLine_115)))) (so_th (so_iload_n C dX7_quarrelLine_87 rfl) (so_th (so_aload_n C dX7_quarrelLine_88 rfl) (so_th (so_getr C fl_RX7_23 dX7_quarrelLine_89) (so_th (so_iload_n C dX7_quarrelLine_92 rfl) (so_th (so_iconst C dX7_quarrelLine_93 (by decide)) (so_th (so_iadd C dX7_quarrelLine_94) (so_th (so_iald C dX7_quarrelLine_95) (so_br (so_icmp_ne C dX7_quarrelLine_96 (by decide)) (so_th (so_aload_n C dX7_quarrelLine_108 rfl) (so_th (so_geti C fl_RX7_106 (by decide) dX7_quarrelLine_109) (so_br (so_if_eq C dX7_quarrelLine_112 (by decide)) (so_th (so_aload_n C dX7_quarrelLine_116 rfl) (so_th (so_cv C m_X7_next rfl k_491 k_493 k_492 k_494 k_475 ⟨by decide, by decide, by decide +kernel⟩ (by decide) dX7_quarrelLine_117) (so_th (so_aload_n C dX7_quarrelLine_120 rfl) (so_th (so_getr C fl_RX7_23 dX7_quarrelLine_121) (so_th (so_iload_n C dX7_quarrelLine_124 rfl) (so_th (so_iconst C dX7_quarrelLine_125 (by decide)) (so_th (so_iadd C dX7_quarrelLine_126) (so_th (so_iload_n C dX7_quarrelLine_127 rfl) (so_th (so_iast C dX7_quarrelLine_128) (so_th (so_aload_n C dX7_quarrelLine_129 rfl) (so_th (so_getr C fl_RX7_23 dX7_quarrelLine_130) (so_th (so_iload_n C dX7_quarrelLine_133 rfl) (so_th (so_iconst C dX7_quarrelLine_134 (by decide)) (so_th (so_iadd C dX7_quarrelLine_135) (so_th (so_aload_n C dX7_quarrelLine_136 rfl) (so_th (so_ldcwS C dX7_quarrelLine_137 (List.mem_of_getElem? (i := 37) rfl)) (so_th (so_iconst C dX7_quarrelLine_140 (by decide)) (so_th (so_bipush C dX7_quarrelLine_141 (by decide)) (so_th (so_cv C m_X7_after rfl k_538 k_540 k_539 k_541 k_475 ⟨by decide, by decide, by decide +kernel⟩ (by decide) dX7_quarrelLine_143) (so_th (so_iast C dX7_quarrelLine_146) (so_th (so_aload_n C dX7_quarrelLine_147 rfl) (so_th (so_geti C fl_RX7_106 (by decide) dX7_quarrelLine_148) (so_br (so_if_ne C dX7_quarrelLine_151 (by decide)) (so_rv C hr dX7_quarrelLine_165) (so_th (so_aload_n C dX7_quarrelLine_154 rfl) (so_th (so_getr C fl_RX7_23 dX7_quarrelLine_155) (so_th (so_bipush C dX7_quarrelLine_158 (by decide)) (so_th (so_dup2 C dX7_quarrelLine_160) (so_th (so_iald C dX7_quarrelLine_161) (so_th (so_iconst C dX7_quarrelLine_162 (by decide)) (so_th (so_iadd C dX7_quarrelLine_163) (so_th (so_iast C dX7_quarrelLine_164) (so_rv C hr dX7_quarrelLine_165)))))))))))))))))))))))))))))))) (so_rv C hr dX7_quarrelLine_115)))) (so_th (so_aload_n C dX7_quarrelLine_99 rfl) (so_th (so_iconst C dX7_quarrelLine_100 (by decide)) (so_th (so_aload_n C dX7_quarrelLine_101 rfl) (so_th (so_geti C fl_RX7_87 (by decide) dX7_quarrelLine_102) (so_th (so_cv C m_X7_wrong rfl k_499 k_501 k_500 k_502 k_475 ⟨by decide, by decide, by decide +kernel⟩ (by decide) dX7_quarrelLine_105) (so_th (so_aload_n C dX7_quarrelLine_108 rfl) (so_th (so_geti C fl_RX7_106 (by decide) dX7_quarrelLine_109) (so_br (so_if_eq C dX7_quarrelLine_112 (by decide)) (so_th (so_aload_n C dX7_quarrelLine_116 rfl) (so_th (so_cv C m_X7_next rfl k_491 k_493 k_492 k_494 k_475 ⟨by decide, by decide, by decide +kernel⟩ (by decide) dX7_quarrelLine_117) (so_th (so_aload_n C dX7_quarrelLine_120 rfl) (so_th (so_getr C fl_RX7_23 dX7_quarrelLine_121) (so_th (so_iload_n C dX7_quarrelLine_124 rfl) (so_th (so_iconst C dX7_quarrelLine_125 (by decide)) (so_th (so_iadd C dX7_quarrelLine_126) (so_th (so_iload_n C dX7_quarrelLine_127 rfl) (so_th (so_iast C dX7_quarrelLine_128) (so_th (so_aload_n C dX7_quarrelLine_129 rfl) (so_th (so_getr C fl_RX7_23 dX7_quarrelLine_130) (so_th (so_iload_n C dX7_quarrelLine_133 rfl) (so_th (so_iconst C dX7_quarrelLine_134 (by decide)) (so_th (so_iadd C dX7_quarrelLine_135) (so_th (so_aload_n C dX7_quarrelLine_136 rfl) (so_th (so_ldcwS C dX7_quarrelLine_137 (List.mem_of_getElem? (i := 37) rfl)) (so_th (so_iconst C dX7_quarrelLine_140 (by decide)) (so_th (so_bipush C dX7_quarrelLine_141 (by decide)) (so_th (so_cv C m_X7_after rfl k_538 k_540 k_539 k_541 k_475 ⟨by decide, by decide, by decide +kernel⟩ (by decide) dX7_quarrelLine_143) (so_th (so_iast C dX7_quarrelLine_146) (so_th (so_aload_n C dX7_quarrelLine_147 rfl) (so_th (so_geti C fl_RX7_106 (by decide) dX7_quarrelLine_148) (so_br (so_if_ne C dX7_quarrelLine_151 (by decide)) (so_rv C hr dX7_quarrelLine_165) (so_th (so_aload_n C dX7_quarrelLine_154 rfl) (so_th (so_getr C fl_RX7_23 dX7_quarrelLine_155) (so_th (so_bipush C dX7_quarrelLine_158 (by decide)) (so_th (so_dup2 C dX7_quarrelLine_160) (so_th (so_iald C dX7_quarrelLine_161) (so_th (so_iconst C dX7_quarrelLine_162 (by decide)) (so_th (so_iadd C dX7_quarrelLine_163) (so_th (so_iast C dX7_quarrelLine_164) (so_rv C hr dX7_quarrelLine_165)))))))))))))))))))))))))))))))) (so_rv C hr dX7_quarrelLine_115)))))))))))))))))))))))))))))))))))))))))))))))))))))))))))))) (so_rv C hr dX7_quarrelLine_7))))
theorem m_X7_quarrelLine : am_M yX7_quarrelLine cX7_quarrelLine 3 none 8 173 d_X7_quarrelLine := am_M_of (by decide +kernel) b_X7_quarrelLine
