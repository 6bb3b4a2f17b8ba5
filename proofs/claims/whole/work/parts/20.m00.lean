theorem dX0_init_0 : decode cX0_init 0 = .ok (.aload_n 0, 1) := by decide +kernel
theorem dX0_init_1 : decode cX0_init 1 = .ok (.invokespecial 3, 3) := by decide +kernel
theorem dX0_init_4 : decode cX0_init 4 = .ok (.aload_n 0, 1) := by decide +kernel
theorem dX0_init_5 : decode cX0_init 5 = .ok (.bipush 24, 2) := by decide +kernel
theorem dX0_init_7 : decode cX0_init 7 = .ok (.newarray .int, 2) := by decide +kernel
theorem dX0_init_9 : decode cX0_init 9 = .ok (.putfield 9, 3) := by decide +kernel
theorem dX0_init_12 : decode cX0_init 12 = .ok (.aload_n 0, 1) := by decide +kernel
theorem dX0_init_13 : decode cX0_init 13 = .ok (.bipush 24, 2) := by decide +kernel
theorem dX0_init_15 : decode cX0_init 15 = .ok (.newarray .int, 2) := by decide +kernel
theorem dX0_init_17 : decode cX0_init 17 = .ok (.putfield 15, 3) := by decide +kernel
theorem dX0_init_20 : decode cX0_init 20 = .ok (.aload_n 0, 1) := by decide +kernel
theorem dX0_init_21 : decode cX0_init 21 = .ok (.bipush 24, 2) := by decide +kernel
theorem dX0_init_23 : decode cX0_init 23 = .ok (.newarray .int, 2) := by decide +kernel
theorem dX0_init_25 : decode cX0_init 25 = .ok (.putfield 18, 3) := by decide +kernel
theorem dX0_init_28 : decode cX0_init 28 = .ok (.aload_n 0, 1) := by decide +kernel
theorem dX0_init_29 : decode cX0_init 29 = .ok (.sipush 520, 3) := by decide +kernel
theorem dX0_init_32 : decode cX0_init 32 = .ok (.newarray .int, 2) := by decide +kernel
theorem dX0_init_34 : decode cX0_init 34 = .ok (.putfield 21, 3) := by decide +kernel
theorem dX0_init_37 : decode cX0_init 37 = .ok (.aload_n 0, 1) := by decide +kernel
theorem dX0_init_38 : decode cX0_init 38 = .ok (.sipush 480, 3) := by decide +kernel
theorem dX0_init_41 : decode cX0_init 41 = .ok (.newarray .int, 2) := by decide +kernel
theorem dX0_init_43 : decode cX0_init 43 = .ok (.putfield 24, 3) := by decide +kernel
theorem dX0_init_46 : decode cX0_init 46 = .ok (.return_, 1) := by decide +kernel
def f_X0_init : am_F := am_th (i_al 0) (am_th (i_oi) (am_th (i_al 0) (am_th (i_ic (24)) (am_th (i_na 0) (am_th (i_pr 0 3) (am_th (i_al 0) (am_th (i_ic (24)) (am_th (i_na 0) (am_th (i_pr 0 4) (am_th (i_al 0) (am_th (i_ic (24)) (am_th (i_na 0) (am_th (i_pr 0 5) (am_th (i_al 0) (am_th (i_ic (520)) (am_th (i_na 0) (am_th (i_pr 0 6) (am_th (i_al 0) (am_th (i_ic (480)) (am_th (i_na 0) (am_th (i_pr 0 7) (r_v))))))))))))))))))))))
def d_X0_init : am_D := am_den 1 f_X0_init
set_option maxHeartbeats 4000000 in
set_option maxRecDepth 100000 in
theorem b_X0_init : am_Body yX0_init cX0_init 1 none 1 20 f_X0_init := by
  intro p l e R s m args below meth c g n0 z0 r0 u0 C hr hn
  have C : am_Cx p l e R s m args below meth c g RX0 cX0_init 1 n0 z0 (am_len u0) (am_wt u0) 1 20 := C
  unfold f_X0_init
  exact (so_th (so_aload_n C dX0_init_0 rfl) (so_th (so_oinit C k_0 k_1 k_2 (by decide) dX0_init_1) (so_th (so_aload_n C dX0_init_4 rfl) (so_th (so_bipush C dX0_init_5 (by decide)) (so_th (so_newI C k_3 dX0_init_7) (so_th (so_putr C fl_RX0_9 (Or.inr ⟨_, rfl⟩) fp_0 (Or.inr ⟨rfl, hn, rfl⟩) dX0_init_9) (so_th (so_aload_n C dX0_init_12 rfl) (so_th (so_bipush C dX0_init_13 (by decide)) (so_th (so_newI C k_3 dX0_init_15) (so_th (so_putr C fl_RX0_15 (Or.inr ⟨_, rfl⟩) fp_0 (Or.inr ⟨rfl, hn, rfl⟩) dX0_init_17) (so_th (so_aload_n C dX0_init_20 rfl) (so_th (so_bipush C dX0_init_21 (by decide)) (so_th (so_newI C k_3 dX0_init_23) (so_th (so_putr C fl_RX0_18 (Or.inr ⟨_, rfl⟩) fp_0 (Or.inr ⟨rfl, hn, rfl⟩) dX0_init_25) (so_th (so_aload_n C dX0_init_28 rfl) (so_th (so_sipush C dX0_init_29 (by decide)) (so_th (so_newI C k_3 dX0_init_32) (so_th (so_putr C fl_RX0_21 (Or.inr ⟨_, rfl⟩) fp_0 (Or.inr ⟨rfl, hn, rfl⟩) dX0_init_34) (so_th (so_aload_n C dX0_init_37 rfl) (so_th (so_sipush C dX0_init_38 (by decide)) (so_th (so_newI C k_3 dX0_init_41) (so_th (so_putr C fl_RX0_24 (Or.inr ⟨_, rfl⟩) fp_0 (Or.inr ⟨rfl, hn, rfl⟩) dX0_init_43) (so_rv C hr dX0_init_46)))))))))))))))))))))))
theorem m_X0_init : am_M yX0_init cX0_init 1 none 1 20 d_X0_init := am_M_of (by decide +kernel) b_X0_init
theorem dX5_foodOf_0 : decode cX5_foodOf 0 = .ok (.iload_n 2, 1) := by decide +kernel
theorem dX5_foodOf_1 : decode cX5_foodOf 1 = .ok (.bipush 24, 2) := by decide +kernel
theorem dX5_foodOf_3 : decode cX5_foodOf 3 = .ok (.if_icmp .ge 17, 3) := by decide +kernel
theorem dX5_foodOf_6 : decode cX5_foodOf 6 = .ok (.aload_n 0, 1) := by decide +kernel
theorem dX5_foodOf_7 : decode cX5_foodOf 7 = .ok (.getfield 30, 3) := by decide +kernel
theorem dX5_foodOf_10 : decode cX5_foodOf 10 = .ok (.iload_n 1, 1) := by decide +kernel
theorem dX5_foodOf_11 : decode cX5_foodOf 11 = .ok (.bipush 24, 2) := by decide +kernel
theorem dX5_foodOf_13 : decode cX5_foodOf 13 = .ok (.imul, 1) := by decide +kernel
theorem dX5_foodOf_14 : decode cX5_foodOf 14 = .ok (.iload_n 2, 1) := by decide +kernel
theorem dX5_foodOf_15 : decode cX5_foodOf 15 = .ok (.iadd, 1) := by decide +kernel
theorem dX5_foodOf_16 : decode cX5_foodOf 16 = .ok (.iaload, 1) := by decide +kernel
theorem dX5_foodOf_17 : decode cX5_foodOf 17 = .ok (.goto 4, 3) := by decide +kernel
theorem dX5_foodOf_20 : decode cX5_foodOf 20 = .ok (.iconst 0, 1) := by decide +kernel
theorem dX5_foodOf_21 : decode cX5_foodOf 21 = .ok (.ireturn, 1) := by decide +kernel
def f_X5_foodOf : am_F := am_th (i_il 2) (am_th (i_ic (24)) (am_br (b_2 (fun x y => decide (y ≤ x))) (am_th (i_ic (0)) (r_i)) (am_th (i_al 0) (am_th (i_gr 5 14) (am_th (i_il 1) (am_th (i_ic (24)) (am_th (i_2 (fun x y => x * y)) (am_th (i_il 2) (am_th (i_2 (fun x y => x + y)) (am_th (i_ia 0) (r_i)))))))))))
def d_X5_foodOf : am_D := am_den 3 f_X5_foodOf
set_option maxHeartbeats 4000000 in
set_option maxRecDepth 100000 in
theorem b_X5_foodOf : am_Body yX5_foodOf cX5_foodOf 3 (some .int) 0 0 f_X5_foodOf := by
  intro p l e R s m args below meth c g n0 z0 r0 u0 C hr hn
  have C : am_Cx p l e R s m args below meth c g RX5 cX5_foodOf 3 n0 z0 (am_len u0) (am_wt u0) 0 0 := C
  unfold f_X5_foodOf
  exact (so_th (so_iload_n C dX5_foodOf_0 rfl) (so_th (so_bipush C dX5_foodOf_1 (by decide)) (so_br (so_icmp_ge C dX5_foodOf_3 (by decide)) (so_th (so_iconst C dX5_foodOf_20 (by decide)) (so_ri C hr dX5_foodOf_21)) (so_th (so_aload_n C dX5_foodOf_6 rfl) (so_th (so_getr C fl_RX5_30 dX5_foodOf_7) (so_th (so_iload_n C dX5_foodOf_10 rfl) (so_th (so_bipush C dX5_foodOf_11 (by decide)) (so_th (so_imul C dX5_foodOf_13) (so_th (so_iload_n C dX5_foodOf_14 rfl) (so_th (so_iadd C dX5_foodOf_15) (so_th (so_iald C dX5_foodOf_16) (so_goto C dX5_foodOf_17 (by decide) (so_ri C hr dX5_foodOf_21)))))))))))))
theorem m_X5_foodOf : am_M yX5_foodOf cX5_foodOf 3 (some .int) 0 0 d_X5_foodOf := am_M_of (by decide +kernel) b_X5_foodOf
theorem dX6_has_0 : decode cX6_has 0 = .ok (.iload_n 0, 1) := by decide +kernel
theorem dX6_has_1 : decode cX6_has 1 = .ok (.iload_n 1, 1) := by decide +kernel
theorem dX6_has_2 : decode cX6_has 2 = .ok (.ishr, 1) := by decide +kernel
theorem dX6_has_3 : decode cX6_has 3 = .ok (.iconst 1, 1) := by decide +kernel
theorem dX6_has_4 : decode cX6_has 4 = .ok (.iand, 1) := by decide +kernel
theorem dX6_has_5 : decode cX6_has 5 = .ok (.iconst 1, 1) := by decide +kernel
theorem dX6_has_6 : decode cX6_has 6 = .ok (.if_icmp .ne 7, 3) := by decide +kernel
theorem dX6_has_9 : decode cX6_has 9 = .ok (.iconst 1, 1) := by decide +kernel
theorem dX6_has_10 : decode cX6_has 10 = .ok (.goto 4, 3) := by decide +kernel
theorem dX6_has_13 : decode cX6_has 13 = .ok (.iconst 0, 1) := by decide +kernel
theorem dX6_has_14 : decode cX6_has 14 = .ok (.ireturn, 1) := by decide +kernel
def f_X6_has : am_F := am_th (i_il 0) (am_th (i_il 1) (am_th (i_2 (fun x y => x >>> (y &&& 31))) (am_th (i_ic (1)) (am_th (i_2 (fun x y => x &&& y)) (am_th (i_ic (1)) (am_br (b_2 (fun x y => decide (¬ x = y))) (am_th (i_ic (0)) (r_z)) (am_th (i_ic (1)) (r_z))))))))
def d_X6_has : am_D := am_den 2 f_X6_has
set_option maxHeartbeats 4000000 in
set_option maxRecDepth 100000 in
theorem b_X6_has : am_Body yX6_has cX6_has 2 (some .boolean) 0 0 f_X6_has := by
  intro p l e R s m args below meth c g n0 z0 r0 u0 C hr hn
  have C : am_Cx p l e R s m args below meth c g RX6 cX6_has 2 n0 z0 (am_len u0) (am_wt u0) 0 0 := C
  unfold f_X6_has
  exact (so_th (so_iload_n C dX6_has_0 rfl) (so_th (so_iload_n C dX6_has_1 rfl) (so_th (so_ishr C dX6_has_2) (so_th (so_iconst C dX6_has_3 (by decide)) (so_th (so_iand C dX6_has_4) (so_th (so_iconst C dX6_has_5 (by decide)) (so_br (so_icmp_ne C dX6_has_6 (by decide)) (so_th (so_iconst C dX6_has_13 (by decide)) (so_rz C hr dX6_has_14)) (so_th (so_iconst C dX6_has_9 (by decide)) (so_goto C dX6_has_10 (by decide) (so_rz C hr dX6_has_14))))))))))
theorem m_X6_has : am_M yX6_has cX6_has 2 (some .boolean) 0 0 d_X6_has := am_M_of (by decide +kernel) b_X6_has
theorem dX5_isPotted_0 : decode cX5_isPotted 0 = .ok (.aload_n 0, 1) := by decide +kernel
theorem dX5_isPotted_1 : decode cX5_isPotted 1 = .ok (.getfield 61, 3) := by decide +kernel
theorem dX5_isPotted_4 : decode cX5_isPotted 4 = .ok (.iload_n 1, 1) := by decide +kernel
theorem dX5_isPotted_5 : decode cX5_isPotted 5 = .ok (.invokestatic 64, 3) := by decide +kernel
theorem dX5_isPotted_8 : decode cX5_isPotted 8 = .ok (.ireturn, 1) := by decide +kernel
def f_X5_isPotted : am_F := am_th (i_al 0) (am_th (i_gi 5 7) (am_th (i_il 1) (am_th (i_cs 2 d_X6_has) (r_z))))
def d_X5_isPotted : am_D := am_den 2 f_X5_isPotted
set_option maxHeartbeats 4000000 in
set_option maxRecDepth 100000 in
theorem b_X5_isPotted : am_Body yX5_isPotted cX5_isPotted 2 (some .boolean) 1 21 f_X5_isPotted := by
  intro p l e R s m args below meth c g n0 z0 r0 u0 C hr hn
  have C : am_Cx p l e R s m args below meth c g RX5 cX5_isPotted 2 n0 z0 (am_len u0) (am_wt u0) 1 21 := C
  unfold f_X5_isPotted
  exact (so_th (so_aload_n C dX5_isPotted_0 rfl) (so_th (so_geti C fl_RX5_61 (by decide) dX5_isPotted_1) (so_th (so_iload_n C dX5_isPotted_4 rfl) (so_th (so_csN C m_X6_has k_4 (List.mem_of_getElem? (i := 7) rfl) k_6 k_5 ⟨by decide, by decide, by decide +kernel⟩ (by decide) dX5_isPotted_5) (so_rz C hr dX5_isPotted_8)))))
theorem m_X5_isPotted : am_M yX5_isPotted cX5_isPotted 2 (some .boolean) 1 21 d_X5_isPotted := am_M_of (by decide +kernel) b_X5_isPotted
theorem dX0_begin_0 : decode cX0_begin 0 = .ok (.aload_n 0, 1) := by decide +kernel
theorem dX0_begin_1 : decode cX0_begin 1 = .ok (.aload_n 2, 1) := by decide +kernel
theorem dX0_begin_2 : decode cX0_begin 2 = .ok (.getfield 27, 3) := by decide +kernel
theorem dX0_begin_5 : decode cX0_begin 5 = .ok (.iload_n 3, 1) := by decide +kernel
theorem dX0_begin_6 : decode cX0_begin 6 = .ok (.iaload, 1) := by decide +kernel
theorem dX0_begin_7 : decode cX0_begin 7 = .ok (.putfield 32, 3) := by decide +kernel
theorem dX0_begin_10 : decode cX0_begin 10 = .ok (.aload_n 0, 1) := by decide +kernel
theorem dX0_begin_11 : decode cX0_begin 11 = .ok (.aload_n 1, 1) := by decide +kernel
theorem dX0_begin_12 : decode cX0_begin 12 = .ok (.getfield 35, 3) := by decide +kernel
theorem dX0_begin_15 : decode cX0_begin 15 = .ok (.putfield 40, 3) := by decide +kernel
theorem dX0_begin_18 : decode cX0_begin 18 = .ok (.iconst 0, 1) := by decide +kernel
theorem dX0_begin_19 : decode cX0_begin 19 = .ok (.istore 4, 2) := by decide +kernel
theorem dX0_begin_21 : decode cX0_begin 21 = .ok (.iload 4, 2) := by decide +kernel
theorem dX0_begin_23 : decode cX0_begin 23 = .ok (.bipush 24, 2) := by decide +kernel
theorem dX0_begin_25 : decode cX0_begin 25 = .ok (.if_icmp .ge 132, 3) := by decide +kernel
theorem dX0_begin_28 : decode cX0_begin 28 = .ok (.aload_n 2, 1) := by decide +kernel
theorem dX0_begin_29 : decode cX0_begin 29 = .ok (.getfield 41, 3) := by decide +kernel
theorem dX0_begin_32 : decode cX0_begin 32 = .ok (.iload 4, 2) := by decide +kernel
theorem dX0_begin_34 : decode cX0_begin 34 = .ok (.iadd, 1) := by decide +kernel
theorem dX0_begin_35 : decode cX0_begin 35 = .ok (.istore 5, 2) := by decide +kernel
theorem dX0_begin_37 : decode cX0_begin 37 = .ok (.aload_n 0, 1) := by decide +kernel
theorem dX0_begin_38 : decode cX0_begin 38 = .ok (.getfield 9, 3) := by decide +kernel
theorem dX0_begin_41 : decode cX0_begin 41 = .ok (.iload 4, 2) := by decide +kernel
theorem dX0_begin_43 : decode cX0_begin 43 = .ok (.iconst 0, 1) := by decide +kernel
theorem dX0_begin_44 : decode cX0_begin 44 = .ok (.iastore, 1) := by decide +kernel
theorem dX0_begin_45 : decode cX0_begin 45 = .ok (.iconst 0, 1) := by decide +kernel
theorem dX0_begin_46 : decode cX0_begin 46 = .ok (.istore 6, 2) := by decide +kernel
theorem dX0_begin_48 : decode cX0_begin 48 = .ok (.iload 6, 2) := by decide +kernel
theorem dX0_begin_50 : decode cX0_begin 50 = .ok (.aload_n 1, 1) := by decide +kernel
theorem dX0_begin_51 : decode cX0_begin 51 = .ok (.getfield 44, 3) := by decide +kernel
theorem dX0_begin_54 : decode cX0_begin 54 = .ok (.if_icmp .ge 38, 3) := by decide +kernel
theorem dX0_begin_57 : decode cX0_begin 57 = .ok (.aload_n 2, 1) := by decide +kernel
theorem dX0_begin_58 : decode cX0_begin 58 = .ok (.getfield 47, 3) := by decide +kernel
theorem dX0_begin_61 : decode cX0_begin 61 = .ok (.iload 6, 2) := by decide +kernel
theorem dX0_begin_63 : decode cX0_begin 63 = .ok (.iaload, 1) := by decide +kernel
theorem dX0_begin_64 : decode cX0_begin 64 = .ok (.iload_n 3, 1) := by decide +kernel
theorem dX0_begin_65 : decode cX0_begin 65 = .ok (.if_icmp .ne 21, 3) := by decide +kernel
theorem dX0_begin_68 : decode cX0_begin 68 = .ok (.aload_n 0, 1) := by decide +kernel
theorem dX0_begin_69 : decode cX0_begin 69 = .ok (.getfield 9, 3) := by decide +kernel
theorem dX0_begin_72 : decode cX0_begin 72 = .ok (.iload 4, 2) := by decide +kernel
theorem dX0_begin_74 : decode cX0_begin 74 = .ok (.dup2, 1) := by decide +kernel
theorem dX0_begin_75 : decode cX0_begin 75 = .ok (.iaload, 1) := by decide +kernel
theorem dX0_begin_76 : decode cX0_begin 76 = .ok (.aload_n 1, 1) := by decide +kernel
theorem dX0_begin_77 : decode cX0_begin 77 = .ok (.iload 6, 2) := by decide +kernel
theorem dX0_begin_79 : decode cX0_begin 79 = .ok (.iload 5, 2) := by decide +kernel
theorem dX0_begin_81 : decode cX0_begin 81 = .ok (.invokevirtual 50, 3) := by decide +kernel
theorem dX0_begin_84 : decode cX0_begin 84 = .ok (.iadd, 1) := by decide +kernel
theorem dX0_begin_85 : decode cX0_begin 85 = .ok (.iastore, 1) := by decide +kernel
theorem dX0_begin_86 : decode cX0_begin 86 = .ok (.iinc 6 1, 3) := by decide +kernel
theorem dX0_begin_89 : decode cX0_begin 89 = .ok (.goto (-41), 3) := by decide +kernel
theorem dX0_begin_92 : decode cX0_begin 92 = .ok (.iload 5, 2) := by decide +kernel
theorem dX0_begin_94 : decode cX0_begin 94 = .ok (.iconst 4, 1) := by decide +kernel
theorem dX0_begin_95 : decode cX0_begin 95 = .ok (.irem, 1) := by decide +kernel
theorem dX0_begin_96 : decode cX0_begin 96 = .ok (.iconst 3, 1) := by decide +kernel
theorem dX0_begin_97 : decode cX0_begin 97 = .ok (.if_icmp .ne 15, 3) := by decide +kernel
theorem dX0_begin_100 : decode cX0_begin 100 = .ok (.aload_n 1, 1) := by decide +kernel
theorem dX0_begin_101 : decode cX0_begin 101 = .ok (.iload_n 3, 1) := by decide +kernel
theorem dX0_begin_102 : decode cX0_begin 102 = .ok (.invokevirtual 54, 3) := by decide +kernel
theorem dX0_begin_105 : decode cX0_begin 105 = .ok (.ifCond .ne 7, 3) := by decide +kernel
theorem dX0_begin_108 : decode cX0_begin 108 = .ok (.iconst 1, 1) := by decide +kernel
theorem dX0_begin_109 : decode cX0_begin 109 = .ok (.goto 4, 3) := by decide +kernel
theorem dX0_begin_112 : decode cX0_begin 112 = .ok (.iconst 0, 1) := by decide +kernel
theorem dX0_begin_113 : decode cX0_begin 113 = .ok (.istore 6, 2) := by decide +kernel
theorem dX0_begin_115 : decode cX0_begin 115 = .ok (.aload_n 0, 1) := by decide +kernel
theorem dX0_begin_116 : decode cX0_begin 116 = .ok (.getfield 15, 3) := by decide +kernel
theorem dX0_begin_119 : decode cX0_begin 119 = .ok (.iload 4, 2) := by decide +kernel
theorem dX0_begin_121 : decode cX0_begin 121 = .ok (.iload 6, 2) := by decide +kernel
theorem dX0_begin_123 : decode cX0_begin 123 = .ok (.ifCond .eq 10, 3) := by decide +kernel
theorem dX0_begin_126 : decode cX0_begin 126 = .ok (.aload_n 1, 1) := by decide +kernel
theorem dX0_begin_127 : decode cX0_begin 127 = .ok (.getfield 58, 3) := by decide +kernel
theorem dX0_begin_130 : decode cX0_begin 130 = .ok (.goto 4, 3) := by decide +kernel
theorem dX0_begin_133 : decode cX0_begin 133 = .ok (.iconst 0, 1) := by decide +kernel
theorem dX0_begin_134 : decode cX0_begin 134 = .ok (.iastore, 1) := by decide +kernel
theorem dX0_begin_135 : decode cX0_begin 135 = .ok (.aload_n 0, 1) := by decide +kernel
theorem dX0_begin_136 : decode cX0_begin 136 = .ok (.getfield 18, 3) := by decide +kernel
theorem dX0_begin_139 : decode cX0_begin 139 = .ok (.iload 4, 2) := by decide +kernel
theorem dX0_begin_141 : decode cX0_begin 141 = .ok (.aload_n 1, 1) := by decide +kernel
theorem dX0_begin_142 : decode cX0_begin 142 = .ok (.getfield 61, 3) := by decide +kernel
theorem dX0_begin_145 : decode cX0_begin 145 = .ok (.iload 5, 2) := by decide +kernel
theorem dX0_begin_147 : decode cX0_begin 147 = .ok (.iconst 4, 1) := by decide +kernel
theorem dX0_begin_148 : decode cX0_begin 148 = .ok (.irem, 1) := by decide +kernel
theorem dX0_begin_149 : decode cX0_begin 149 = .ok (.iaload, 1) := by decide +kernel
theorem dX0_begin_150 : decode cX0_begin 150 = .ok (.iastore, 1) := by decide +kernel
theorem dX0_begin_151 : decode cX0_begin 151 = .ok (.iinc 4 1, 3) := by decide +kernel
theorem dX0_begin_154 : decode cX0_begin 154 = .ok (.goto (-133), 3) := by decide +kernel
theorem dX0_begin_157 : decode cX0_begin 157 = .ok (.return_, 1) := by decide +kernel
def f_X0_begin_l48 : am_F := am_th (i_il 6) (am_th (i_al 1) (am_th (i_gi 5 3) (am_br (b_2 (fun x y => decide (y ≤ x))) (am_th (i_il 5) (am_th (i_ic (4)) (am_th (i_2n (fun x y => x - x / y * y)) (am_th (i_ic (3)) (am_sq 113 (am_br (b_2 (fun x y => decide (¬ x = y))) (am_th (i_ic (0)) (am_to 113)) (am_th (i_al 1) (am_th (i_il 3) (am_th (i_cv 5 1 d_X5_isPotted) (am_br (b_1 (fun x => decide (¬ x = 0))) (am_th (i_ic (0)) (am_to 113)) (am_th (i_ic (1)) (am_to 113))))))) (am_th (i_is 6) (am_th (i_al 0) (am_th (i_gr 0 4) (am_th (i_il 4) (am_th (i_il 6) (am_sq 134 (am_br (b_1 (fun x => decide (x = 0))) (am_th (i_ic (0)) (am_to 134)) (am_th (i_al 1) (am_th (i_gi 5 0) (am_to 134)))) (am_th (i_iS) (am_th (i_al 0) (am_th (i_gr 0 5) (am_th (i_il 4) (am_th (i_al 1) (am_th (i_gr 5 8) (am_th (i_il 5) (am_th (i_ic (4)) (am_th (i_2n (fun x y => x - x / y * y)) (am_th (i_ia 0) (am_th (i_iS) (am_th (i_inc 4 (1)) (am_to 21)))))))))))))))))))))))) (am_th (i_al 2) (am_th (i_gr 2 3) (am_th (i_il 6) (am_th (i_ia 0) (am_th (i_il 3) (am_sq 86 (am_br (b_2 (fun x y => decide (¬ x = y))) (am_to 86) (am_th (i_al 0) (am_th (i_gr 0 3) (am_th (i_il 4) (am_th (i_dup2) (am_th (i_ia 0) (am_th (i_al 1) (am_th (i_il 6) (am_th (i_il 5) (am_th (i_cv 5 2 d_X5_foodOf) (am_th (i_2 (fun x y => x + y)) (am_th (i_iS) (am_to 86))))))))))))) (am_th (i_inc 6 (1)) (am_to 48)))))))))))
def f_X0_begin_l21 : am_F := am_th (i_il 4) (am_th (i_ic (24)) (am_br (b_2 (fun x y => decide (y ≤ x))) (am_to 157) (am_th (i_al 2) (am_th (i_gi 2 0) (am_th (i_il 4) (am_th (i_2 (fun x y => x + y)) (am_th (i_is 5) (am_th (i_al 0) (am_th (i_gr 0 3) (am_th (i_il 4) (am_th (i_ic (0)) (am_th (i_iS) (am_th (i_ic (0)) (am_th (i_is 6) (am_lp 5000 48 f_X0_begin_l48)))))))))))))))
def f_X0_begin : am_F := am_th (i_al 0) (am_th (i_al 2) (am_th (i_gr 2 2) (am_th (i_il 3) (am_th (i_ia 0) (am_th (i_pi 0 0) (am_th (i_al 0) (am_th (i_al 1) (am_th (i_gi 5 1) (am_th (i_pi 0 1) (am_th (i_ic (0)) (am_th (i_is 4) (am_sq 157 (am_lp 5000 21 f_X0_begin_l21) (r_v)))))))))))))
def d_X0_begin : am_D := am_den 7 f_X0_begin
set_option maxHeartbeats 4000000 in
set_option maxRecDepth 100000 in
theorem b_X0_begin : am_Body yX0_begin cX0_begin 7 none 2 42 f_X0_begin := by
  intro p l e R s m args below meth c g n0 z0 r0 u0 C hr hn
  have C : am_Cx p l e R s m args below meth c g RX0 cX0_begin 7 n0 z0 (am_len u0) (am_wt u0) 2 42 := C
  have l48 : am_Snd (am_GM p l e R s m args below meth c g 7 n0 z0 r0 u0) (am_Rt r0 u0) 48 (f_X0_begin_l48) := by
    unfold f_X0_begin_l48
    exact (so_th (so_iload C dX0_begin_48) (so_th (so_aload_n C dX0_begin_50 rfl) (so_th (so_geti C fl_RX0_44 (by decide) dX0_begin_51) (so_br (so_icmp_ge C dX0_begin_54 (by decide)) (so_th (so_iload C dX0_begin_92) (so_th (so_iconst C dX0_begin_94 (by decide)) (so_th (so_irem C dX0_begin_95) (so_th (so_iconst C dX0_begin_96 (by decide)) (so_sq (so_br (so_icmp_ne C dX0_begin_97 (by decide)) (so_th (so_iconst C dX0_begin_112 (by decide)) (so_to)) (so_th (so_aload_n C dX0_begin_100 rfl) (so_th (so_iload_n C dX0_begin_101 rfl) (so_th (so_cv C m_X5_isPotted rfl k_7 k_10 k_9 k_11 k_8 ⟨by decide, by decide, by decide +kernel⟩ (by decide) dX0_begin_102) (so_br (so_if_ne C dX0_begin_105 (by decide)) (so_th (so_iconst C dX0_begin_112 (by decide)) (so_to)) (so_th (so_iconst C dX0_begin_108 (by decide)) (so_goto C dX0_begin_109 (by decide) (so_to)))))))) (so_th (so_istore C dX0_begin_113 (by decide)) (so_th (so_aload_n C dX0_begin_115 rfl) (so_th (so_getr C fl_RX0_15 dX0_begin_116) (so_th (so_iload C dX0_begin_119) (so_th (so_iload C dX0_begin_121) (so_sq (so_br (so_if_eq C dX0_begin_123 (by decide)) (so_th (so_iconst C dX0_begin_133 (by decide)) (so_to)) (so_th (so_aload_n C dX0_begin_126 rfl) (so_th (so_geti C fl_RX0_58 (by decide) dX0_begin_127) (so_goto C dX0_begin_130 (by decide) (so_to))))) (so_th (so_iast C dX0_begin_134) (so_th (so_aload_n C dX0_begin_135 rfl) (so_th (so_getr C fl_RX0_18 dX0_begin_136) (so_th (so_iload C dX0_begin_139) (so_th (so_aload_n C dX0_begin_141 rfl) (so_th (so_getr C fl_RX0_61 dX0_begin_142) (so_th (so_iload C dX0_begin_145) (so_th (so_iconst C dX0_begin_147 (by decide)) (so_th (so_irem C dX0_begin_148) (so_th (so_iald C dX0_begin_149) (so_th (so_iast C dX0_begin_150) (so_th (so_iinc C dX0_begin_151 (by decide) (by decide)) (so_goto C dX0_begin_154 (by decide) (so_to))))))))))))))))))))))))) (so_th (so_aload_n C dX0_begin_57 rfl) (so_th (so_getr C fl_RX0_47 dX0_begin_58) (so_th (so_iload C dX0_begin_61) (so_th (so_iald C dX0_begin_63) (so_th (so_iload_n C dX0_begin_64 rfl) (so_sq (so_br (so_icmp_ne C dX0_begin_65 (by decide)) (so_to) (so_th (so_aload_n C dX0_begin_68 rfl) (so_th (so_getr C fl_RX0_9 dX0_begin_69) (so_th (so_iload C dX0_begin_72) (so_th (so_dup2 C dX0_begin_74) (so_th (so_iald C dX0_begin_75) (so_th (so_aload_n C dX0_begin_76 rfl) (so_th (so_iload C dX0_begin_77) (so_th (so_iload C dX0_begin_79) (so_th (so_cv C m_X5_foodOf rfl k_12 k_14 k_13 k_15 k_8 ⟨by decide, by decide, by decide +kernel⟩ (by decide) dX0_begin_81) (so_th (so_iadd C dX0_begin_84) (so_th (so_iast C dX0_begin_85) (so_to))))))))))))) (so_th (so_iinc C dX0_begin_86 (by decide) (by decide)) (so_goto C dX0_begin_89 (by decide) (so_to)))))))))))))
  have l21 : am_Snd (am_GM p l e R s m args below meth c g 7 n0 z0 r0 u0) (am_Rt r0 u0) 21 (f_X0_begin_l21) := by
    unfold f_X0_begin_l21
    exact (so_th (so_iload C dX0_begin_21) (so_th (so_bipush C dX0_begin_23 (by decide)) (so_br (so_icmp_ge C dX0_begin_25 (by decide)) (so_to) (so_th (so_aload_n C dX0_begin_28 rfl) (so_th (so_geti C fl_RX0_41 (by decide) dX0_begin_29) (so_th (so_iload C dX0_begin_32) (so_th (so_iadd C dX0_begin_34) (so_th (so_istore C dX0_begin_35 (by decide)) (so_th (so_aload_n C dX0_begin_37 rfl) (so_th (so_getr C fl_RX0_9 dX0_begin_38) (so_th (so_iload C dX0_begin_41) (so_th (so_iconst C dX0_begin_43 (by decide)) (so_th (so_iast C dX0_begin_44) (so_th (so_iconst C dX0_begin_45 (by decide)) (so_th (so_istore C dX0_begin_46 (by decide)) (so_lp l48 5000))))))))))))))))
  unfold f_X0_begin
  exact (so_th (so_aload_n C dX0_begin_0 rfl) (so_th (so_aload_n C dX0_begin_1 rfl) (so_th (so_getr C fl_RX0_27 dX0_begin_2) (so_th (so_iload_n C dX0_begin_5 rfl) (so_th (so_iald C dX0_begin_6) (so_th (so_puti C fl_RX0_32 fp_0 (Or.inl rfl) dX0_begin_7) (so_th (so_aload_n C dX0_begin_10 rfl) (so_th (so_aload_n C dX0_begin_11 rfl) (so_th (so_geti C fl_RX0_35 (by decide) dX0_begin_12) (so_th (so_puti C fl_RX0_40 fp_0 (Or.inl rfl) dX0_begin_15) (so_th (so_iconst C dX0_begin_18 (by decide)) (so_th (so_istore C dX0_begin_19 (by decide)) (so_sq (so_lp l21 5000) (so_rv C hr dX0_begin_157))))))))))))))
theorem m_X0_begin : am_M yX0_begin cX0_begin 7 none 2 42 d_X0_begin := am_M_of (by decide +kernel) b_X0_begin
theorem dX0_ripe_0 : decode cX0_ripe 0 = .ok (.iconst 0, 1) := by decide +kernel
theorem dX0_ripe_1 : decode cX0_ripe 1 = .ok (.iload_n 2, 1) := by decide +kernel
theorem dX0_ripe_2 : decode cX0_ripe 2 = .ok (.aload_n 0, 1) := by decide +kernel
theorem dX0_ripe_3 : decode cX0_ripe 3 = .ok (.getfield 9, 3) := by decide +kernel
theorem dX0_ripe_6 : decode cX0_ripe 6 = .ok (.iload_n 1, 1) := by decide +kernel
theorem dX0_ripe_7 : decode cX0_ripe 7 = .ok (.iaload, 1) := by decide +kernel
theorem dX0_ripe_8 : decode cX0_ripe 8 = .ok (.iadd, 1) := by decide +kernel
theorem dX0_ripe_9 : decode cX0_ripe 9 = .ok (.aload_n 0, 1) := by decide +kernel
theorem dX0_ripe_10 : decode cX0_ripe 10 = .ok (.getfield 15, 3) := by decide +kernel
theorem dX0_ripe_13 : decode cX0_ripe 13 = .ok (.iload_n 1, 1) := by decide +kernel
theorem dX0_ripe_14 : decode cX0_ripe 14 = .ok (.iaload, 1) := by decide +kernel
theorem dX0_ripe_15 : decode cX0_ripe 15 = .ok (.isub, 1) := by decide +kernel
theorem dX0_ripe_16 : decode cX0_ripe 16 = .ok (.invokestatic 62, 3) := by decide +kernel
theorem dX0_ripe_19 : decode cX0_ripe 19 = .ok (.ireturn, 1) := by decide +kernel
def f_X0_ripe : am_F := am_th (i_ic (0)) (am_th (i_il 2) (am_th (i_al 0) (am_th (i_gr 0 3) (am_th (i_il 1) (am_th (i_ia 0) (am_th (i_2 (fun x y => x + y)) (am_th (i_al 0) (am_th (i_gr 0 4) (am_th (i_il 1) (am_th (i_ia 0) (am_th (i_2 (fun x y => x - y)) (am_th (i_mx (fun x y => if x < y then y else x)) (r_i)))))))))))))
def d_X0_ripe : am_D := am_den 3 f_X0_ripe
set_option maxHeartbeats 4000000 in
set_option maxRecDepth 100000 in
theorem b_X0_ripe : am_Body yX0_ripe cX0_ripe 3 (some .int) 1 21 f_X0_ripe := by
  intro p l e R s m args below meth c g n0 z0 r0 u0 C hr hn
  have C : am_Cx p l e R s m args below meth c g RX0 cX0_ripe 3 n0 z0 (am_len u0) (am_wt u0) 1 21 := C
  unfold f_X0_ripe
  exact (so_th (so_iconst C dX0_ripe_0 (by decide)) (so_th (so_iload_n C dX0_ripe_1 rfl) (so_th (so_aload_n C dX0_ripe_2 rfl) (so_th (so_getr C fl_RX0_9 dX0_ripe_3) (so_th (so_iload_n C dX0_ripe_6 rfl) (so_th (so_iald C dX0_ripe_7) (so_th (so_iadd C dX0_ripe_8) (so_th (so_aload_n C dX0_ripe_9 rfl) (so_th (so_getr C fl_RX0_15 dX0_ripe_10) (so_th (so_iload_n C dX0_ripe_13 rfl) (so_th (so_iald C dX0_ripe_14) (so_th (so_isub C dX0_ripe_15) (so_th (so_max C k_16 k_17 k_18 k_19 (by decide) dX0_ripe_16) (so_ri C hr dX0_ripe_19))))))))))))))
theorem m_X0_ripe : am_M yX0_ripe cX0_ripe 3 (some .int) 1 21 d_X0_ripe := am_M_of (by decide +kernel) b_X0_ripe
theorem dX0_fallsIn_0 : decode cX0_fallsIn 0 = .ok (.aload_n 0, 1) := by decide +kernel
theorem dX0_fallsIn_1 : decode cX0_fallsIn 1 = .ok (.getfield 32, 3) := by decide +kernel
theorem dX0_fallsIn_4 : decode cX0_fallsIn 4 = .ok (.istore 5, 2) := by decide +kernel
theorem dX0_fallsIn_6 : decode cX0_fallsIn 6 = .ok (.iconst 0, 1) := by decide +kernel
theorem dX0_fallsIn_7 : decode cX0_fallsIn 7 = .ok (.istore 6, 2) := by decide +kernel
theorem dX0_fallsIn_9 : decode cX0_fallsIn 9 = .ok (.iconst 0, 1) := by decide +kernel
theorem dX0_fallsIn_10 : decode cX0_fallsIn 10 = .ok (.istore 7, 2) := by decide +kernel
theorem dX0_fallsIn_12 : decode cX0_fallsIn 12 = .ok (.iload 7, 2) := by decide +kernel
theorem dX0_fallsIn_14 : decode cX0_fallsIn 14 = .ok (.iload_n 1, 1) := by decide +kernel
theorem dX0_fallsIn_15 : decode cX0_fallsIn 15 = .ok (.if_icmp .gt 80, 3) := by decide +kernel
theorem dX0_fallsIn_18 : decode cX0_fallsIn 18 = .ok (.iload 7, 2) := by decide +kernel
theorem dX0_fallsIn_20 : decode cX0_fallsIn 20 = .ok (.bipush 24, 2) := by decide +kernel
theorem dX0_fallsIn_22 : decode cX0_fallsIn 22 = .ok (.if_icmp .ge 73, 3) := by decide +kernel
theorem dX0_fallsIn_25 : decode cX0_fallsIn 25 = .ok (.iload_n 3, 1) := by decide +kernel
theorem dX0_fallsIn_26 : decode cX0_fallsIn 26 = .ok (.iload 7, 2) := by decide +kernel
theorem dX0_fallsIn_28 : decode cX0_fallsIn 28 = .ok (.ifCond .ne 7, 3) := by decide +kernel
theorem dX0_fallsIn_31 : decode cX0_fallsIn 31 = .ok (.iload_n 2, 1) := by decide +kernel
theorem dX0_fallsIn_32 : decode cX0_fallsIn 32 = .ok (.goto 4, 3) := by decide +kernel
theorem dX0_fallsIn_35 : decode cX0_fallsIn 35 = .ok (.iconst 0, 1) := by decide +kernel
theorem dX0_fallsIn_36 : decode cX0_fallsIn 36 = .ok (.iadd, 1) := by decide +kernel
theorem dX0_fallsIn_37 : decode cX0_fallsIn 37 = .ok (.istore 8, 2) := by decide +kernel
theorem dX0_fallsIn_39 : decode cX0_fallsIn 39 = .ok (.aload_n 0, 1) := by decide +kernel
theorem dX0_fallsIn_40 : decode cX0_fallsIn 40 = .ok (.iload 7, 2) := by decide +kernel
theorem dX0_fallsIn_42 : decode cX0_fallsIn 42 = .ok (.iconst 0, 1) := by decide +kernel
theorem dX0_fallsIn_43 : decode cX0_fallsIn 43 = .ok (.iload 5, 2) := by decide +kernel
theorem dX0_fallsIn_45 : decode cX0_fallsIn 45 = .ok (.iload 4, 2) := by decide +kernel
theorem dX0_fallsIn_47 : decode cX0_fallsIn 47 = .ok (.isub, 1) := by decide +kernel
theorem dX0_fallsIn_48 : decode cX0_fallsIn 48 = .ok (.invokestatic 62, 3) := by decide +kernel
theorem dX0_fallsIn_51 : decode cX0_fallsIn 51 = .ok (.iload 8, 2) := by decide +kernel
theorem dX0_fallsIn_53 : decode cX0_fallsIn 53 = .ok (.iadd, 1) := by decide +kernel
theorem dX0_fallsIn_54 : decode cX0_fallsIn 54 = .ok (.invokevirtual 67, 3) := by decide +kernel
theorem dX0_fallsIn_57 : decode cX0_fallsIn 57 = .ok (.istore 5, 2) := by decide +kernel
theorem dX0_fallsIn_59 : decode cX0_fallsIn 59 = .ok (.iload 5, 2) := by decide +kernel
theorem dX0_fallsIn_61 : decode cX0_fallsIn 61 = .ok (.aload_n 0, 1) := by decide +kernel
theorem dX0_fallsIn_62 : decode cX0_fallsIn 62 = .ok (.getfield 40, 3) := by decide +kernel
theorem dX0_fallsIn_65 : decode cX0_fallsIn 65 = .ok (.if_icmp .lt 7, 3) := by decide +kernel
theorem dX0_fallsIn_68 : decode cX0_fallsIn 68 = .ok (.iconst 1, 1) := by decide +kernel
theorem dX0_fallsIn_69 : decode cX0_fallsIn 69 = .ok (.goto 4, 3) := by decide +kernel
theorem dX0_fallsIn_72 : decode cX0_fallsIn 72 = .ok (.iconst 0, 1) := by decide +kernel
theorem dX0_fallsIn_73 : decode cX0_fallsIn 73 = .ok (.istore 6, 2) := by decide +kernel
theorem dX0_fallsIn_75 : decode cX0_fallsIn 75 = .ok (.iload 6, 2) := by decide +kernel
theorem dX0_fallsIn_77 : decode cX0_fallsIn 77 = .ok (.ifCond .eq 12, 3) := by decide +kernel
theorem dX0_fallsIn_80 : decode cX0_fallsIn 80 = .ok (.iload 5, 2) := by decide +kernel
theorem dX0_fallsIn_82 : decode cX0_fallsIn 82 = .ok (.aload_n 0, 1) := by decide +kernel
theorem dX0_fallsIn_83 : decode cX0_fallsIn 83 = .ok (.getfield 40, 3) := by decide +kernel
theorem dX0_fallsIn_86 : decode cX0_fallsIn 86 = .ok (.isub, 1) := by decide +kernel
theorem dX0_fallsIn_87 : decode cX0_fallsIn 87 = .ok (.istore 5, 2) := by decide +kernel
theorem dX0_fallsIn_89 : decode cX0_fallsIn 89 = .ok (.iinc 7 1, 3) := by decide +kernel
theorem dX0_fallsIn_92 : decode cX0_fallsIn 92 = .ok (.goto (-80), 3) := by decide +kernel
theorem dX0_fallsIn_95 : decode cX0_fallsIn 95 = .ok (.iload 6, 2) := by decide +kernel
theorem dX0_fallsIn_97 : decode cX0_fallsIn 97 = .ok (.ireturn, 1) := by decide +kernel
def f_X0_fallsIn_l12 : am_F := am_th (i_il 7) (am_th (i_il 1) (am_br (b_2 (fun x y => decide (y < x))) (am_to 95) (am_th (i_il 7) (am_th (i_ic (24)) (am_br (b_2 (fun x y => decide (y ≤ x))) (am_to 95) (am_th (i_il 3) (am_th (i_il 7) (am_sq 36 (am_br (b_1 (fun x => decide (¬ x = 0))) (am_th (i_ic (0)) (am_to 36)) (am_th (i_il 2) (am_to 36))) (am_th (i_2 (fun x y => x + y)) (am_th (i_is 8) (am_th (i_al 0) (am_th (i_il 7) (am_th (i_ic (0)) (am_th (i_il 5) (am_th (i_il 4) (am_th (i_2 (fun x y => x - y)) (am_th (i_mx (fun x y => if x < y then y else x)) (am_th (i_il 8) (am_th (i_2 (fun x y => x + y)) (am_th (i_cv 0 2 d_X0_ripe) (am_th (i_is 5) (am_th (i_il 5) (am_th (i_al 0) (am_th (i_gi 0 1) (am_sq 73 (am_br (b_2 (fun x y => decide (x < y))) (am_th (i_ic (0)) (am_to 73)) (am_th (i_ic (1)) (am_to 73))) (am_th (i_is 6) (am_th (i_il 6) (am_sq 89 (am_br (b_1 (fun x => decide (x = 0))) (am_to 89) (am_th (i_il 5) (am_th (i_al 0) (am_th (i_gi 0 1) (am_th (i_2 (fun x y => x - y)) (am_th (i_is 5) (am_to 89))))))) (am_th (i_inc 7 (1)) (am_to 12))))))))))))))))))))))))))))))
def f_X0_fallsIn : am_F := am_th (i_al 0) (am_th (i_gi 0 0) (am_th (i_is 5) (am_th (i_ic (0)) (am_th (i_is 6) (am_th (i_ic (0)) (am_th (i_is 7) (am_sq 95 (am_lp 5000 12 f_X0_fallsIn_l12) (am_th (i_il 6) (r_z)))))))))
def d_X0_fallsIn : am_D := am_den 9 f_X0_fallsIn
set_option maxHeartbeats 4000000 in
set_option maxRecDepth 100000 in
theorem b_X0_fallsIn : am_Body yX0_fallsIn cX0_fallsIn 9 (some .boolean) 2 43 f_X0_fallsIn := by
  intro p l e R s m args below meth c g n0 z0 r0 u0 C hr hn
  have C : am_Cx p l e R s m args below meth c g RX0 cX0_fallsIn 9 n0 z0 (am_len u0) (am_wt u0) 2 43 := C
  have l12 : am_Snd (am_GM p l e R s m args below meth c g 9 n0 z0 r0 u0) (am_Rt r0 u0) 12 (f_X0_fallsIn_l12) := by
    unfold f_X0_fallsIn_l12
    exact (so_th (so_iload C dX0_fallsIn_12) (so_th (so_iload_n C dX0_fallsIn_14 rfl) (so_br (so_icmp_gt C dX0_fallsIn_15 (by decide)) (so_to) (so_th (so_iload C dX0_fallsIn_18) (so_th (so_bipush C dX0_fallsIn_20 (by decide)) (so_br (so_icmp_ge C dX0_fallsIn_22 (by decide)) (so_to) (so_th (so_iload_n C dX0_fallsIn_25 rfl) (so_th (so_iload C dX0_fallsIn_26) (so_sq (so_br (so_if_ne C dX0_fallsIn_28 (by decide)) (so_th (so_iconst C dX0_fallsIn_35 (by decide)) (so_to)) (so_th (so_iload_n C dX0_fallsIn_31 rfl) (so_goto C dX0_fallsIn_32 (by decide) (so_to)))) (so_th (so_iadd C dX0_fallsIn_36) (so_th (so_istore C dX0_fallsIn_37 (by decide)) (so_th (so_aload_n C dX0_fallsIn_39 rfl) (so_th (so_iload C dX0_fallsIn_40) (so_th (so_iconst C dX0_fallsIn_42 (by decide)) (so_th (so_iload C dX0_fallsIn_43) (so_th (so_iload C dX0_fallsIn_45) (so_th (so_isub C dX0_fallsIn_47) (so_th (so_max C k_16 k_17 k_18 k_19 (by decide) dX0_fallsIn_48) (so_th (so_iload C dX0_fallsIn_51) (so_th (so_iadd C dX0_fallsIn_53) (so_th (so_cv C m_X0_ripe rfl k_20 k_23 k_22 k_24 k_21 ⟨by decide, by decide, by decide +kernel⟩ (by decide) dX0_fallsIn_54) (so_th (so_istore C dX0_fallsIn_57 (by decide)) (so_th (so_iload C dX0_fallsIn_59) (so_th (so_aload_n C dX0_fallsIn_61 rfl) (so_th (so_geti C fl_RX0_40 (by decide) dX0_fallsIn_62) (so_sq (so_br (so_icmp_lt C dX0_fallsIn_65 (by decide)) (so_th (so_iconst C dX0_fallsIn_72 (by decide)) (so_to)) (so_th (so_iconst C dX0_fallsIn_68 (by decide)) (so_goto C dX0_fallsIn_69 (by decide) (so_to)))) (so_th (so_istore C dX0_fallsIn_73 (by decide)) (so_th (so_iload C dX0_fallsIn_75) (so_sq (so_br (so_if_eq C dX0_fallsIn_77 (by decide)) (so_to) (so_th (so_iload C dX0_fallsIn_80) (so_th (so_aload_n C dX0_fallsIn_82 rfl) (so_th (so_geti C fl_RX0_40 (by decide) dX0_fallsIn_83) (so_th (so_isub C dX0_fallsIn_86) (so_th (so_istore C dX0_fallsIn_87 (by decide)) (so_to))))))) (so_th (so_iinc C dX0_fallsIn_89 (by decide) (by decide)) (so_goto C dX0_fallsIn_92 (by decide) (so_to))))))))))))))))))))))))))))))))
  unfold f_X0_fallsIn
  exact (so_th (so_aload_n C dX0_fallsIn_0 rfl) (so_th (so_geti C fl_RX0_32 (by decide) dX0_fallsIn_1) (so_th (so_istore C dX0_fallsIn_4 (by decide)) (so_th (so_iconst C dX0_fallsIn_6 (by decide)) (so_th (so_istore C dX0_fallsIn_7 (by decide)) (so_th (so_iconst C dX0_fallsIn_9 (by decide)) (so_th (so_istore C dX0_fallsIn_10 (by decide)) (so_sq (so_lp l12 5000) (so_th (so_iload C dX0_fallsIn_95) (so_rz C hr dX0_fallsIn_97))))))))))
theorem m_X0_fallsIn : am_M yX0_fallsIn cX0_fallsIn 9 (some .boolean) 2 43 d_X0_fallsIn := am_M_of (by decide +kernel) b_X0_fallsIn
theorem dX0_planCutsIn_0 : decode cX0_planCutsIn 0 = .ok (.iconst 0, 1) := by decide +kernel
theorem dX0_planCutsIn_1 : decode cX0_planCutsIn 1 = .ok (.istore_n 2, 1) := by decide +kernel
theorem dX0_planCutsIn_2 : decode cX0_planCutsIn 2 = .ok (.iload_n 2, 1) := by decide +kernel
theorem dX0_planCutsIn_3 : decode cX0_planCutsIn 3 = .ok (.bipush 40, 2) := by decide +kernel
theorem dX0_planCutsIn_5 : decode cX0_planCutsIn 5 = .ok (.if_icmp .ge 150, 3) := by decide +kernel
theorem dX0_planCutsIn_8 : decode cX0_planCutsIn 8 = .ok (.iload_n 1, 1) := by decide +kernel
theorem dX0_planCutsIn_9 : decode cX0_planCutsIn 9 = .ok (.bipush 40, 2) := by decide +kernel
theorem dX0_planCutsIn_11 : decode cX0_planCutsIn 11 = .ok (.imul, 1) := by decide +kernel
theorem dX0_planCutsIn_12 : decode cX0_planCutsIn 12 = .ok (.iload_n 2, 1) := by decide +kernel
theorem dX0_planCutsIn_13 : decode cX0_planCutsIn 13 = .ok (.iadd, 1) := by decide +kernel
theorem dX0_planCutsIn_14 : decode cX0_planCutsIn 14 = .ok (.istore_n 3, 1) := by decide +kernel
theorem dX0_planCutsIn_15 : decode cX0_planCutsIn 15 = .ok (.aload_n 0, 1) := by decide +kernel
theorem dX0_planCutsIn_16 : decode cX0_planCutsIn 16 = .ok (.iload_n 1, 1) := by decide +kernel
theorem dX0_planCutsIn_17 : decode cX0_planCutsIn 17 = .ok (.iload_n 2, 1) := by decide +kernel
theorem dX0_planCutsIn_18 : decode cX0_planCutsIn 18 = .ok (.invokevirtual 67, 3) := by decide +kernel
theorem dX0_planCutsIn_21 : decode cX0_planCutsIn 21 = .ok (.istore 4, 2) := by decide +kernel
theorem dX0_planCutsIn_23 : decode cX0_planCutsIn 23 = .ok (.aload_n 0, 1) := by decide +kernel
theorem dX0_planCutsIn_24 : decode cX0_planCutsIn 24 = .ok (.getfield 21, 3) := by decide +kernel
theorem dX0_planCutsIn_27 : decode cX0_planCutsIn 27 = .ok (.iload_n 3, 1) := by decide +kernel
theorem dX0_planCutsIn_28 : decode cX0_planCutsIn 28 = .ok (.iload 4, 2) := by decide +kernel
theorem dX0_planCutsIn_30 : decode cX0_planCutsIn 30 = .ok (.aload_n 0, 1) := by decide +kernel
theorem dX0_planCutsIn_31 : decode cX0_planCutsIn 31 = .ok (.getfield 40, 3) := by decide +kernel
theorem dX0_planCutsIn_34 : decode cX0_planCutsIn 34 = .ok (.if_icmp .ge 27, 3) := by decide +kernel
theorem dX0_planCutsIn_37 : decode cX0_planCutsIn 37 = .ok (.iload 4, 2) := by decide +kernel
theorem dX0_planCutsIn_39 : decode cX0_planCutsIn 39 = .ok (.bipush 40, 2) := by decide +kernel
theorem dX0_planCutsIn_41 : decode cX0_planCutsIn 41 = .ok (.if_icmp .ge 20, 3) := by decide +kernel
theorem dX0_planCutsIn_44 : decode cX0_planCutsIn 44 = .ok (.aload_n 0, 1) := by decide +kernel
theorem dX0_planCutsIn_45 : decode cX0_planCutsIn 45 = .ok (.getfield 21, 3) := by decide +kernel
theorem dX0_planCutsIn_48 : decode cX0_planCutsIn 48 = .ok (.iload_n 1, 1) := by decide +kernel
theorem dX0_planCutsIn_49 : decode cX0_planCutsIn 49 = .ok (.iconst 1, 1) := by decide +kernel
theorem dX0_planCutsIn_50 : decode cX0_planCutsIn 50 = .ok (.iadd, 1) := by decide +kernel
theorem dX0_planCutsIn_51 : decode cX0_planCutsIn 51 = .ok (.bipush 40, 2) := by decide +kernel
theorem dX0_planCutsIn_53 : decode cX0_planCutsIn 53 = .ok (.imul, 1) := by decide +kernel
theorem dX0_planCutsIn_54 : decode cX0_planCutsIn 54 = .ok (.iload 4, 2) := by decide +kernel
theorem dX0_planCutsIn_56 : decode cX0_planCutsIn 56 = .ok (.iadd, 1) := by decide +kernel
theorem dX0_planCutsIn_57 : decode cX0_planCutsIn 57 = .ok (.iaload, 1) := by decide +kernel
theorem dX0_planCutsIn_58 : decode cX0_planCutsIn 58 = .ok (.goto 5, 3) := by decide +kernel
theorem dX0_planCutsIn_61 : decode cX0_planCutsIn 61 = .ok (.ldc 80, 2) := by decide +kernel
theorem dX0_planCutsIn_63 : decode cX0_planCutsIn 63 = .ok (.iastore, 1) := by decide +kernel
theorem dX0_planCutsIn_64 : decode cX0_planCutsIn 64 = .ok (.aload_n 0, 1) := by decide +kernel
theorem dX0_planCutsIn_65 : decode cX0_planCutsIn 65 = .ok (.getfield 24, 3) := by decide +kernel
theorem dX0_planCutsIn_68 : decode cX0_planCutsIn 68 = .ok (.iload_n 3, 1) := by decide +kernel
theorem dX0_planCutsIn_69 : decode cX0_planCutsIn 69 = .ok (.iconst 0, 1) := by decide +kernel
theorem dX0_planCutsIn_70 : decode cX0_planCutsIn 70 = .ok (.iastore, 1) := by decide +kernel
theorem dX0_planCutsIn_71 : decode cX0_planCutsIn 71 = .ok (.iload_n 2, 1) := by decide +kernel
theorem dX0_planCutsIn_72 : decode cX0_planCutsIn 72 = .ok (.ifCond .le 77, 3) := by decide +kernel
theorem dX0_planCutsIn_75 : decode cX0_planCutsIn 75 = .ok (.aload_n 0, 1) := by decide +kernel
theorem dX0_planCutsIn_76 : decode cX0_planCutsIn 76 = .ok (.getfield 21, 3) := by decide +kernel
theorem dX0_planCutsIn_79 : decode cX0_planCutsIn 79 = .ok (.iload_n 3, 1) := by decide +kernel
theorem dX0_planCutsIn_80 : decode cX0_planCutsIn 80 = .ok (.iconst 1, 1) := by decide +kernel
theorem dX0_planCutsIn_81 : decode cX0_planCutsIn 81 = .ok (.isub, 1) := by decide +kernel
theorem dX0_planCutsIn_82 : decode cX0_planCutsIn 82 = .ok (.iaload, 1) := by decide +kernel
theorem dX0_planCutsIn_83 : decode cX0_planCutsIn 83 = .ok (.ldc 80, 2) := by decide +kernel
theorem dX0_planCutsIn_85 : decode cX0_planCutsIn 85 = .ok (.if_icmp .ge 64, 3) := by decide +kernel
theorem dX0_planCutsIn_88 : decode cX0_planCutsIn 88 = .ok (.aload_n 0, 1) := by decide +kernel
theorem dX0_planCutsIn_89 : decode cX0_planCutsIn 89 = .ok (.getfield 21, 3) := by decide +kernel
theorem dX0_planCutsIn_92 : decode cX0_planCutsIn 92 = .ok (.iload_n 3, 1) := by decide +kernel
theorem dX0_planCutsIn_93 : decode cX0_planCutsIn 93 = .ok (.iconst 1, 1) := by decide +kernel
theorem dX0_planCutsIn_94 : decode cX0_planCutsIn 94 = .ok (.isub, 1) := by decide +kernel
theorem dX0_planCutsIn_95 : decode cX0_planCutsIn 95 = .ok (.iaload, 1) := by decide +kernel
theorem dX0_planCutsIn_96 : decode cX0_planCutsIn 96 = .ok (.aload_n 0, 1) := by decide +kernel
theorem dX0_planCutsIn_97 : decode cX0_planCutsIn 97 = .ok (.getfield 18, 3) := by decide +kernel
theorem dX0_planCutsIn_100 : decode cX0_planCutsIn 100 = .ok (.iload_n 1, 1) := by decide +kernel
theorem dX0_planCutsIn_101 : decode cX0_planCutsIn 101 = .ok (.iaload, 1) := by decide +kernel
theorem dX0_planCutsIn_102 : decode cX0_planCutsIn 102 = .ok (.iadd, 1) := by decide +kernel
theorem dX0_planCutsIn_103 : decode cX0_planCutsIn 103 = .ok (.aload_n 0, 1) := by decide +kernel
theorem dX0_planCutsIn_104 : decode cX0_planCutsIn 104 = .ok (.getfield 21, 3) := by decide +kernel
theorem dX0_planCutsIn_107 : decode cX0_planCutsIn 107 = .ok (.iload_n 3, 1) := by decide +kernel
theorem dX0_planCutsIn_108 : decode cX0_planCutsIn 108 = .ok (.iaload, 1) := by decide +kernel
theorem dX0_planCutsIn_109 : decode cX0_planCutsIn 109 = .ok (.if_icmp .gt 40, 3) := by decide +kernel
theorem dX0_planCutsIn_112 : decode cX0_planCutsIn 112 = .ok (.aload_n 0, 1) := by decide +kernel
theorem dX0_planCutsIn_113 : decode cX0_planCutsIn 113 = .ok (.getfield 21, 3) := by decide +kernel
theorem dX0_planCutsIn_116 : decode cX0_planCutsIn 116 = .ok (.iload_n 3, 1) := by decide +kernel
theorem dX0_planCutsIn_117 : decode cX0_planCutsIn 117 = .ok (.aload_n 0, 1) := by decide +kernel
theorem dX0_planCutsIn_118 : decode cX0_planCutsIn 118 = .ok (.getfield 21, 3) := by decide +kernel
theorem dX0_planCutsIn_121 : decode cX0_planCutsIn 121 = .ok (.iload_n 3, 1) := by decide +kernel
theorem dX0_planCutsIn_122 : decode cX0_planCutsIn 122 = .ok (.iconst 1, 1) := by decide +kernel
theorem dX0_planCutsIn_123 : decode cX0_planCutsIn 123 = .ok (.isub, 1) := by decide +kernel
theorem dX0_planCutsIn_124 : decode cX0_planCutsIn 124 = .ok (.iaload, 1) := by decide +kernel
theorem dX0_planCutsIn_125 : decode cX0_planCutsIn 125 = .ok (.aload_n 0, 1) := by decide +kernel
theorem dX0_planCutsIn_126 : decode cX0_planCutsIn 126 = .ok (.getfield 18, 3) := by decide +kernel
theorem dX0_planCutsIn_129 : decode cX0_planCutsIn 129 = .ok (.iload_n 1, 1) := by decide +kernel
theorem dX0_planCutsIn_130 : decode cX0_planCutsIn 130 = .ok (.iaload, 1) := by decide +kernel
theorem dX0_planCutsIn_131 : decode cX0_planCutsIn 131 = .ok (.iadd, 1) := by decide +kernel
theorem dX0_planCutsIn_132 : decode cX0_planCutsIn 132 = .ok (.iastore, 1) := by decide +kernel
theorem dX0_planCutsIn_133 : decode cX0_planCutsIn 133 = .ok (.aload_n 0, 1) := by decide +kernel
theorem dX0_planCutsIn_134 : decode cX0_planCutsIn 134 = .ok (.getfield 24, 3) := by decide +kernel
theorem dX0_planCutsIn_137 : decode cX0_planCutsIn 137 = .ok (.iload_n 3, 1) := by decide +kernel
theorem dX0_planCutsIn_138 : decode cX0_planCutsIn 138 = .ok (.aload_n 0, 1) := by decide +kernel
theorem dX0_planCutsIn_139 : decode cX0_planCutsIn 139 = .ok (.getfield 24, 3) := by decide +kernel
theorem dX0_planCutsIn_142 : decode cX0_planCutsIn 142 = .ok (.iload_n 3, 1) := by decide +kernel
theorem dX0_planCutsIn_143 : decode cX0_planCutsIn 143 = .ok (.iconst 1, 1) := by decide +kernel
theorem dX0_planCutsIn_144 : decode cX0_planCutsIn 144 = .ok (.isub, 1) := by decide +kernel
theorem dX0_planCutsIn_145 : decode cX0_planCutsIn 145 = .ok (.iaload, 1) := by decide +kernel
theorem dX0_planCutsIn_146 : decode cX0_planCutsIn 146 = .ok (.iconst 1, 1) := by decide +kernel
theorem dX0_planCutsIn_147 : decode cX0_planCutsIn 147 = .ok (.iadd, 1) := by decide +kernel
theorem dX0_planCutsIn_148 : decode cX0_planCutsIn 148 = .ok (.iastore, 1) := by decide +kernel
theorem dX0_planCutsIn_149 : decode cX0_planCutsIn 149 = .ok (.iinc 2 1, 3) := by decide +kernel
theorem dX0_planCutsIn_152 : decode cX0_planCutsIn 152 = .ok (.goto (-150), 3) := by decide +kernel
theorem dX0_planCutsIn_155 : decode cX0_planCutsIn 155 = .ok (.return_, 1) := by decide +kernel
def f_X0_planCutsIn_l2 : am_F := am_th (i_il 2) (am_th (i_ic (40)) (am_br (b_2 (fun x y => decide (y ≤ x))) (am_to 155) (am_th (i_il 1) (am_th (i_ic (40)) (am_th (i_2 (fun x y => x * y)) (am_th (i_il 2) (am_th (i_2 (fun x y => x + y)) (am_th (i_is 3) (am_th (i_al 0) (am_th (i_il 1) (am_th (i_il 2) (am_th (i_cv 0 2 d_X0_ripe) (am_th (i_is 4) (am_th (i_al 0) (am_th (i_gr 0 6) (am_th (i_il 3) (am_th (i_il 4) (am_th (i_al 0) (am_th (i_gi 0 1) (am_sq 63 (am_br (b_2 (fun x y => decide (y ≤ x))) (am_th (i_ic (1000000)) (am_to 63)) (am_th (i_il 4) (am_th (i_ic (40)) (am_br (b_2 (fun x y => decide (y ≤ x))) (am_th (i_ic (1000000)) (am_to 63)) (am_th (i_al 0) (am_th (i_gr 0 6) (am_th (i_il 1) (am_th (i_ic (1)) (am_th (i_2 (fun x y => x + y)) (am_th (i_ic (40)) (am_th (i_2 (fun x y => x * y)) (am_th (i_il 4) (am_th (i_2 (fun x y => x + y)) (am_th (i_ia 0) (am_to 63))))))))))))))) (am_th (i_iS) (am_th (i_al 0) (am_th (i_gr 0 7) (am_th (i_il 3) (am_th (i_ic (0)) (am_th (i_iS) (am_th (i_il 2) (am_sq 149 (am_br (b_1 (fun x => decide (x ≤ 0))) (am_to 149) (am_th (i_al 0) (am_th (i_gr 0 6) (am_th (i_il 3) (am_th (i_ic (1)) (am_th (i_2 (fun x y => x - y)) (am_th (i_ia 0) (am_th (i_ic (1000000)) (am_br (b_2 (fun x y => decide (y ≤ x))) (am_to 149) (am_th (i_al 0) (am_th (i_gr 0 6) (am_th (i_il 3) (am_th (i_ic (1)) (am_th (i_2 (fun x y => x - y)) (am_th (i_ia 0) (am_th (i_al 0) (am_th (i_gr 0 5) (am_th (i_il 1) (am_th (i_ia 0) (am_th (i_2 (fun x y => x + y)) (am_th (i_al 0) (am_th (i_gr 0 6) (am_th (i_il 3) (am_th (i_ia 0) (am_br (b_2 (fun x y => decide (y < x))) (am_to 149) (am_th (i_al 0) (am_th (i_gr 0 6) (am_th (i_il 3) (am_th (i_al 0) (am_th (i_gr 0 6) (am_th (i_il 3) (am_th (i_ic (1)) (am_th (i_2 (fun x y => x - y)) (am_th (i_ia 0) (am_th (i_al 0) (am_th (i_gr 0 5) (am_th (i_il 1) (am_th (i_ia 0) (am_th (i_2 (fun x y => x + y)) (am_th (i_iS) (am_th (i_al 0) (am_th (i_gr 0 7) (am_th (i_il 3) (am_th (i_al 0) (am_th (i_gr 0 7) (am_th (i_il 3) (am_th (i_ic (1)) (am_th (i_2 (fun x y => x - y)) (am_th (i_ia 0) (am_th (i_ic (1)) (am_th (i_2 (fun x y => x + y)) (am_th (i_iS) (am_to 149))))))))))))))))))))))))))))))))))))))))))))))))))))) (am_th (i_inc 2 (1)) (am_to 2))))))))))))))))))))))))))))))
def f_X0_planCutsIn : am_F := am_th (i_ic (0)) (am_th (i_is 2) (am_sq 155 (am_lp 5000 2 f_X0_planCutsIn_l2) (r_v)))
def d_X0_planCutsIn : am_D := am_den 5 f_X0_planCutsIn
set_option maxHeartbeats 4000000 in
set_option maxRecDepth 100000 in
theorem b_X0_planCutsIn : am_Body yX0_planCutsIn cX0_planCutsIn 5 none 2 43 f_X0_planCutsIn := by
  intro p l e R s m args below meth c g n0 z0 r0 u0 C hr hn
  have C : am_Cx p l e R s m args below meth c g RX0 cX0_planCutsIn 5 n0 z0 (am_len u0) (am_wt u0) 2 43 := C
  have l2 : am_Snd (am_GM p l e R s m args below meth c g 5 n0 z0 r0 u0) (am_Rt r0 u0) 2 (f_X0_planCutsIn_l2) := by
    unfold f_X0_planCutsIn_l2
    exact (so_th (so_iload_n C dX0_planCutsIn_2 rfl) (so_th (so_bipush C dX0_planCutsIn_3 (by decide)) (so_br (so_icmp_ge C dX0_planCutsIn_5 (by decide)) (so_to) (so_th (so_iload_n C dX0_planCutsIn_8 rfl) (so_th (so_bipush C dX0_planCutsIn_9 (by decide)) (so_th (so_imul C dX0_planCutsIn_11) (so_th (so_iload_n C dX0_planCutsIn_12 rfl) (so_th (so_iadd C dX0_planCutsIn_13) (so_th (so_istore_n C dX0_planCutsIn_14 rfl (by decide)) (so_th (so_aload_n C dX0_planCutsIn_15 rfl) (so_th (so_iload_n C dX0_planCutsIn_16 rfl) (so_th (so_iload_n C dX0_planCutsIn_17 rfl) (so_th (so_cv C m_X0_ripe rfl k_20 k_23 k_22 k_24 k_21 ⟨by decide, by decide, by decide +kernel⟩ (by decide) dX0_planCutsIn_18) (so_th (so_istore C dX0_planCutsIn_21 (by decide)) (so_th (so_aload_n C dX0_planCutsIn_23 rfl) (so_th (so_getr C fl_RX0_21 dX0_planCutsIn_24) (so_th (so_iload_n C dX0_planCutsIn_27 rfl) (so_th (so_iload C dX0_planCutsIn_28) (so_th (so_aload_n C dX0_planCutsIn_30 rfl) (so_th (so_geti C fl_RX0_40 (by decide) dX0_planCutsIn_31) (so_sq (so_br (so_icmp_ge C dX0_planCutsIn_34 (by decide)) (so_th (so_ldc C dX0_planCutsIn_61 k_25) (so_to)) (so_th (so_iload C dX0_planCutsIn_37) (so_th (so_bipush C dX0_planCutsIn_39 (by decide)) (so_br (so_icmp_ge C dX0_planCutsIn_41 (by decide)) (so_th (so_ldc C dX0_planCutsIn_61 k_25) (so_to)) (so_th (so_aload_n C dX0_planCutsIn_44 rfl) (so_th (so_getr C fl_RX0_21 dX0_planCutsIn_45) (so_th (so_iload_n C dX0_planCutsIn_48 rfl) (so_th (so_iconst C dX0_planCutsIn_49 (by decide)) (so_th (so_iadd C dX0_planCutsIn_50) (so_th (so_bipush C dX0_planCutsIn_51 (by decide)) (so_th (so_imul C dX0_planCutsIn_53) (so_th (so_iload C dX0_planCutsIn_54) (so_th (so_iadd C dX0_planCutsIn_56) (so_th (so_iald C dX0_planCutsIn_57) (so_goto C dX0_planCutsIn_58 (by decide) (so_to)))))))))))))))) (so_th (so_iast C dX0_planCutsIn_63) (so_th (so_aload_n C dX0_planCutsIn_64 rfl) (so_th (so_getr C fl_RX0_24 dX0_planCutsIn_65) (so_th (so_iload_n C dX0_planCutsIn_68 rfl) (so_th (so_iconst C dX0_planCutsIn_69 (by decide)) (so_th (so_iast C dX0_planCutsIn_70) (so_th (so_iload_n C dX0_planCutsIn_71 rfl) (so_sq (so_br (so_if_le C dX0_planCutsIn_72 (by decide)) (so_to) (so_th (so_aload_n C dX0_planCutsIn_75 rfl) (so_th (so_getr C fl_RX0_21 dX0_planCutsIn_76) (so_th (so_iload_n C dX0_planCutsIn_79 rfl) (so_th (so_iconst C dX0_planCutsIn_80 (by decide)) (so_th (so_isub C dX0_planCutsIn_81) (so_th (so_iald C dX0_planCutsIn_82) (so_th (so_ldc C dX0_planCutsIn_83 k_25) (so_br (so_icmp_ge C dX0_planCutsIn_85 (by decide)) (so_to) (so_th (so_aload_n C dX0_planCutsIn_88 rfl) (so_th (so_getr C fl_RX0_21 dX0_planCutsIn_89) (so_th (so_iload_n C dX0_planCutsIn_92 rfl) (so_th (so_iconst C dX0_planCutsIn_93 (by decide)) (so_th (so_isub C dX0_planCutsIn_94) (so_th (so_iald C dX0_planCutsIn_95) (so_th (so_aload_n C dX0_planCutsIn_96 rfl) (so_th (so_getr C fl_RX0_18 dX0_planCutsIn_97) (so_th (so_iload_n C dX0_planCutsIn_100 rfl) (so_th (so_iald C dX0_planCutsIn_101) (so_th (so_iadd C dX0_planCutsIn_102) (so_th (so_aload_n C dX0_planCutsIn_103 rfl) (so_th (so_getr C fl_RX0_21 dX0_planCutsIn_104) (so_th (so_iload_n C dX0_planCutsIn_107 rfl) (so_th (so_iald C dX0_planCutsIn_108) (so_br (so_icmp_gt C dX0_planCutsIn_109 (by decide)) (so_to) (so_th (so_aload_n C dX0_planCutsIn_112 rfl) (so_th (so_getr C fl_RX0_21 dX0_planCutsIn_113) (so_th (so_iload_n C dX0_planCutsIn_116 rfl) (so_th (so_aload_n C dX0_planCutsIn_117 rfl) (so_th (so_getr C fl_RX0_21 dX0_planCutsIn_118) (so_th (so_iload_n C dX0_planCutsIn_121 rfl) (so_th (so_iconst C dX0_planCutsIn_122 (by decide)) (so_th (so_isub C dX0_planCutsIn_123) (so_th (so_iald C dX0_planCutsIn_124) (so_th (so_aload_n C dX0_planCutsIn_125 rfl) (so_th (so_getr C fl_RX0_18 dX0_planCutsIn_126) (so_th (so_iload_n C dX0_planCutsIn_129 rfl) (so_th (so_iald C dX0_planCutsIn_130) (so_th (so_iadd C dX0_planCutsIn_131) (so_th (so_iast C dX0_planCutsIn_132) (so_th (so_aload_n C dX0_planCutsIn_133 rfl) (so_th (so_getr C fl_RX0_24 dX0_planCutsIn_134) (so_th (so_iload_n C dX0_planCutsIn_137 rfl) (so_th (so_aload_n C dX0_planCutsIn_138 rfl) (so_th (so_getr C fl_RX0_24 dX0_planCutsIn_139) (so_th (so_iload_n C dX0_planCutsIn_142 rfl) (so_th (so_iconst C dX0_planCutsIn_143 (by decide)) (so_th (so_isub C dX0_planCutsIn_144) (so_th (so_iald C dX0_planCutsIn_145) (so_th (so_iconst C dX0_planCutsIn_146 (by decide)) (so_th (so_iadd C dX0_planCutsIn_147) (so_th (so_iast C dX0_planCutsIn_148) (so_to))))))))))))))))))))))))))))))))))))))))))))))))))))) (so_th (so_iinc C dX0_planCutsIn_149 (by decide) (by decide)) (so_goto C dX0_planCutsIn_152 (by decide) (so_to))))))))))))))))))))))))))))))))
  unfold f_X0_planCutsIn
  exact (so_th (so_iconst C dX0_planCutsIn_0 (by decide)) (so_th (so_istore_n C dX0_planCutsIn_1 rfl (by decide)) (so_sq (so_lp l2 5000) (so_rv C hr dX0_planCutsIn_155))))
theorem m_X0_planCutsIn : am_M yX0_planCutsIn cX0_planCutsIn 5 none 2 43 d_X0_planCutsIn := am_M_of (by decide +kernel) b_X0_planCutsIn
theorem dX0_planCuts_0 : decode cX0_planCuts 0 = .ok (.aload_n 0, 1) := by decide +kernel
theorem dX0_planCuts_1 : decode cX0_planCuts 1 = .ok (.iload_n 1, 1) := by decide +kernel
theorem dX0_planCuts_2 : decode cX0_planCuts 2 = .ok (.bipush 12, 2) := by decide +kernel
theorem dX0_planCuts_4 : decode cX0_planCuts 4 = .ok (.invokestatic 70, 3) := by decide +kernel
theorem dX0_planCuts_7 : decode cX0_planCuts 7 = .ok (.putfield 73, 3) := by decide +kernel
theorem dX0_planCuts_10 : decode cX0_planCuts 10 = .ok (.iconst 0, 1) := by decide +kernel
theorem dX0_planCuts_11 : decode cX0_planCuts 11 = .ok (.istore_n 2, 1) := by decide +kernel
theorem dX0_planCuts_12 : decode cX0_planCuts 12 = .ok (.iload_n 2, 1) := by decide +kernel
theorem dX0_planCuts_13 : decode cX0_planCuts 13 = .ok (.bipush 40, 2) := by decide +kernel
theorem dX0_planCuts_15 : decode cX0_planCuts 15 = .ok (.if_icmp .ge 24, 3) := by decide +kernel
theorem dX0_planCuts_18 : decode cX0_planCuts 18 = .ok (.aload_n 0, 1) := by decide +kernel
theorem dX0_planCuts_19 : decode cX0_planCuts 19 = .ok (.getfield 21, 3) := by decide +kernel
theorem dX0_planCuts_22 : decode cX0_planCuts 22 = .ok (.aload_n 0, 1) := by decide +kernel
theorem dX0_planCuts_23 : decode cX0_planCuts 23 = .ok (.getfield 73, 3) := by decide +kernel
theorem dX0_planCuts_26 : decode cX0_planCuts 26 = .ok (.bipush 40, 2) := by decide +kernel
theorem dX0_planCuts_28 : decode cX0_planCuts 28 = .ok (.imul, 1) := by decide +kernel
theorem dX0_planCuts_29 : decode cX0_planCuts 29 = .ok (.iload_n 2, 1) := by decide +kernel
theorem dX0_planCuts_30 : decode cX0_planCuts 30 = .ok (.iadd, 1) := by decide +kernel
theorem dX0_planCuts_31 : decode cX0_planCuts 31 = .ok (.iconst 0, 1) := by decide +kernel
theorem dX0_planCuts_32 : decode cX0_planCuts 32 = .ok (.iastore, 1) := by decide +kernel
theorem dX0_planCuts_33 : decode cX0_planCuts 33 = .ok (.iinc 2 1, 3) := by decide +kernel
theorem dX0_planCuts_36 : decode cX0_planCuts 36 = .ok (.goto (-24), 3) := by decide +kernel
theorem dX0_planCuts_39 : decode cX0_planCuts 39 = .ok (.aload_n 0, 1) := by decide +kernel
theorem dX0_planCuts_40 : decode cX0_planCuts 40 = .ok (.getfield 73, 3) := by decide +kernel
theorem dX0_planCuts_43 : decode cX0_planCuts 43 = .ok (.iconst 1, 1) := by decide +kernel
theorem dX0_planCuts_44 : decode cX0_planCuts 44 = .ok (.isub, 1) := by decide +kernel
theorem dX0_planCuts_45 : decode cX0_planCuts 45 = .ok (.istore_n 2, 1) := by decide +kernel
theorem dX0_planCuts_46 : decode cX0_planCuts 46 = .ok (.iload_n 2, 1) := by decide +kernel
theorem dX0_planCuts_47 : decode cX0_planCuts 47 = .ok (.ifCond .lt 14, 3) := by decide +kernel
theorem dX0_planCuts_50 : decode cX0_planCuts 50 = .ok (.aload_n 0, 1) := by decide +kernel
theorem dX0_planCuts_51 : decode cX0_planCuts 51 = .ok (.iload_n 2, 1) := by decide +kernel
theorem dX0_planCuts_52 : decode cX0_planCuts 52 = .ok (.invokevirtual 76, 3) := by decide +kernel
theorem dX0_planCuts_55 : decode cX0_planCuts 55 = .ok (.iinc 2 (-1), 3) := by decide +kernel
theorem dX0_planCuts_58 : decode cX0_planCuts 58 = .ok (.goto (-12), 3) := by decide +kernel
theorem dX0_planCuts_61 : decode cX0_planCuts 61 = .ok (.return_, 1) := by decide +kernel
def f_X0_planCuts_l12 : am_F := am_th (i_il 2) (am_th (i_ic (40)) (am_br (b_2 (fun x y => decide (y ≤ x))) (am_to 39) (am_th (i_al 0) (am_th (i_gr 0 6) (am_th (i_al 0) (am_th (i_gi 0 2) (am_th (i_ic (40)) (am_th (i_2 (fun x y => x * y)) (am_th (i_il 2) (am_th (i_2 (fun x y => x + y)) (am_th (i_ic (0)) (am_th (i_iS) (am_th (i_inc 2 (1)) (am_to 12))))))))))))))
def f_X0_planCuts_l46 : am_F := am_th (i_il 2) (am_br (b_1 (fun x => decide (x < 0))) (am_to 61) (am_th (i_al 0) (am_th (i_il 2) (am_th (i_cv 0 1 d_X0_planCutsIn) (am_th (i_inc 2 (-1)) (am_to 46))))))
def f_X0_planCuts : am_F := am_th (i_al 0) (am_th (i_il 1) (am_th (i_ic (12)) (am_th (i_mx (fun x y => if y < x then y else x)) (am_th (i_pi 0 2) (am_th (i_ic (0)) (am_th (i_is 2) (am_sq 39 (am_lp 5000 12 f_X0_planCuts_l12) (am_th (i_al 0) (am_th (i_gi 0 2) (am_th (i_ic (1)) (am_th (i_2 (fun x y => x - y)) (am_th (i_is 2) (am_sq 61 (am_lp 5000 46 f_X0_planCuts_l46) (r_v))))))))))))))
def d_X0_planCuts : am_D := am_den 3 f_X0_planCuts
set_option maxHeartbeats 4000000 in
set_option maxRecDepth 100000 in
theorem b_X0_planCuts : am_Body yX0_planCuts cX0_planCuts 3 none 3 67 f_X0_planCuts := by
  intro p l e R s m args below meth c g n0 z0 r0 u0 C hr hn
  have C : am_Cx p l e R s m args below meth c g RX0 cX0_planCuts 3 n0 z0 (am_len u0) (am_wt u0) 3 67 := C
  have l12 : am_Snd (am_GM p l e R s m args below meth c g 3 n0 z0 r0 u0) (am_Rt r0 u0) 12 (f_X0_planCuts_l12) := by
    unfold f_X0_planCuts_l12
    exact (so_th (so_iload_n C dX0_planCuts_12 rfl) (so_th (so_bipush C dX0_planCuts_13 (by decide)) (so_br (so_icmp_ge C dX0_planCuts_15 (by decide)) (so_to) (so_th (so_aload_n C dX0_planCuts_18 rfl) (so_th (so_getr C fl_RX0_21 dX0_planCuts_19) (so_th (so_aload_n C dX0_planCuts_22 rfl) (so_th (so_geti C fl_RX0_73 (by decide) dX0_planCuts_23) (so_th (so_bipush C dX0_planCuts_26 (by decide)) (so_th (so_imul C dX0_planCuts_28) (so_th (so_iload_n C dX0_planCuts_29 rfl) (so_th (so_iadd C dX0_planCuts_30) (so_th (so_iconst C dX0_planCuts_31 (by decide)) (so_th (so_iast C dX0_planCuts_32) (so_th (so_iinc C dX0_planCuts_33 (by decide) (by decide)) (so_goto C dX0_planCuts_36 (by decide) (so_to))))))))))))))))
  have l46 : am_Snd (am_GM p l e R s m args below meth c g 3 n0 z0 r0 u0) (am_Rt r0 u0) 46 (f_X0_planCuts_l46) := by
    unfold f_X0_planCuts_l46
    exact (so_th (so_iload_n C dX0_planCuts_46 rfl) (so_br (so_if_lt C dX0_planCuts_47 (by decide)) (so_to) (so_th (so_aload_n C dX0_planCuts_50 rfl) (so_th (so_iload_n C dX0_planCuts_51 rfl) (so_th (so_cv C m_X0_planCutsIn rfl k_29 k_31 k_30 k_32 k_21 ⟨by decide, by decide, by decide +kernel⟩ (by decide) dX0_planCuts_52) (so_th (so_iinc C dX0_planCuts_55 (by decide) (by decide)) (so_goto C dX0_planCuts_58 (by decide) (so_to))))))))
  unfold f_X0_planCuts
  exact (so_th (so_aload_n C dX0_planCuts_0 rfl) (so_th (so_iload_n C dX0_planCuts_1 rfl) (so_th (so_bipush C dX0_planCuts_2 (by decide)) (so_th (so_min C k_26 k_27 k_18 k_28 (by decide) dX0_planCuts_4) (so_th (so_puti C fl_RX0_73 fp_0 (Or.inl rfl) dX0_planCuts_7) (so_th (so_iconst C dX0_planCuts_10 (by decide)) (so_th (so_istore_n C dX0_planCuts_11 rfl (by decide)) (so_sq (so_lp l12 5000) (so_th (so_aload_n C dX0_planCuts_39 rfl) (so_th (so_geti C fl_RX0_73 (by decide) dX0_planCuts_40) (so_th (so_iconst C dX0_planCuts_43 (by decide)) (so_th (so_isub C dX0_planCuts_44) (so_th (so_istore_n C dX0_planCuts_45 rfl (by decide)) (so_sq (so_lp l46 5000) (so_rv C hr dX0_planCuts_61)))))))))))))))
theorem m_X0_planCuts : am_M yX0_planCuts cX0_planCuts 3 none 3 67 d_X0_planCuts := am_M_of (by decide +kernel) b_X0_planCuts
theorem dX0_canPrune_0 : decode cX0_canPrune 0 = .ok (.aload_n 0, 1) := by decide +kernel
theorem dX0_canPrune_1 : decode cX0_canPrune 1 = .ok (.getfield 21, 3) := by decide +kernel
theorem dX0_canPrune_4 : decode cX0_canPrune 4 = .ok (.aload_n 0, 1) := by decide +kernel
theorem dX0_canPrune_5 : decode cX0_canPrune 5 = .ok (.getfield 32, 3) := by decide +kernel
theorem dX0_canPrune_8 : decode cX0_canPrune 8 = .ok (.bipush 39, 2) := by decide +kernel
theorem dX0_canPrune_10 : decode cX0_canPrune 10 = .ok (.invokestatic 70, 3) := by decide +kernel
theorem dX0_canPrune_13 : decode cX0_canPrune 13 = .ok (.iaload, 1) := by decide +kernel
theorem dX0_canPrune_14 : decode cX0_canPrune 14 = .ok (.ldc 80, 2) := by decide +kernel
theorem dX0_canPrune_16 : decode cX0_canPrune 16 = .ok (.if_icmp .ge 7, 3) := by decide +kernel
theorem dX0_canPrune_19 : decode cX0_canPrune 19 = .ok (.iconst 1, 1) := by decide +kernel
theorem dX0_canPrune_20 : decode cX0_canPrune 20 = .ok (.goto 4, 3) := by decide +kernel
theorem dX0_canPrune_23 : decode cX0_canPrune 23 = .ok (.iconst 0, 1) := by decide +kernel
theorem dX0_canPrune_24 : decode cX0_canPrune 24 = .ok (.ireturn, 1) := by decide +kernel
def f_X0_canPrune : am_F := am_th (i_al 0) (am_th (i_gr 0 6) (am_th (i_al 0) (am_th (i_gi 0 0) (am_th (i_ic (39)) (am_th (i_mx (fun x y => if y < x then y else x)) (am_th (i_ia 0) (am_th (i_ic (1000000)) (am_br (b_2 (fun x y => decide (y ≤ x))) (am_th (i_ic (0)) (r_z)) (am_th (i_ic (1)) (r_z))))))))))
def d_X0_canPrune : am_D := am_den 1 f_X0_canPrune
set_option maxHeartbeats 4000000 in
set_option maxRecDepth 100000 in
theorem b_X0_canPrune : am_Body yX0_canPrune cX0_canPrune 1 (some .boolean) 1 21 f_X0_canPrune := by
  intro p l e R s m args below meth c g n0 z0 r0 u0 C hr hn
  have C : am_Cx p l e R s m args below meth c g RX0 cX0_canPrune 1 n0 z0 (am_len u0) (am_wt u0) 1 21 := C
  unfold f_X0_canPrune
  exact (so_th (so_aload_n C dX0_canPrune_0 rfl) (so_th (so_getr C fl_RX0_21 dX0_canPrune_1) (so_th (so_aload_n C dX0_canPrune_4 rfl) (so_th (so_geti C fl_RX0_32 (by decide) dX0_canPrune_5) (so_th (so_bipush C dX0_canPrune_8 (by decide)) (so_th (so_min C k_26 k_27 k_18 k_28 (by decide) dX0_canPrune_10) (so_th (so_iald C dX0_canPrune_13) (so_th (so_ldc C dX0_canPrune_14 k_25) (so_br (so_icmp_ge C dX0_canPrune_16 (by decide)) (so_th (so_iconst C dX0_canPrune_23 (by decide)) (so_rz C hr dX0_canPrune_24)) (so_th (so_iconst C dX0_canPrune_19 (by decide)) (so_goto C dX0_canPrune_20 (by decide) (so_rz C hr dX0_canPrune_24))))))))))))
theorem m_X0_canPrune : am_M yX0_canPrune cX0_canPrune 1 (some .boolean) 1 21 d_X0_canPrune := am_M_of (by decide +kernel) b_X0_canPrune
theorem dX0_tooMuch_0 : decode cX0_tooMuch 0 = .ok (.iconst 0, 1) := by decide +kernel
theorem dX0_tooMuch_1 : decode cX0_tooMuch 1 = .ok (.iload_n 0, 1) := by decide +kernel
theorem dX0_tooMuch_2 : decode cX0_tooMuch 2 = .ok (.bipush 39, 2) := by decide +kernel
theorem dX0_tooMuch_4 : decode cX0_tooMuch 4 = .ok (.isub, 1) := by decide +kernel
theorem dX0_tooMuch_5 : decode cX0_tooMuch 5 = .ok (.invokestatic 62, 3) := by decide +kernel
theorem dX0_tooMuch_8 : decode cX0_tooMuch 8 = .ok (.ireturn, 1) := by decide +kernel
def f_X0_tooMuch : am_F := am_th (i_ic (0)) (am_th (i_il 0) (am_th (i_ic (39)) (am_th (i_2 (fun x y => x - y)) (am_th (i_mx (fun x y => if x < y then y else x)) (r_i)))))
def d_X0_tooMuch : am_D := am_den 1 f_X0_tooMuch
set_option maxHeartbeats 4000000 in
set_option maxRecDepth 100000 in
theorem b_X0_tooMuch : am_Body yX0_tooMuch cX0_tooMuch 1 (some .int) 1 21 f_X0_tooMuch := by
  intro p l e R s m args below meth c g n0 z0 r0 u0 C hr hn
  have C : am_Cx p l e R s m args below meth c g RX0 cX0_tooMuch 1 n0 z0 (am_len u0) (am_wt u0) 1 21 := C
  unfold f_X0_tooMuch
  exact (so_th (so_iconst C dX0_tooMuch_0 (by decide)) (so_th (so_iload_n C dX0_tooMuch_1 rfl) (so_th (so_bipush C dX0_tooMuch_2 (by decide)) (so_th (so_isub C dX0_tooMuch_4) (so_th (so_max C k_16 k_17 k_18 k_19 (by decide) dX0_tooMuch_5) (so_ri C hr dX0_tooMuch_8))))))
theorem m_X0_tooMuch : am_M yX0_tooMuch cX0_tooMuch 1 (some .int) 1 21 d_X0_tooMuch := am_M_of (by decide +kernel) b_X0_tooMuch
theorem dX0_coinsToPrune_0 : decode cX0_coinsToPrune 0 = .ok (.aload_n 0, 1) := by decide +kernel
theorem dX0_coinsToPrune_1 : decode cX0_coinsToPrune 1 = .ok (.getfield 73, 3) := by decide +kernel
theorem dX0_coinsToPrune_4 : decode cX0_coinsToPrune 4 = .ok (.ifCond .ne 7, 3) := by decide +kernel
theorem dX0_coinsToPrune_7 : decode cX0_coinsToPrune 7 = .ok (.iconst 0, 1) := by decide +kernel
theorem dX0_coinsToPrune_8 : decode cX0_coinsToPrune 8 = .ok (.goto 32, 3) := by decide +kernel
theorem dX0_coinsToPrune_11 : decode cX0_coinsToPrune 11 = .ok (.aload_n 0, 1) := by decide +kernel
theorem dX0_coinsToPrune_12 : decode cX0_coinsToPrune 12 = .ok (.getfield 21, 3) := by decide +kernel
theorem dX0_coinsToPrune_15 : decode cX0_coinsToPrune 15 = .ok (.aload_n 0, 1) := by decide +kernel
theorem dX0_coinsToPrune_16 : decode cX0_coinsToPrune 16 = .ok (.getfield 32, 3) := by decide +kernel
theorem dX0_coinsToPrune_19 : decode cX0_coinsToPrune 19 = .ok (.bipush 39, 2) := by decide +kernel
theorem dX0_coinsToPrune_21 : decode cX0_coinsToPrune 21 = .ok (.invokestatic 70, 3) := by decide +kernel
theorem dX0_coinsToPrune_24 : decode cX0_coinsToPrune 24 = .ok (.iaload, 1) := by decide +kernel
theorem dX0_coinsToPrune_25 : decode cX0_coinsToPrune 25 = .ok (.aload_n 0, 1) := by decide +kernel
theorem dX0_coinsToPrune_26 : decode cX0_coinsToPrune 26 = .ok (.getfield 32, 3) := by decide +kernel
theorem dX0_coinsToPrune_29 : decode cX0_coinsToPrune 29 = .ok (.invokestatic 81, 3) := by decide +kernel
theorem dX0_coinsToPrune_32 : decode cX0_coinsToPrune 32 = .ok (.aload_n 0, 1) := by decide +kernel
theorem dX0_coinsToPrune_33 : decode cX0_coinsToPrune 33 = .ok (.getfield 18, 3) := by decide +kernel
theorem dX0_coinsToPrune_36 : decode cX0_coinsToPrune 36 = .ok (.iconst 0, 1) := by decide +kernel
theorem dX0_coinsToPrune_37 : decode cX0_coinsToPrune 37 = .ok (.iaload, 1) := by decide +kernel
theorem dX0_coinsToPrune_38 : decode cX0_coinsToPrune 38 = .ok (.imul, 1) := by decide +kernel
theorem dX0_coinsToPrune_39 : decode cX0_coinsToPrune 39 = .ok (.iadd, 1) := by decide +kernel
theorem dX0_coinsToPrune_40 : decode cX0_coinsToPrune 40 = .ok (.ireturn, 1) := by decide +kernel
def f_X0_coinsToPrune : am_F := am_th (i_al 0) (am_th (i_gi 0 2) (am_br (b_1 (fun x => decide (¬ x = 0))) (am_th (i_al 0) (am_th (i_gr 0 6) (am_th (i_al 0) (am_th (i_gi 0 0) (am_th (i_ic (39)) (am_th (i_mx (fun x y => if y < x then y else x)) (am_th (i_ia 0) (am_th (i_al 0) (am_th (i_gi 0 0) (am_th (i_cs 1 d_X0_tooMuch) (am_th (i_al 0) (am_th (i_gr 0 5) (am_th (i_ic (0)) (am_th (i_ia 0) (am_th (i_2 (fun x y => x * y)) (am_th (i_2 (fun x y => x + y)) (r_i))))))))))))))))) (am_th (i_ic (0)) (r_i))))
def d_X0_coinsToPrune : am_D := am_den 1 f_X0_coinsToPrune
set_option maxHeartbeats 4000000 in
set_option maxRecDepth 100000 in
theorem b_X0_coinsToPrune : am_Body yX0_coinsToPrune cX0_coinsToPrune 1 (some .int) 2 41 f_X0_coinsToPrune := by
  intro p l e R s m args below meth c g n0 z0 r0 u0 C hr hn
  have C : am_Cx p l e R s m args below meth c g RX0 cX0_coinsToPrune 1 n0 z0 (am_len u0) (am_wt u0) 2 41 := C
  unfold f_X0_coinsToPrune
  exact (so_th (so_aload_n C dX0_coinsToPrune_0 rfl) (so_th (so_geti C fl_RX0_73 (by decide) dX0_coinsToPrune_1) (so_br (so_if_ne C dX0_coinsToPrune_4 (by decide)) (so_th (so_aload_n C dX0_coinsToPrune_11 rfl) (so_th (so_getr C fl_RX0_21 dX0_coinsToPrune_12) (so_th (so_aload_n C dX0_coinsToPrune_15 rfl) (so_th (so_geti C fl_RX0_32 (by decide) dX0_coinsToPrune_16) (so_th (so_bipush C dX0_coinsToPrune_19 (by decide)) (so_th (so_min C k_26 k_27 k_18 k_28 (by decide) dX0_coinsToPrune_21) (so_th (so_iald C dX0_coinsToPrune_24) (so_th (so_aload_n C dX0_coinsToPrune_25 rfl) (so_th (so_geti C fl_RX0_32 (by decide) dX0_coinsToPrune_26) (so_th (so_cs C m_X0_tooMuch k_33 k_35 k_34 k_21 ⟨by decide, by decide, by decide +kernel⟩ (by decide) dX0_coinsToPrune_29) (so_th (so_aload_n C dX0_coinsToPrune_32 rfl) (so_th (so_getr C fl_RX0_18 dX0_coinsToPrune_33) (so_th (so_iconst C dX0_coinsToPrune_36 (by decide)) (so_th (so_iald C dX0_coinsToPrune_37) (so_th (so_imul C dX0_coinsToPrune_38) (so_th (so_iadd C dX0_coinsToPrune_39) (so_ri C hr dX0_coinsToPrune_40))))))))))))))))) (so_th (so_iconst C dX0_coinsToPrune_7 (by decide)) (so_goto C dX0_coinsToPrune_8 (by decide) (so_ri C hr dX0_coinsToPrune_40))))))
theorem m_X0_coinsToPrune : am_M yX0_coinsToPrune cX0_coinsToPrune 1 (some .int) 2 41 d_X0_coinsToPrune := am_M_of (by decide +kernel) b_X0_coinsToPrune
theorem dX0_cutIn_0 : decode cX0_cutIn 0 = .ok (.aload_n 0, 1) := by decide +kernel
theorem dX0_cutIn_1 : decode cX0_cutIn 1 = .ok (.getfield 32, 3) := by decide +kernel
theorem dX0_cutIn_4 : decode cX0_cutIn 4 = .ok (.istore_n 2, 1) := by decide +kernel
theorem dX0_cutIn_5 : decode cX0_cutIn 5 = .ok (.iconst 0, 1) := by decide +kernel
theorem dX0_cutIn_6 : decode cX0_cutIn 6 = .ok (.istore_n 3, 1) := by decide +kernel
theorem dX0_cutIn_7 : decode cX0_cutIn 7 = .ok (.iconst 0, 1) := by decide +kernel
theorem dX0_cutIn_8 : decode cX0_cutIn 8 = .ok (.istore 4, 2) := by decide +kernel
theorem dX0_cutIn_10 : decode cX0_cutIn 10 = .ok (.iload 4, 2) := by decide +kernel
theorem dX0_cutIn_12 : decode cX0_cutIn 12 = .ok (.iload_n 1, 1) := by decide +kernel
theorem dX0_cutIn_13 : decode cX0_cutIn 13 = .ok (.if_icmp .gt 51, 3) := by decide +kernel
theorem dX0_cutIn_16 : decode cX0_cutIn 16 = .ok (.iload 4, 2) := by decide +kernel
theorem dX0_cutIn_18 : decode cX0_cutIn 18 = .ok (.aload_n 0, 1) := by decide +kernel
theorem dX0_cutIn_19 : decode cX0_cutIn 19 = .ok (.getfield 73, 3) := by decide +kernel
theorem dX0_cutIn_22 : decode cX0_cutIn 22 = .ok (.if_icmp .ge 42, 3) := by decide +kernel
theorem dX0_cutIn_25 : decode cX0_cutIn 25 = .ok (.aload_n 0, 1) := by decide +kernel
theorem dX0_cutIn_26 : decode cX0_cutIn 26 = .ok (.getfield 24, 3) := by decide +kernel
theorem dX0_cutIn_29 : decode cX0_cutIn 29 = .ok (.iload 4, 2) := by decide +kernel
theorem dX0_cutIn_31 : decode cX0_cutIn 31 = .ok (.bipush 40, 2) := by decide +kernel
theorem dX0_cutIn_33 : decode cX0_cutIn 33 = .ok (.imul, 1) := by decide +kernel
theorem dX0_cutIn_34 : decode cX0_cutIn 34 = .ok (.iload_n 2, 1) := by decide +kernel
theorem dX0_cutIn_35 : decode cX0_cutIn 35 = .ok (.bipush 39, 2) := by decide +kernel
theorem dX0_cutIn_37 : decode cX0_cutIn 37 = .ok (.invokestatic 70, 3) := by decide +kernel
theorem dX0_cutIn_40 : decode cX0_cutIn 40 = .ok (.iadd, 1) := by decide +kernel
theorem dX0_cutIn_41 : decode cX0_cutIn 41 = .ok (.iaload, 1) := by decide +kernel
theorem dX0_cutIn_42 : decode cX0_cutIn 42 = .ok (.iload_n 2, 1) := by decide +kernel
theorem dX0_cutIn_43 : decode cX0_cutIn 43 = .ok (.invokestatic 81, 3) := by decide +kernel
theorem dX0_cutIn_46 : decode cX0_cutIn 46 = .ok (.iadd, 1) := by decide +kernel
theorem dX0_cutIn_47 : decode cX0_cutIn 47 = .ok (.istore_n 3, 1) := by decide +kernel
theorem dX0_cutIn_48 : decode cX0_cutIn 48 = .ok (.aload_n 0, 1) := by decide +kernel
theorem dX0_cutIn_49 : decode cX0_cutIn 49 = .ok (.iload 4, 2) := by decide +kernel
theorem dX0_cutIn_51 : decode cX0_cutIn 51 = .ok (.iload_n 2, 1) := by decide +kernel
theorem dX0_cutIn_52 : decode cX0_cutIn 52 = .ok (.iload_n 3, 1) := by decide +kernel
theorem dX0_cutIn_53 : decode cX0_cutIn 53 = .ok (.isub, 1) := by decide +kernel
theorem dX0_cutIn_54 : decode cX0_cutIn 54 = .ok (.invokevirtual 67, 3) := by decide +kernel
theorem dX0_cutIn_57 : decode cX0_cutIn 57 = .ok (.istore_n 2, 1) := by decide +kernel
theorem dX0_cutIn_58 : decode cX0_cutIn 58 = .ok (.iinc 4 1, 3) := by decide +kernel
theorem dX0_cutIn_61 : decode cX0_cutIn 61 = .ok (.goto (-51), 3) := by decide +kernel
theorem dX0_cutIn_64 : decode cX0_cutIn 64 = .ok (.iload_n 3, 1) := by decide +kernel
theorem dX0_cutIn_65 : decode cX0_cutIn 65 = .ok (.ireturn, 1) := by decide +kernel
def f_X0_cutIn_l10 : am_F := am_th (i_il 4) (am_th (i_il 1) (am_br (b_2 (fun x y => decide (y < x))) (am_to 64) (am_th (i_il 4) (am_th (i_al 0) (am_th (i_gi 0 2) (am_br (b_2 (fun x y => decide (y ≤ x))) (am_to 64) (am_th (i_al 0) (am_th (i_gr 0 7) (am_th (i_il 4) (am_th (i_ic (40)) (am_th (i_2 (fun x y => x * y)) (am_th (i_il 2) (am_th (i_ic (39)) (am_th (i_mx (fun x y => if y < x then y else x)) (am_th (i_2 (fun x y => x + y)) (am_th (i_ia 0) (am_th (i_il 2) (am_th (i_cs 1 d_X0_tooMuch) (am_th (i_2 (fun x y => x + y)) (am_th (i_is 3) (am_th (i_al 0) (am_th (i_il 4) (am_th (i_il 2) (am_th (i_il 3) (am_th (i_2 (fun x y => x - y)) (am_th (i_cv 0 2 d_X0_ripe) (am_th (i_is 2) (am_th (i_inc 4 (1)) (am_to 10)))))))))))))))))))))))))))))
def f_X0_cutIn : am_F := am_th (i_al 0) (am_th (i_gi 0 0) (am_th (i_is 2) (am_th (i_ic (0)) (am_th (i_is 3) (am_th (i_ic (0)) (am_th (i_is 4) (am_sq 64 (am_lp 5000 10 f_X0_cutIn_l10) (am_th (i_il 3) (r_i)))))))))
def d_X0_cutIn : am_D := am_den 5 f_X0_cutIn
set_option maxHeartbeats 4000000 in
set_option maxRecDepth 100000 in
theorem b_X0_cutIn : am_Body yX0_cutIn cX0_cutIn 5 (some .int) 2 43 f_X0_cutIn := by
  intro p l e R s m args below meth c g n0 z0 r0 u0 C hr hn
  have C : am_Cx p l e R s m args below meth c g RX0 cX0_cutIn 5 n0 z0 (am_len u0) (am_wt u0) 2 43 := C
  have l10 : am_Snd (am_GM p l e R s m args below meth c g 5 n0 z0 r0 u0) (am_Rt r0 u0) 10 (f_X0_cutIn_l10) := by
    unfold f_X0_cutIn_l10
    exact (so_th (so_iload C dX0_cutIn_10) (so_th (so_iload_n C dX0_cutIn_12 rfl) (so_br (so_icmp_gt C dX0_cutIn_13 (by decide)) (so_to) (so_th (so_iload C dX0_cutIn_16) (so_th (so_aload_n C dX0_cutIn_18 rfl) (so_th (so_geti C fl_RX0_73 (by decide) dX0_cutIn_19) (so_br (so_icmp_ge C dX0_cutIn_22 (by decide)) (so_to) (so_th (so_aload_n C dX0_cutIn_25 rfl) (so_th (so_getr C fl_RX0_24 dX0_cutIn_26) (so_th (so_iload C dX0_cutIn_29) (so_th (so_bipush C dX0_cutIn_31 (by decide)) (so_th (so_imul C dX0_cutIn_33) (so_th (so_iload_n C dX0_cutIn_34 rfl) (so_th (so_bipush C dX0_cutIn_35 (by decide)) (so_th (so_min C k_26 k_27 k_18 k_28 (by decide) dX0_cutIn_37) (so_th (so_iadd C dX0_cutIn_40) (so_th (so_iald C dX0_cutIn_41) (so_th (so_iload_n C dX0_cutIn_42 rfl) (so_th (so_cs C m_X0_tooMuch k_33 k_35 k_34 k_21 ⟨by decide, by decide, by decide +kernel⟩ (by decide) dX0_cutIn_43) (so_th (so_iadd C dX0_cutIn_46) (so_th (so_istore_n C dX0_cutIn_47 rfl (by decide)) (so_th (so_aload_n C dX0_cutIn_48 rfl) (so_th (so_iload C dX0_cutIn_49) (so_th (so_iload_n C dX0_cutIn_51 rfl) (so_th (so_iload_n C dX0_cutIn_52 rfl) (so_th (so_isub C dX0_cutIn_53) (so_th (so_cv C m_X0_ripe rfl k_20 k_23 k_22 k_24 k_21 ⟨by decide, by decide, by decide +kernel⟩ (by decide) dX0_cutIn_54) (so_th (so_istore_n C dX0_cutIn_57 rfl (by decide)) (so_th (so_iinc C dX0_cutIn_58 (by decide) (by decide)) (so_goto C dX0_cutIn_61 (by decide) (so_to)))))))))))))))))))))))))))))))
  unfold f_X0_cutIn
  exact (so_th (so_aload_n C dX0_cutIn_0 rfl) (so_th (so_geti C fl_RX0_32 (by decide) dX0_cutIn_1) (so_th (so_istore_n C dX0_cutIn_4 rfl (by decide)) (so_th (so_iconst C dX0_cutIn_5 (by decide)) (so_th (so_istore_n C dX0_cutIn_6 rfl (by decide)) (so_th (so_iconst C dX0_cutIn_7 (by decide)) (so_th (so_istore C dX0_cutIn_8 (by decide)) (so_sq (so_lp l10 5000) (so_th (so_iload_n C dX0_cutIn_64 rfl) (so_ri C hr dX0_cutIn_65))))))))))
theorem m_X0_cutIn : am_M yX0_cutIn cX0_cutIn 5 (some .int) 2 43 d_X0_cutIn := am_M_of (by decide +kernel) b_X0_cutIn
theorem dX2_init_0 : decode cX2_init 0 = .ok (.aload_n 0, 1) := by decide +kernel
theorem dX2_init_1 : decode cX2_init 1 = .ok (.invokespecial 3, 3) := by decide +kernel
theorem dX2_init_4 : decode cX2_init 4 = .ok (.aload_n 0, 1) := by decide +kernel
theorem dX2_init_5 : decode cX2_init 5 = .ok (.bipush 6, 2) := by decide +kernel
theorem dX2_init_7 : decode cX2_init 7 = .ok (.newarray .int, 2) := by decide +kernel
theorem dX2_init_9 : decode cX2_init 9 = .ok (.putfield 9, 3) := by decide +kernel
theorem dX2_init_12 : decode cX2_init 12 = .ok (.aload_n 0, 1) := by decide +kernel
theorem dX2_init_13 : decode cX2_init 13 = .ok (.bipush 6, 2) := by decide +kernel
theorem dX2_init_15 : decode cX2_init 15 = .ok (.newarray .int, 2) := by decide +kernel
theorem dX2_init_17 : decode cX2_init 17 = .ok (.putfield 15, 3) := by decide +kernel
theorem dX2_init_20 : decode cX2_init 20 = .ok (.aload_n 0, 1) := by decide +kernel
theorem dX2_init_21 : decode cX2_init 21 = .ok (.bipush 6, 2) := by decide +kernel
theorem dX2_init_23 : decode cX2_init 23 = .ok (.newarray .int, 2) := by decide +kernel
theorem dX2_init_25 : decode cX2_init 25 = .ok (.putfield 18, 3) := by decide +kernel
theorem dX2_init_28 : decode cX2_init 28 = .ok (.aload_n 0, 1) := by decide +kernel
theorem dX2_init_29 : decode cX2_init 29 = .ok (.bipush 6, 2) := by decide +kernel
theorem dX2_init_31 : decode cX2_init 31 = .ok (.newarray .int, 2) := by decide +kernel
theorem dX2_init_33 : decode cX2_init 33 = .ok (.putfield 21, 3) := by decide +kernel
theorem dX2_init_36 : decode cX2_init 36 = .ok (.return_, 1) := by decide +kernel
def f_X2_init : am_F := am_th (i_al 0) (am_th (i_oi) (am_th (i_al 0) (am_th (i_ic (6)) (am_th (i_na 0) (am_th (i_pr 2 2) (am_th (i_al 0) (am_th (i_ic (6)) (am_th (i_na 0) (am_th (i_pr 2 3) (am_th (i_al 0) (am_th (i_ic (6)) (am_th (i_na 0) (am_th (i_pr 2 4) (am_th (i_al 0) (am_th (i_ic (6)) (am_th (i_na 0) (am_th (i_pr 2 5) (r_v))))))))))))))))))
def d_X2_init : am_D := am_den 1 f_X2_init
set_option maxHeartbeats 4000000 in
set_option maxRecDepth 100000 in
theorem b_X2_init : am_Body yX2_init cX2_init 1 none 1 20 f_X2_init := by
  intro p l e R s m args below meth c g n0 z0 r0 u0 C hr hn
  have C : am_Cx p l e R s m args below meth c g RX2 cX2_init 1 n0 z0 (am_len u0) (am_wt u0) 1 20 := C
  unfold f_X2_init
  exact (so_th (so_aload_n C dX2_init_0 rfl) (so_th (so_oinit C k_36 k_1 k_2 (by decide) dX2_init_1) (so_th (so_aload_n C dX2_init_4 rfl) (so_th (so_bipush C dX2_init_5 (by decide)) (so_th (so_newI C k_3 dX2_init_7) (so_th (so_putr C fl_RX2_9 (Or.inr ⟨_, rfl⟩) fp_2 (Or.inr ⟨rfl, hn, rfl⟩) dX2_init_9) (so_th (so_aload_n C dX2_init_12 rfl) (so_th (so_bipush C dX2_init_13 (by decide)) (so_th (so_newI C k_3 dX2_init_15) (so_th (so_putr C fl_RX2_15 (Or.inr ⟨_, rfl⟩) fp_2 (Or.inr ⟨rfl, hn, rfl⟩) dX2_init_17) (so_th (so_aload_n C dX2_init_20 rfl) (so_th (so_bipush C dX2_init_21 (by decide)) (so_th (so_newI C k_3 dX2_init_23) (so_th (so_putr C fl_RX2_18 (Or.inr ⟨_, rfl⟩) fp_2 (Or.inr ⟨rfl, hn, rfl⟩) dX2_init_25) (so_th (so_aload_n C dX2_init_28 rfl) (so_th (so_bipush C dX2_init_29 (by decide)) (so_th (so_newI C k_3 dX2_init_31) (so_th (so_putr C fl_RX2_21 (Or.inr ⟨_, rfl⟩) fp_2 (Or.inr ⟨rfl, hn, rfl⟩) dX2_init_33) (so_rv C hr dX2_init_36)))))))))))))))))))
theorem m_X2_init : am_M yX2_init cX2_init 1 none 1 20 d_X2_init := am_M_of (by decide +kernel) b_X2_init
theorem dX1_init_0 : decode cX1_init 0 = .ok (.aload_n 0, 1) := by decide +kernel
theorem dX1_init_1 : decode cX1_init 1 = .ok (.invokespecial 3, 3) := by decide +kernel
theorem dX1_init_4 : decode cX1_init 4 = .ok (.aload_n 0, 1) := by decide +kernel
theorem dX1_init_5 : decode cX1_init 5 = .ok (.new 9, 3) := by decide +kernel
theorem dX1_init_8 : decode cX1_init 8 = .ok (.dup, 1) := by decide +kernel
theorem dX1_init_9 : decode cX1_init 9 = .ok (.invokespecial 11, 3) := by decide +kernel
theorem dX1_init_12 : decode cX1_init 12 = .ok (.putfield 12, 3) := by decide +kernel
theorem dX1_init_15 : decode cX1_init 15 = .ok (.aload_n 0, 1) := by decide +kernel
theorem dX1_init_16 : decode cX1_init 16 = .ok (.new 9, 3) := by decide +kernel
theorem dX1_init_19 : decode cX1_init 19 = .ok (.dup, 1) := by decide +kernel
theorem dX1_init_20 : decode cX1_init 20 = .ok (.invokespecial 11, 3) := by decide +kernel
theorem dX1_init_23 : decode cX1_init 23 = .ok (.putfield 18, 3) := by decide +kernel
theorem dX1_init_26 : decode cX1_init 26 = .ok (.aload_n 0, 1) := by decide +kernel
theorem dX1_init_27 : decode cX1_init 27 = .ok (.bipush 37, 2) := by decide +kernel
theorem dX1_init_29 : decode cX1_init 29 = .ok (.newarray .int, 2) := by decide +kernel
theorem dX1_init_31 : decode cX1_init 31 = .ok (.putfield 21, 3) := by decide +kernel
theorem dX1_init_34 : decode cX1_init 34 = .ok (.return_, 1) := by decide +kernel
def f_X1_init : am_F := am_th (i_al 0) (am_th (i_oi) (am_th (i_al 0) (am_th (i_new 2 6) (am_th (i_dup) (am_th (i_cv 2 0 d_X2_init) (am_th (i_pr 1 0) (am_th (i_al 0) (am_th (i_new 2 6) (am_th (i_dup) (am_th (i_cv 2 0 d_X2_init) (am_th (i_pr 1 1) (am_th (i_al 0) (am_th (i_ic (37)) (am_th (i_na 0) (am_th (i_pr 1 2) (r_v))))))))))))))))
def d_X1_init : am_D := am_den 1 f_X1_init
set_option maxHeartbeats 4000000 in
set_option maxRecDepth 100000 in
theorem b_X1_init : am_Body yX1_init cX1_init 1 none 2 40 f_X1_init := by
  intro p l e R s m args below meth c g n0 z0 r0 u0 C hr hn
  have C : am_Cx p l e R s m args below meth c g RX1 cX1_init 1 n0 z0 (am_len u0) (am_wt u0) 2 40 := C
  unfold f_X1_init
  exact (so_th (so_aload_n C dX1_init_0 rfl) (so_th (so_oinit C k_37 k_1 k_2 (by decide) dX1_init_1) (so_th (so_aload_n C dX1_init_4 rfl) (so_th (so_new C rfl iw_2 fb_2 k_38 k_39 k_40 dX1_init_5) (so_th (so_dup C dX1_init_8) (so_th (so_ciN C m_X2_init k_41 (List.mem_of_getElem? (i := 6) rfl) k_42 k_40 ⟨rfl, by decide, by decide, by decide +kernel⟩ (by decide) dX1_init_9) (so_th (so_putr C fl_RX1_12 (Or.inl ⟨_, rfl⟩) fp_1 (Or.inr ⟨rfl, hn, rfl⟩) dX1_init_12) (so_th (so_aload_n C dX1_init_15 rfl) (so_th (so_new C rfl iw_2 fb_2 k_38 k_39 k_40 dX1_init_16) (so_th (so_dup C dX1_init_19) (so_th (so_ciN C m_X2_init k_41 (List.mem_of_getElem? (i := 6) rfl) k_42 k_40 ⟨rfl, by decide, by decide, by decide +kernel⟩ (by decide) dX1_init_20) (so_th (so_putr C fl_RX1_18 (Or.inl ⟨_, rfl⟩) fp_1 (Or.inr ⟨rfl, hn, rfl⟩) dX1_init_23) (so_th (so_aload_n C dX1_init_26 rfl) (so_th (so_bipush C dX1_init_27 (by decide)) (so_th (so_newI C k_3 dX1_init_29) (so_th (so_putr C fl_RX1_21 (Or.inr ⟨_, rfl⟩) fp_1 (Or.inr ⟨rfl, hn, rfl⟩) dX1_init_31) (so_rv C hr dX1_init_34)))))))))))))))))
theorem m_X1_init : am_M yX1_init cX1_init 1 none 2 40 d_X1_init := am_M_of (by decide +kernel) b_X1_init
theorem dX2_plant_0 : decode cX2_plant 0 = .ok (.aload_n 0, 1) := by decide +kernel
theorem dX2_plant_1 : decode cX2_plant 1 = .ok (.iconst 0, 1) := by decide +kernel
theorem dX2_plant_2 : decode cX2_plant 2 = .ok (.putfield 24, 3) := by decide +kernel
theorem dX2_plant_5 : decode cX2_plant 5 = .ok (.aload_n 0, 1) := by decide +kernel
theorem dX2_plant_6 : decode cX2_plant 6 = .ok (.iconst 0, 1) := by decide +kernel
theorem dX2_plant_7 : decode cX2_plant 7 = .ok (.putfield 28, 3) := by decide +kernel
theorem dX2_plant_10 : decode cX2_plant 10 = .ok (.iconst 0, 1) := by decide +kernel
theorem dX2_plant_11 : decode cX2_plant 11 = .ok (.istore_n 2, 1) := by decide +kernel
theorem dX2_plant_12 : decode cX2_plant 12 = .ok (.iload_n 2, 1) := by decide +kernel
theorem dX2_plant_13 : decode cX2_plant 13 = .ok (.bipush 6, 2) := by decide +kernel
theorem dX2_plant_15 : decode cX2_plant 15 = .ok (.if_icmp .ge 54, 3) := by decide +kernel
theorem dX2_plant_18 : decode cX2_plant 18 = .ok (.aload_n 0, 1) := by decide +kernel
theorem dX2_plant_19 : decode cX2_plant 19 = .ok (.getfield 9, 3) := by decide +kernel
theorem dX2_plant_22 : decode cX2_plant 22 = .ok (.iload_n 2, 1) := by decide +kernel
theorem dX2_plant_23 : decode cX2_plant 23 = .ok (.iload_n 2, 1) := by decide +kernel
theorem dX2_plant_24 : decode cX2_plant 24 = .ok (.aload_n 1, 1) := by decide +kernel
theorem dX2_plant_25 : decode cX2_plant 25 = .ok (.getfield 31, 3) := by decide +kernel
theorem dX2_plant_28 : decode cX2_plant 28 = .ok (.if_icmp .ge 12, 3) := by decide +kernel
theorem dX2_plant_31 : decode cX2_plant 31 = .ok (.aload_n 1, 1) := by decide +kernel
theorem dX2_plant_32 : decode cX2_plant 32 = .ok (.getfield 36, 3) := by decide +kernel
theorem dX2_plant_35 : decode cX2_plant 35 = .ok (.iload_n 2, 1) := by decide +kernel
theorem dX2_plant_36 : decode cX2_plant 36 = .ok (.iaload, 1) := by decide +kernel
theorem dX2_plant_37 : decode cX2_plant 37 = .ok (.goto 4, 3) := by decide +kernel
theorem dX2_plant_40 : decode cX2_plant 40 = .ok (.iconst 0, 1) := by decide +kernel
theorem dX2_plant_41 : decode cX2_plant 41 = .ok (.iastore, 1) := by decide +kernel
theorem dX2_plant_42 : decode cX2_plant 42 = .ok (.aload_n 0, 1) := by decide +kernel
theorem dX2_plant_43 : decode cX2_plant 43 = .ok (.getfield 15, 3) := by decide +kernel
theorem dX2_plant_46 : decode cX2_plant 46 = .ok (.iload_n 2, 1) := by decide +kernel
theorem dX2_plant_47 : decode cX2_plant 47 = .ok (.iload_n 2, 1) := by decide +kernel
theorem dX2_plant_48 : decode cX2_plant 48 = .ok (.iastore, 1) := by decide +kernel
theorem dX2_plant_49 : decode cX2_plant 49 = .ok (.aload_n 0, 1) := by decide +kernel
theorem dX2_plant_50 : decode cX2_plant 50 = .ok (.getfield 18, 3) := by decide +kernel
theorem dX2_plant_53 : decode cX2_plant 53 = .ok (.iload_n 2, 1) := by decide +kernel
theorem dX2_plant_54 : decode cX2_plant 54 = .ok (.iconst 0, 1) := by decide +kernel
theorem dX2_plant_55 : decode cX2_plant 55 = .ok (.iastore, 1) := by decide +kernel
theorem dX2_plant_56 : decode cX2_plant 56 = .ok (.aload_n 0, 1) := by decide +kernel
theorem dX2_plant_57 : decode cX2_plant 57 = .ok (.getfield 21, 3) := by decide +kernel
theorem dX2_plant_60 : decode cX2_plant 60 = .ok (.iload_n 2, 1) := by decide +kernel
theorem dX2_plant_61 : decode cX2_plant 61 = .ok (.iconst 0, 1) := by decide +kernel
theorem dX2_plant_62 : decode cX2_plant 62 = .ok (.iastore, 1) := by decide +kernel
theorem dX2_plant_63 : decode cX2_plant 63 = .ok (.iinc 2 1, 3) := by decide +kernel
theorem dX2_plant_66 : decode cX2_plant 66 = .ok (.goto (-54), 3) := by decide +kernel
theorem dX2_plant_69 : decode cX2_plant 69 = .ok (.return_, 1) := by decide +kernel
def f_X2_plant_l12 : am_F := am_th (i_il 2) (am_th (i_ic (6)) (am_br (b_2 (fun x y => decide (y ≤ x))) (am_to 69) (am_th (i_al 0) (am_th (i_gr 2 2) (am_th (i_il 2) (am_th (i_il 2) (am_th (i_al 1) (am_th (i_gi 5 3) (am_sq 41 (am_br (b_2 (fun x y => decide (y ≤ x))) (am_th (i_ic (0)) (am_to 41)) (am_th (i_al 1) (am_th (i_gr 5 12) (am_th (i_il 2) (am_th (i_ia 0) (am_to 41)))))) (am_th (i_iS) (am_th (i_al 0) (am_th (i_gr 2 3) (am_th (i_il 2) (am_th (i_il 2) (am_th (i_iS) (am_th (i_al 0) (am_th (i_gr 2 4) (am_th (i_il 2) (am_th (i_ic (0)) (am_th (i_iS) (am_th (i_al 0) (am_th (i_gr 2 5) (am_th (i_il 2) (am_th (i_ic (0)) (am_th (i_iS) (am_th (i_inc 2 (1)) (am_to 12)))))))))))))))))))))))))))
def f_X2_plant : am_F := am_th (i_al 0) (am_th (i_ic (0)) (am_th (i_pi 2 0) (am_th (i_al 0) (am_th (i_ic (0)) (am_th (i_pi 2 1) (am_th (i_ic (0)) (am_th (i_is 2) (am_sq 69 (am_lp 5000 12 f_X2_plant_l12) (r_v)))))))))
def d_X2_plant : am_D := am_den 3 f_X2_plant
set_option maxHeartbeats 4000000 in
set_option maxRecDepth 100000 in
theorem b_X2_plant : am_Body yX2_plant cX2_plant 3 none 0 0 f_X2_plant := by
  intro p l e R s m args below meth c g n0 z0 r0 u0 C hr hn
  have C : am_Cx p l e R s m args below meth c g RX2 cX2_plant 3 n0 z0 (am_len u0) (am_wt u0) 0 0 := C
  have l12 : am_Snd (am_GM p l e R s m args below meth c g 3 n0 z0 r0 u0) (am_Rt r0 u0) 12 (f_X2_plant_l12) := by
    unfold f_X2_plant_l12
    exact (so_th (so_iload_n C dX2_plant_12 rfl) (so_th (so_bipush C dX2_plant_13 (by decide)) (so_br (so_icmp_ge C dX2_plant_15 (by decide)) (so_to) (so_th (so_aload_n C dX2_plant_18 rfl) (so_th (so_getr C fl_RX2_9 dX2_plant_19) (so_th (so_iload_n C dX2_plant_22 rfl) (so_th (so_iload_n C dX2_plant_23 rfl) (so_th (so_aload_n C dX2_plant_24 rfl) (so_th (so_geti C fl_RX2_31 (by decide) dX2_plant_25) (so_sq (so_br (so_icmp_ge C dX2_plant_28 (by decide)) (so_th (so_iconst C dX2_plant_40 (by decide)) (so_to)) (so_th (so_aload_n C dX2_plant_31 rfl) (so_th (so_getr C fl_RX2_36 dX2_plant_32) (so_th (so_iload_n C dX2_plant_35 rfl) (so_th (so_iald C dX2_plant_36) (so_goto C dX2_plant_37 (by decide) (so_to))))))) (so_th (so_iast C dX2_plant_41) (so_th (so_aload_n C dX2_plant_42 rfl) (so_th (so_getr C fl_RX2_15 dX2_plant_43) (so_th (so_iload_n C dX2_plant_46 rfl) (so_th (so_iload_n C dX2_plant_47 rfl) (so_th (so_iast C dX2_plant_48) (so_th (so_aload_n C dX2_plant_49 rfl) (so_th (so_getr C fl_RX2_18 dX2_plant_50) (so_th (so_iload_n C dX2_plant_53 rfl) (so_th (so_iconst C dX2_plant_54 (by decide)) (so_th (so_iast C dX2_plant_55) (so_th (so_aload_n C dX2_plant_56 rfl) (so_th (so_getr C fl_RX2_21 dX2_plant_57) (so_th (so_iload_n C dX2_plant_60 rfl) (so_th (so_iconst C dX2_plant_61 (by decide)) (so_th (so_iast C dX2_plant_62) (so_th (so_iinc C dX2_plant_63 (by decide) (by decide)) (so_goto C dX2_plant_66 (by decide) (so_to)))))))))))))))))))))))))))))
  unfold f_X2_plant
  exact (so_th (so_aload_n C dX2_plant_0 rfl) (so_th (so_iconst C dX2_plant_1 (by decide)) (so_th (so_puti C fl_RX2_24 fp_2 (Or.inl rfl) dX2_plant_2) (so_th (so_aload_n C dX2_plant_5 rfl) (so_th (so_iconst C dX2_plant_6 (by decide)) (so_th (so_puti C fl_RX2_28 fp_2 (Or.inl rfl) dX2_plant_7) (so_th (so_iconst C dX2_plant_10 (by decide)) (so_th (so_istore_n C dX2_plant_11 rfl (by decide)) (so_sq (so_lp l12 5000) (so_rv C hr dX2_plant_69))))))))))
theorem m_X2_plant : am_M yX2_plant cX2_plant 3 none 0 0 d_X2_plant := am_M_of (by decide +kernel) b_X2_plant
theorem dX2_become_0 : decode cX2_become 0 = .ok (.aload_n 0, 1) := by decide +kernel
theorem dX2_become_1 : decode cX2_become 1 = .ok (.aload_n 1, 1) := by decide +kernel
theorem dX2_become_2 : decode cX2_become 2 = .ok (.getfield 24, 3) := by decide +kernel
theorem dX2_become_5 : decode cX2_become 5 = .ok (.putfield 24, 3) := by decide +kernel
theorem dX2_become_8 : decode cX2_become 8 = .ok (.aload_n 0, 1) := by decide +kernel
theorem dX2_become_9 : decode cX2_become 9 = .ok (.aload_n 1, 1) := by decide +kernel
theorem dX2_become_10 : decode cX2_become 10 = .ok (.getfield 28, 3) := by decide +kernel
theorem dX2_become_13 : decode cX2_become 13 = .ok (.putfield 28, 3) := by decide +kernel
theorem dX2_become_16 : decode cX2_become 16 = .ok (.iconst 0, 1) := by decide +kernel
theorem dX2_become_17 : decode cX2_become 17 = .ok (.istore_n 2, 1) := by decide +kernel
theorem dX2_become_18 : decode cX2_become 18 = .ok (.iload_n 2, 1) := by decide +kernel
theorem dX2_become_19 : decode cX2_become 19 = .ok (.bipush 6, 2) := by decide +kernel
theorem dX2_become_21 : decode cX2_become 21 = .ok (.if_icmp .ge 57, 3) := by decide +kernel
theorem dX2_become_24 : decode cX2_become 24 = .ok (.aload_n 0, 1) := by decide +kernel
theorem dX2_become_25 : decode cX2_become 25 = .ok (.getfield 9, 3) := by decide +kernel
theorem dX2_become_28 : decode cX2_become 28 = .ok (.iload_n 2, 1) := by decide +kernel
theorem dX2_become_29 : decode cX2_become 29 = .ok (.aload_n 1, 1) := by decide +kernel
theorem dX2_become_30 : decode cX2_become 30 = .ok (.getfield 9, 3) := by decide +kernel
theorem dX2_become_33 : decode cX2_become 33 = .ok (.iload_n 2, 1) := by decide +kernel
theorem dX2_become_34 : decode cX2_become 34 = .ok (.iaload, 1) := by decide +kernel
theorem dX2_become_35 : decode cX2_become 35 = .ok (.iastore, 1) := by decide +kernel
theorem dX2_become_36 : decode cX2_become 36 = .ok (.aload_n 0, 1) := by decide +kernel
theorem dX2_become_37 : decode cX2_become 37 = .ok (.getfield 15, 3) := by decide +kernel
theorem dX2_become_40 : decode cX2_become 40 = .ok (.iload_n 2, 1) := by decide +kernel
theorem dX2_become_41 : decode cX2_become 41 = .ok (.aload_n 1, 1) := by decide +kernel
theorem dX2_become_42 : decode cX2_become 42 = .ok (.getfield 15, 3) := by decide +kernel
theorem dX2_become_45 : decode cX2_become 45 = .ok (.iload_n 2, 1) := by decide +kernel
theorem dX2_become_46 : decode cX2_become 46 = .ok (.iaload, 1) := by decide +kernel
theorem dX2_become_47 : decode cX2_become 47 = .ok (.iastore, 1) := by decide +kernel
theorem dX2_become_48 : decode cX2_become 48 = .ok (.aload_n 0, 1) := by decide +kernel
theorem dX2_become_49 : decode cX2_become 49 = .ok (.getfield 18, 3) := by decide +kernel
theorem dX2_become_52 : decode cX2_become 52 = .ok (.iload_n 2, 1) := by decide +kernel
theorem dX2_become_53 : decode cX2_become 53 = .ok (.aload_n 1, 1) := by decide +kernel
theorem dX2_become_54 : decode cX2_become 54 = .ok (.getfield 18, 3) := by decide +kernel
theorem dX2_become_57 : decode cX2_become 57 = .ok (.iload_n 2, 1) := by decide +kernel
theorem dX2_become_58 : decode cX2_become 58 = .ok (.iaload, 1) := by decide +kernel
theorem dX2_become_59 : decode cX2_become 59 = .ok (.iastore, 1) := by decide +kernel
theorem dX2_become_60 : decode cX2_become 60 = .ok (.aload_n 0, 1) := by decide +kernel
theorem dX2_become_61 : decode cX2_become 61 = .ok (.getfield 21, 3) := by decide +kernel
theorem dX2_become_64 : decode cX2_become 64 = .ok (.iload_n 2, 1) := by decide +kernel
theorem dX2_become_65 : decode cX2_become 65 = .ok (.aload_n 1, 1) := by decide +kernel
theorem dX2_become_66 : decode cX2_become 66 = .ok (.getfield 21, 3) := by decide +kernel
theorem dX2_become_69 : decode cX2_become 69 = .ok (.iload_n 2, 1) := by decide +kernel
theorem dX2_become_70 : decode cX2_become 70 = .ok (.iaload, 1) := by decide +kernel
theorem dX2_become_71 : decode cX2_become 71 = .ok (.iastore, 1) := by decide +kernel
theorem dX2_become_72 : decode cX2_become 72 = .ok (.iinc 2 1, 3) := by decide +kernel
theorem dX2_become_75 : decode cX2_become 75 = .ok (.goto (-57), 3) := by decide +kernel
theorem dX2_become_78 : decode cX2_become 78 = .ok (.return_, 1) := by decide +kernel
def f_X2_become_l18 : am_F := am_th (i_il 2) (am_th (i_ic (6)) (am_br (b_2 (fun x y => decide (y ≤ x))) (am_to 78) (am_th (i_al 0) (am_th (i_gr 2 2) (am_th (i_il 2) (am_th (i_al 1) (am_th (i_gr 2 2) (am_th (i_il 2) (am_th (i_ia 0) (am_th (i_iS) (am_th (i_al 0) (am_th (i_gr 2 3) (am_th (i_il 2) (am_th (i_al 1) (am_th (i_gr 2 3) (am_th (i_il 2) (am_th (i_ia 0) (am_th (i_iS) (am_th (i_al 0) (am_th (i_gr 2 4) (am_th (i_il 2) (am_th (i_al 1) (am_th (i_gr 2 4) (am_th (i_il 2) (am_th (i_ia 0) (am_th (i_iS) (am_th (i_al 0) (am_th (i_gr 2 5) (am_th (i_il 2) (am_th (i_al 1) (am_th (i_gr 2 5) (am_th (i_il 2) (am_th (i_ia 0) (am_th (i_iS) (am_th (i_inc 2 (1)) (am_to 18))))))))))))))))))))))))))))))))))))
def f_X2_become : am_F := am_th (i_al 0) (am_th (i_al 1) (am_th (i_gi 2 0) (am_th (i_pi 2 0) (am_th (i_al 0) (am_th (i_al 1) (am_th (i_gi 2 1) (am_th (i_pi 2 1) (am_th (i_ic (0)) (am_th (i_is 2) (am_sq 78 (am_lp 5000 18 f_X2_become_l18) (r_v)))))))))))
def d_X2_become : am_D := am_den 3 f_X2_become
set_option maxHeartbeats 4000000 in
set_option maxRecDepth 100000 in
theorem b_X2_become : am_Body yX2_become cX2_become 3 none 0 0 f_X2_become := by
  intro p l e R s m args below meth c g n0 z0 r0 u0 C hr hn
  have C : am_Cx p l e R s m args below meth c g RX2 cX2_become 3 n0 z0 (am_len u0) (am_wt u0) 0 0 := C
  have l18 : am_Snd (am_GM p l e R s m args below meth c g 3 n0 z0 r0 u0) (am_Rt r0 u0) 18 (f_X2_become_l18) := by
    unfold f_X2_become_l18
    exact (so_th (so_iload_n C dX2_become_18 rfl) (so_th (so_bipush C dX2_become_19 (by decide)) (so_br (so_icmp_ge C dX2_become_21 (by decide)) (so_to) (so_th (so_aload_n C dX2_become_24 rfl) (so_th (so_getr C fl_RX2_9 dX2_become_25) (so_th (so_iload_n C dX2_become_28 rfl) (so_th (so_aload_n C dX2_become_29 rfl) (so_th (so_getr C fl_RX2_9 dX2_become_30) (so_th (so_iload_n C dX2_become_33 rfl) (so_th (so_iald C dX2_become_34) (so_th (so_iast C dX2_become_35) (so_th (so_aload_n C dX2_become_36 rfl) (so_th (so_getr C fl_RX2_15 dX2_become_37) (so_th (so_iload_n C dX2_become_40 rfl) (so_th (so_aload_n C dX2_become_41 rfl) (so_th (so_getr C fl_RX2_15 dX2_become_42) (so_th (so_iload_n C dX2_become_45 rfl) (so_th (so_iald C dX2_become_46) (so_th (so_iast C dX2_become_47) (so_th (so_aload_n C dX2_become_48 rfl) (so_th (so_getr C fl_RX2_18 dX2_become_49) (so_th (so_iload_n C dX2_become_52 rfl) (so_th (so_aload_n C dX2_become_53 rfl) (so_th (so_getr C fl_RX2_18 dX2_become_54) (so_th (so_iload_n C dX2_become_57 rfl) (so_th (so_iald C dX2_become_58) (so_th (so_iast C dX2_become_59) (so_th (so_aload_n C dX2_become_60 rfl) (so_th (so_getr C fl_RX2_21 dX2_become_61) (so_th (so_iload_n C dX2_become_64 rfl) (so_th (so_aload_n C dX2_become_65 rfl) (so_th (so_getr C fl_RX2_21 dX2_become_66) (so_th (so_iload_n C dX2_become_69 rfl) (so_th (so_iald C dX2_become_70) (so_th (so_iast C dX2_become_71) (so_th (so_iinc C dX2_become_72 (by decide) (by decide)) (so_goto C dX2_become_75 (by decide) (so_to))))))))))))))))))))))))))))))))))))))
  unfold f_X2_become
  exact (so_th (so_aload_n C dX2_become_0 rfl) (so_th (so_aload_n C dX2_become_1 rfl) (so_th (so_geti C fl_RX2_24 (by decide) dX2_become_2) (so_th (so_puti C fl_RX2_24 fp_2 (Or.inl rfl) dX2_become_5) (so_th (so_aload_n C dX2_become_8 rfl) (so_th (so_aload_n C dX2_become_9 rfl) (so_th (so_geti C fl_RX2_28 (by decide) dX2_become_10) (so_th (so_puti C fl_RX2_28 fp_2 (Or.inl rfl) dX2_become_13) (so_th (so_iconst C dX2_become_16 (by decide)) (so_th (so_istore_n C dX2_become_17 rfl (by decide)) (so_sq (so_lp l18 5000) (so_rv C hr dX2_become_78))))))))))))
theorem m_X2_become : am_M yX2_become cX2_become 3 none 0 0 d_X2_become := am_M_of (by decide +kernel) b_X2_become
theorem dX1_toldIn_0 : decode cX1_toldIn 0 = .ok (.iconst 0, 1) := by decide +kernel
theorem dX1_toldIn_1 : decode cX1_toldIn 1 = .ok (.istore_n 3, 1) := by decide +kernel
theorem dX1_toldIn_2 : decode cX1_toldIn 2 = .ok (.iconst 0, 1) := by decide +kernel
theorem dX1_toldIn_3 : decode cX1_toldIn 3 = .ok (.istore 4, 2) := by decide +kernel
theorem dX1_toldIn_5 : decode cX1_toldIn 5 = .ok (.iload 4, 2) := by decide +kernel
theorem dX1_toldIn_7 : decode cX1_toldIn 7 = .ok (.aload_n 1, 1) := by decide +kernel
theorem dX1_toldIn_8 : decode cX1_toldIn 8 = .ok (.getfield 62, 3) := by decide +kernel
theorem dX1_toldIn_11 : decode cX1_toldIn 11 = .ok (.if_icmp .ge 40, 3) := by decide +kernel
theorem dX1_toldIn_14 : decode cX1_toldIn 14 = .ok (.aload_n 1, 1) := by decide +kernel
theorem dX1_toldIn_15 : decode cX1_toldIn 15 = .ok (.getfield 65, 3) := by decide +kernel
theorem dX1_toldIn_18 : decode cX1_toldIn 18 = .ok (.iload 4, 2) := by decide +kernel
theorem dX1_toldIn_20 : decode cX1_toldIn 20 = .ok (.iaload, 1) := by decide +kernel
theorem dX1_toldIn_21 : decode cX1_toldIn 21 = .ok (.iload_n 2, 1) := by decide +kernel
theorem dX1_toldIn_22 : decode cX1_toldIn 22 = .ok (.if_icmp .ne 23, 3) := by decide +kernel
theorem dX1_toldIn_25 : decode cX1_toldIn 25 = .ok (.iload_n 3, 1) := by decide +kernel
theorem dX1_toldIn_26 : decode cX1_toldIn 26 = .ok (.iconst 1, 1) := by decide +kernel
theorem dX1_toldIn_27 : decode cX1_toldIn 27 = .ok (.aload_n 0, 1) := by decide +kernel
theorem dX1_toldIn_28 : decode cX1_toldIn 28 = .ok (.getfield 18, 3) := by decide +kernel
theorem dX1_toldIn_31 : decode cX1_toldIn 31 = .ok (.getfield 68, 3) := by decide +kernel
theorem dX1_toldIn_34 : decode cX1_toldIn 34 = .ok (.aload_n 1, 1) := by decide +kernel
theorem dX1_toldIn_35 : decode cX1_toldIn 35 = .ok (.getfield 71, 3) := by decide +kernel
theorem dX1_toldIn_38 : decode cX1_toldIn 38 = .ok (.iload 4, 2) := by decide +kernel
theorem dX1_toldIn_40 : decode cX1_toldIn 40 = .ok (.iaload, 1) := by decide +kernel
theorem dX1_toldIn_41 : decode cX1_toldIn 41 = .ok (.iaload, 1) := by decide +kernel
theorem dX1_toldIn_42 : decode cX1_toldIn 42 = .ok (.ishl, 1) := by decide +kernel
theorem dX1_toldIn_43 : decode cX1_toldIn 43 = .ok (.ior, 1) := by decide +kernel
theorem dX1_toldIn_44 : decode cX1_toldIn 44 = .ok (.istore_n 3, 1) := by decide +kernel
theorem dX1_toldIn_45 : decode cX1_toldIn 45 = .ok (.iinc 4 1, 3) := by decide +kernel
theorem dX1_toldIn_48 : decode cX1_toldIn 48 = .ok (.goto (-43), 3) := by decide +kernel
theorem dX1_toldIn_51 : decode cX1_toldIn 51 = .ok (.iload_n 3, 1) := by decide +kernel
theorem dX1_toldIn_52 : decode cX1_toldIn 52 = .ok (.ireturn, 1) := by decide +kernel
def f_X1_toldIn_l5 : am_F := am_th (i_il 4) (am_th (i_al 1) (am_th (i_gi 5 6) (am_br (b_2 (fun x y => decide (y ≤ x))) (am_to 51) (am_th (i_al 1) (am_th (i_gr 5 16) (am_th (i_il 4) (am_th (i_ia 0) (am_th (i_il 2) (am_sq 45 (am_br (b_2 (fun x y => decide (¬ x = y))) (am_to 45) (am_th (i_il 3) (am_th (i_ic (1)) (am_th (i_al 0) (am_th (i_gr 1 1) (am_th (i_gr 2 3) (am_th (i_al 1) (am_th (i_gr 5 15) (am_th (i_il 4) (am_th (i_ia 0) (am_th (i_ia 0) (am_th (i_2 (fun x y => x <<< (y &&& 31))) (am_th (i_2 (fun x y => x ||| y)) (am_th (i_is 3) (am_to 45))))))))))))))) (am_th (i_inc 4 (1)) (am_to 5)))))))))))
def f_X1_toldIn : am_F := am_th (i_ic (0)) (am_th (i_is 3) (am_th (i_ic (0)) (am_th (i_is 4) (am_sq 51 (am_lp 5000 5 f_X1_toldIn_l5) (am_th (i_il 3) (r_i))))))
def d_X1_toldIn : am_D := am_den 5 f_X1_toldIn
set_option maxHeartbeats 4000000 in
set_option maxRecDepth 100000 in
theorem b_X1_toldIn : am_Body yX1_toldIn cX1_toldIn 5 (some .int) 0 0 f_X1_toldIn := by
  intro p l e R s m args below meth c g n0 z0 r0 u0 C hr hn
  have C : am_Cx p l e R s m args below meth c g RX1 cX1_toldIn 5 n0 z0 (am_len u0) (am_wt u0) 0 0 := C
  have l5 : am_Snd (am_GM p l e R s m args below meth c g 5 n0 z0 r0 u0) (am_Rt r0 u0) 5 (f_X1_toldIn_l5) := by
    unfold f_X1_toldIn_l5
    exact (so_th (so_iload C dX1_toldIn_5) (so_th (so_aload_n C dX1_toldIn_7 rfl) (so_th (so_geti C fl_RX1_62 (by decide) dX1_toldIn_8) (so_br (so_icmp_ge C dX1_toldIn_11 (by decide)) (so_to) (so_th (so_aload_n C dX1_toldIn_14 rfl) (so_th (so_getr C fl_RX1_65 dX1_toldIn_15) (so_th (so_iload C dX1_toldIn_18) (so_th (so_iald C dX1_toldIn_20) (so_th (so_iload_n C dX1_toldIn_21 rfl) (so_sq (so_br (so_icmp_ne C dX1_toldIn_22 (by decide)) (so_to) (so_th (so_iload_n C dX1_toldIn_25 rfl) (so_th (so_iconst C dX1_toldIn_26 (by decide)) (so_th (so_aload_n C dX1_toldIn_27 rfl) (so_th (so_getr C fl_RX1_18 dX1_toldIn_28) (so_th (so_getr C fl_RX1_68 dX1_toldIn_31) (so_th (so_aload_n C dX1_toldIn_34 rfl) (so_th (so_getr C fl_RX1_71 dX1_toldIn_35) (so_th (so_iload C dX1_toldIn_38) (so_th (so_iald C dX1_toldIn_40) (so_th (so_iald C dX1_toldIn_41) (so_th (so_ishl C dX1_toldIn_42) (so_th (so_ior C dX1_toldIn_43) (so_th (so_istore_n C dX1_toldIn_44 rfl (by decide)) (so_to))))))))))))))) (so_th (so_iinc C dX1_toldIn_45 (by decide) (by decide)) (so_goto C dX1_toldIn_48 (by decide) (so_to)))))))))))))
  unfold f_X1_toldIn
  exact (so_th (so_iconst C dX1_toldIn_0 (by decide)) (so_th (so_istore_n C dX1_toldIn_1 rfl (by decide)) (so_th (so_iconst C dX1_toldIn_2 (by decide)) (so_th (so_istore C dX1_toldIn_3 (by decide)) (so_sq (so_lp l5 5000) (so_th (so_iload_n C dX1_toldIn_51 rfl) (so_ri C hr dX1_toldIn_52)))))))
theorem m_X1_toldIn : am_M yX1_toldIn cX1_toldIn 5 (some .int) 0 0 d_X1_toldIn := am_M_of (by decide +kernel) b_X1_toldIn
theorem dX2_stands_0 : decode cX2_stands 0 = .ok (.aload_n 0, 1) := by decide +kernel
theorem dX2_stands_1 : decode cX2_stands 1 = .ok (.getfield 15, 3) := by decide +kernel
theorem dX2_stands_4 : decode cX2_stands 4 = .ok (.iload_n 1, 1) := by decide +kernel
theorem dX2_stands_5 : decode cX2_stands 5 = .ok (.iaload, 1) := by decide +kernel
theorem dX2_stands_6 : decode cX2_stands 6 = .ok (.iload_n 1, 1) := by decide +kernel
theorem dX2_stands_7 : decode cX2_stands 7 = .ok (.if_icmp .ne 7, 3) := by decide +kernel
theorem dX2_stands_10 : decode cX2_stands 10 = .ok (.iconst 1, 1) := by decide +kernel
theorem dX2_stands_11 : decode cX2_stands 11 = .ok (.goto 4, 3) := by decide +kernel
theorem dX2_stands_14 : decode cX2_stands 14 = .ok (.iconst 0, 1) := by decide +kernel
theorem dX2_stands_15 : decode cX2_stands 15 = .ok (.ireturn, 1) := by decide +kernel
def f_X2_stands : am_F := am_th (i_al 0) (am_th (i_gr 2 3) (am_th (i_il 1) (am_th (i_ia 0) (am_th (i_il 1) (am_br (b_2 (fun x y => decide (¬ x = y))) (am_th (i_ic (0)) (r_z)) (am_th (i_ic (1)) (r_z)))))))
def d_X2_stands : am_D := am_den 2 f_X2_stands
set_option maxHeartbeats 4000000 in
set_option maxRecDepth 100000 in
theorem b_X2_stands : am_Body yX2_stands cX2_stands 2 (some .boolean) 0 0 f_X2_stands := by
  intro p l e R s m args below meth c g n0 z0 r0 u0 C hr hn
  have C : am_Cx p l e R s m args below meth c g RX2 cX2_stands 2 n0 z0 (am_len u0) (am_wt u0) 0 0 := C
  unfold f_X2_stands
  exact (so_th (so_aload_n C dX2_stands_0 rfl) (so_th (so_getr C fl_RX2_15 dX2_stands_1) (so_th (so_iload_n C dX2_stands_4 rfl) (so_th (so_iald C dX2_stands_5) (so_th (so_iload_n C dX2_stands_6 rfl) (so_br (so_icmp_ne C dX2_stands_7 (by decide)) (so_th (so_iconst C dX2_stands_14 (by decide)) (so_rz C hr dX2_stands_15)) (so_th (so_iconst C dX2_stands_10 (by decide)) (so_goto C dX2_stands_11 (by decide) (so_rz C hr dX2_stands_15)))))))))
theorem m_X2_stands : am_M yX2_stands cX2_stands 2 (some .boolean) 0 0 d_X2_stands := am_M_of (by decide +kernel) b_X2_stands
theorem dX2_growSuckers_0 : decode cX2_growSuckers 0 = .ok (.iconst 0, 1) := by decide +kernel
theorem dX2_growSuckers_1 : decode cX2_growSuckers 1 = .ok (.istore_n 2, 1) := by decide +kernel
theorem dX2_growSuckers_2 : decode cX2_growSuckers 2 = .ok (.iload_n 2, 1) := by decide +kernel
theorem dX2_growSuckers_3 : decode cX2_growSuckers 3 = .ok (.aload_n 1, 1) := by decide +kernel
theorem dX2_growSuckers_4 : decode cX2_growSuckers 4 = .ok (.getfield 31, 3) := by decide +kernel
theorem dX2_growSuckers_7 : decode cX2_growSuckers 7 = .ok (.if_icmp .ge 45, 3) := by decide +kernel
theorem dX2_growSuckers_10 : decode cX2_growSuckers 10 = .ok (.aload_n 0, 1) := by decide +kernel
theorem dX2_growSuckers_11 : decode cX2_growSuckers 11 = .ok (.iload_n 2, 1) := by decide +kernel
theorem dX2_growSuckers_12 : decode cX2_growSuckers 12 = .ok (.invokevirtual 37, 3) := by decide +kernel
theorem dX2_growSuckers_15 : decode cX2_growSuckers 15 = .ok (.ifCond .eq 31, 3) := by decide +kernel
theorem dX2_growSuckers_18 : decode cX2_growSuckers 18 = .ok (.aload_n 1, 1) := by decide +kernel
theorem dX2_growSuckers_19 : decode cX2_growSuckers 19 = .ok (.iload_n 2, 1) := by decide +kernel
theorem dX2_growSuckers_20 : decode cX2_growSuckers 20 = .ok (.invokevirtual 47, 3) := by decide +kernel
theorem dX2_growSuckers_23 : decode cX2_growSuckers 23 = .ok (.ifCond .ne 23, 3) := by decide +kernel
theorem dX2_growSuckers_26 : decode cX2_growSuckers 26 = .ok (.aload_n 0, 1) := by decide +kernel
theorem dX2_growSuckers_27 : decode cX2_growSuckers 27 = .ok (.getfield 9, 3) := by decide +kernel
theorem dX2_growSuckers_30 : decode cX2_growSuckers 30 = .ok (.iload_n 2, 1) := by decide +kernel
theorem dX2_growSuckers_31 : decode cX2_growSuckers 31 = .ok (.iaload, 1) := by decide +kernel
theorem dX2_growSuckers_32 : decode cX2_growSuckers 32 = .ok (.iconst 3, 1) := by decide +kernel
theorem dX2_growSuckers_33 : decode cX2_growSuckers 33 = .ok (.if_icmp .lt 13, 3) := by decide +kernel
theorem dX2_growSuckers_36 : decode cX2_growSuckers 36 = .ok (.aload_n 0, 1) := by decide +kernel
theorem dX2_growSuckers_37 : decode cX2_growSuckers 37 = .ok (.getfield 21, 3) := by decide +kernel
theorem dX2_growSuckers_40 : decode cX2_growSuckers 40 = .ok (.iload_n 2, 1) := by decide +kernel
theorem dX2_growSuckers_41 : decode cX2_growSuckers 41 = .ok (.dup2, 1) := by decide +kernel
theorem dX2_growSuckers_42 : decode cX2_growSuckers 42 = .ok (.iaload, 1) := by decide +kernel
theorem dX2_growSuckers_43 : decode cX2_growSuckers 43 = .ok (.iconst 1, 1) := by decide +kernel
theorem dX2_growSuckers_44 : decode cX2_growSuckers 44 = .ok (.iadd, 1) := by decide +kernel
theorem dX2_growSuckers_45 : decode cX2_growSuckers 45 = .ok (.iastore, 1) := by decide +kernel
theorem dX2_growSuckers_46 : decode cX2_growSuckers 46 = .ok (.iinc 2 1, 3) := by decide +kernel
theorem dX2_growSuckers_49 : decode cX2_growSuckers 49 = .ok (.goto (-47), 3) := by decide +kernel
theorem dX2_growSuckers_52 : decode cX2_growSuckers 52 = .ok (.return_, 1) := by decide +kernel
def f_X2_growSuckers_l2 : am_F := am_th (i_il 2) (am_th (i_al 1) (am_th (i_gi 5 3) (am_br (b_2 (fun x y => decide (y ≤ x))) (am_to 52) (am_th (i_al 0) (am_th (i_il 2) (am_th (i_cv 2 1 d_X2_stands) (am_sq 46 (am_br (b_1 (fun x => decide (x = 0))) (am_to 46) (am_th (i_al 1) (am_th (i_il 2) (am_th (i_cv 5 1 d_X5_isPotted) (am_br (b_1 (fun x => decide (¬ x = 0))) (am_to 46) (am_th (i_al 0) (am_th (i_gr 2 2) (am_th (i_il 2) (am_th (i_ia 0) (am_th (i_ic (3)) (am_br (b_2 (fun x y => decide (x < y))) (am_to 46) (am_th (i_al 0) (am_th (i_gr 2 5) (am_th (i_il 2) (am_th (i_dup2) (am_th (i_ia 0) (am_th (i_ic (1)) (am_th (i_2 (fun x y => x + y)) (am_th (i_iS) (am_to 46)))))))))))))))))))) (am_th (i_inc 2 (1)) (am_to 2)))))))))
def f_X2_growSuckers : am_F := am_th (i_ic (0)) (am_th (i_is 2) (am_sq 52 (am_lp 5000 2 f_X2_growSuckers_l2) (r_v)))
def d_X2_growSuckers : am_D := am_den 3 f_X2_growSuckers
set_option maxHeartbeats 4000000 in
set_option maxRecDepth 100000 in
theorem b_X2_growSuckers : am_Body yX2_growSuckers cX2_growSuckers 3 none 2 42 f_X2_growSuckers := by
  intro p l e R s m args below meth c g n0 z0 r0 u0 C hr hn
  have C : am_Cx p l e R s m args below meth c g RX2 cX2_growSuckers 3 n0 z0 (am_len u0) (am_wt u0) 2 42 := C
  have l2 : am_Snd (am_GM p l e R s m args below meth c g 3 n0 z0 r0 u0) (am_Rt r0 u0) 2 (f_X2_growSuckers_l2) := by
    unfold f_X2_growSuckers_l2
    exact (so_th (so_iload_n C dX2_growSuckers_2 rfl) (so_th (so_aload_n C dX2_growSuckers_3 rfl) (so_th (so_geti C fl_RX2_31 (by decide) dX2_growSuckers_4) (so_br (so_icmp_ge C dX2_growSuckers_7 (by decide)) (so_to) (so_th (so_aload_n C dX2_growSuckers_10 rfl) (so_th (so_iload_n C dX2_growSuckers_11 rfl) (so_th (so_cv C m_X2_stands rfl k_43 k_45 k_44 k_46 k_40 ⟨by decide, by decide, by decide +kernel⟩ (by decide) dX2_growSuckers_12) (so_sq (so_br (so_if_eq C dX2_growSuckers_15 (by decide)) (so_to) (so_th (so_aload_n C dX2_growSuckers_18 rfl) (so_th (so_iload_n C dX2_growSuckers_19 rfl) (so_th (so_cv C m_X5_isPotted rfl k_7 k_47 k_9 k_11 k_8 ⟨by decide, by decide, by decide +kernel⟩ (by decide) dX2_growSuckers_20) (so_br (so_if_ne C dX2_growSuckers_23 (by decide)) (so_to) (so_th (so_aload_n C dX2_growSuckers_26 rfl) (so_th (so_getr C fl_RX2_9 dX2_growSuckers_27) (so_th (so_iload_n C dX2_growSuckers_30 rfl) (so_th (so_iald C dX2_growSuckers_31) (so_th (so_iconst C dX2_growSuckers_32 (by decide)) (so_br (so_icmp_lt C dX2_growSuckers_33 (by decide)) (so_to) (so_th (so_aload_n C dX2_growSuckers_36 rfl) (so_th (so_getr C fl_RX2_21 dX2_growSuckers_37) (so_th (so_iload_n C dX2_growSuckers_40 rfl) (so_th (so_dup2 C dX2_growSuckers_41) (so_th (so_iald C dX2_growSuckers_42) (so_th (so_iconst C dX2_growSuckers_43 (by decide)) (so_th (so_iadd C dX2_growSuckers_44) (so_th (so_iast C dX2_growSuckers_45) (so_to)))))))))))))))))))) (so_th (so_iinc C dX2_growSuckers_46 (by decide) (by decide)) (so_goto C dX2_growSuckers_49 (by decide) (so_to)))))))))))
  unfold f_X2_growSuckers
  exact (so_th (so_iconst C dX2_growSuckers_0 (by decide)) (so_th (so_istore_n C dX2_growSuckers_1 rfl (by decide)) (so_sq (so_lp l2 5000) (so_rv C hr dX2_growSuckers_52))))
theorem m_X2_growSuckers : am_M yX2_growSuckers cX2_growSuckers 3 none 2 42 d_X2_growSuckers := am_M_of (by decide +kernel) b_X2_growSuckers
theorem dX2_ripen_0 : decode cX2_ripen 0 = .ok (.iconst 0, 1) := by decide +kernel
theorem dX2_ripen_1 : decode cX2_ripen 1 = .ok (.istore_n 2, 1) := by decide +kernel
theorem dX2_ripen_2 : decode cX2_ripen 2 = .ok (.iconst 0, 1) := by decide +kernel
theorem dX2_ripen_3 : decode cX2_ripen 3 = .ok (.istore_n 3, 1) := by decide +kernel
theorem dX2_ripen_4 : decode cX2_ripen 4 = .ok (.iload_n 3, 1) := by decide +kernel
theorem dX2_ripen_5 : decode cX2_ripen 5 = .ok (.aload_n 1, 1) := by decide +kernel
theorem dX2_ripen_6 : decode cX2_ripen 6 = .ok (.getfield 31, 3) := by decide +kernel
theorem dX2_ripen_9 : decode cX2_ripen 9 = .ok (.if_icmp .ge 98, 3) := by decide +kernel
theorem dX2_ripen_12 : decode cX2_ripen 12 = .ok (.aload_n 0, 1) := by decide +kernel
theorem dX2_ripen_13 : decode cX2_ripen 13 = .ok (.iload_n 3, 1) := by decide +kernel
theorem dX2_ripen_14 : decode cX2_ripen 14 = .ok (.invokevirtual 37, 3) := by decide +kernel
theorem dX2_ripen_17 : decode cX2_ripen 17 = .ok (.ifCond .eq 84, 3) := by decide +kernel
theorem dX2_ripen_20 : decode cX2_ripen 20 = .ok (.aload_n 0, 1) := by decide +kernel
theorem dX2_ripen_21 : decode cX2_ripen 21 = .ok (.getfield 24, 3) := by decide +kernel
theorem dX2_ripen_24 : decode cX2_ripen 24 = .ok (.iconst 4, 1) := by decide +kernel
theorem dX2_ripen_25 : decode cX2_ripen 25 = .ok (.irem, 1) := by decide +kernel
theorem dX2_ripen_26 : decode cX2_ripen 26 = .ok (.iconst 3, 1) := by decide +kernel
theorem dX2_ripen_27 : decode cX2_ripen 27 = .ok (.if_icmp .ne 32, 3) := by decide +kernel
theorem dX2_ripen_30 : decode cX2_ripen 30 = .ok (.aload_n 1, 1) := by decide +kernel
theorem dX2_ripen_31 : decode cX2_ripen 31 = .ok (.iload_n 3, 1) := by decide +kernel
theorem dX2_ripen_32 : decode cX2_ripen 32 = .ok (.invokevirtual 47, 3) := by decide +kernel
theorem dX2_ripen_35 : decode cX2_ripen 35 = .ok (.ifCond .ne 24, 3) := by decide +kernel
theorem dX2_ripen_38 : decode cX2_ripen 38 = .ok (.aload_n 0, 1) := by decide +kernel
theorem dX2_ripen_39 : decode cX2_ripen 39 = .ok (.getfield 9, 3) := by decide +kernel
theorem dX2_ripen_42 : decode cX2_ripen 42 = .ok (.iload_n 3, 1) := by decide +kernel
theorem dX2_ripen_43 : decode cX2_ripen 43 = .ok (.iconst 0, 1) := by decide +kernel
theorem dX2_ripen_44 : decode cX2_ripen 44 = .ok (.aload_n 0, 1) := by decide +kernel
theorem dX2_ripen_45 : decode cX2_ripen 45 = .ok (.getfield 9, 3) := by decide +kernel
theorem dX2_ripen_48 : decode cX2_ripen 48 = .ok (.iload_n 3, 1) := by decide +kernel
theorem dX2_ripen_49 : decode cX2_ripen 49 = .ok (.iaload, 1) := by decide +kernel
theorem dX2_ripen_50 : decode cX2_ripen 50 = .ok (.aload_n 1, 1) := by decide +kernel
theorem dX2_ripen_51 : decode cX2_ripen 51 = .ok (.getfield 68, 3) := by decide +kernel
theorem dX2_ripen_54 : decode cX2_ripen 54 = .ok (.isub, 1) := by decide +kernel
theorem dX2_ripen_55 : decode cX2_ripen 55 = .ok (.invokestatic 71, 3) := by decide +kernel
theorem dX2_ripen_58 : decode cX2_ripen 58 = .ok (.iastore, 1) := by decide +kernel
theorem dX2_ripen_59 : decode cX2_ripen 59 = .ok (.aload_n 0, 1) := by decide +kernel
theorem dX2_ripen_60 : decode cX2_ripen 60 = .ok (.getfield 9, 3) := by decide +kernel
theorem dX2_ripen_63 : decode cX2_ripen 63 = .ok (.iload_n 3, 1) := by decide +kernel
theorem dX2_ripen_64 : decode cX2_ripen 64 = .ok (.iaload, 1) := by decide +kernel
theorem dX2_ripen_65 : decode cX2_ripen 65 = .ok (.aload_n 1, 1) := by decide +kernel
theorem dX2_ripen_66 : decode cX2_ripen 66 = .ok (.getfield 76, 3) := by decide +kernel
theorem dX2_ripen_69 : decode cX2_ripen 69 = .ok (.if_icmp .lt 32, 3) := by decide +kernel
theorem dX2_ripen_72 : decode cX2_ripen 72 = .ok (.aload_n 0, 1) := by decide +kernel
theorem dX2_ripen_73 : decode cX2_ripen 73 = .ok (.getfield 9, 3) := by decide +kernel
theorem dX2_ripen_76 : decode cX2_ripen 76 = .ok (.iload_n 3, 1) := by decide +kernel
theorem dX2_ripen_77 : decode cX2_ripen 77 = .ok (.dup2, 1) := by decide +kernel
theorem dX2_ripen_78 : decode cX2_ripen 78 = .ok (.iaload, 1) := by decide +kernel
theorem dX2_ripen_79 : decode cX2_ripen 79 = .ok (.aload_n 1, 1) := by decide +kernel
theorem dX2_ripen_80 : decode cX2_ripen 80 = .ok (.getfield 76, 3) := by decide +kernel
theorem dX2_ripen_83 : decode cX2_ripen 83 = .ok (.isub, 1) := by decide +kernel
theorem dX2_ripen_84 : decode cX2_ripen 84 = .ok (.iastore, 1) := by decide +kernel
theorem dX2_ripen_85 : decode cX2_ripen 85 = .ok (.aload_n 0, 1) := by decide +kernel
theorem dX2_ripen_86 : decode cX2_ripen 86 = .ok (.getfield 18, 3) := by decide +kernel
theorem dX2_ripen_89 : decode cX2_ripen 89 = .ok (.iload_n 3, 1) := by decide +kernel
theorem dX2_ripen_90 : decode cX2_ripen 90 = .ok (.dup2, 1) := by decide +kernel
theorem dX2_ripen_91 : decode cX2_ripen 91 = .ok (.iaload, 1) := by decide +kernel
theorem dX2_ripen_92 : decode cX2_ripen 92 = .ok (.iconst 1, 1) := by decide +kernel
theorem dX2_ripen_93 : decode cX2_ripen 93 = .ok (.iadd, 1) := by decide +kernel
theorem dX2_ripen_94 : decode cX2_ripen 94 = .ok (.iastore, 1) := by decide +kernel
theorem dX2_ripen_95 : decode cX2_ripen 95 = .ok (.iload_n 2, 1) := by decide +kernel
theorem dX2_ripen_96 : decode cX2_ripen 96 = .ok (.iconst 1, 1) := by decide +kernel
theorem dX2_ripen_97 : decode cX2_ripen 97 = .ok (.iload_n 3, 1) := by decide +kernel
theorem dX2_ripen_98 : decode cX2_ripen 98 = .ok (.ishl, 1) := by decide +kernel
theorem dX2_ripen_99 : decode cX2_ripen 99 = .ok (.ior, 1) := by decide +kernel
theorem dX2_ripen_100 : decode cX2_ripen 100 = .ok (.istore_n 2, 1) := by decide +kernel
theorem dX2_ripen_101 : decode cX2_ripen 101 = .ok (.iinc 3 1, 3) := by decide +kernel
theorem dX2_ripen_104 : decode cX2_ripen 104 = .ok (.goto (-100), 3) := by decide +kernel
theorem dX2_ripen_107 : decode cX2_ripen 107 = .ok (.aload_n 0, 1) := by decide +kernel
theorem dX2_ripen_108 : decode cX2_ripen 108 = .ok (.getfield 24, 3) := by decide +kernel
theorem dX2_ripen_111 : decode cX2_ripen 111 = .ok (.bipush 12, 2) := by decide +kernel
theorem dX2_ripen_113 : decode cX2_ripen 113 = .ok (.irem, 1) := by decide +kernel
theorem dX2_ripen_114 : decode cX2_ripen 114 = .ok (.bipush 11, 2) := by decide +kernel
theorem dX2_ripen_116 : decode cX2_ripen 116 = .ok (.if_icmp .ne 8, 3) := by decide +kernel
theorem dX2_ripen_119 : decode cX2_ripen 119 = .ok (.aload_n 0, 1) := by decide +kernel
theorem dX2_ripen_120 : decode cX2_ripen 120 = .ok (.aload_n 1, 1) := by decide +kernel
theorem dX2_ripen_121 : decode cX2_ripen 121 = .ok (.invokevirtual 79, 3) := by decide +kernel
theorem dX2_ripen_124 : decode cX2_ripen 124 = .ok (.aload_n 0, 1) := by decide +kernel
theorem dX2_ripen_125 : decode cX2_ripen 125 = .ok (.dup, 1) := by decide +kernel
theorem dX2_ripen_126 : decode cX2_ripen 126 = .ok (.getfield 24, 3) := by decide +kernel
theorem dX2_ripen_129 : decode cX2_ripen 129 = .ok (.iconst 1, 1) := by decide +kernel
theorem dX2_ripen_130 : decode cX2_ripen 130 = .ok (.iadd, 1) := by decide +kernel
theorem dX2_ripen_131 : decode cX2_ripen 131 = .ok (.putfield 24, 3) := by decide +kernel
theorem dX2_ripen_134 : decode cX2_ripen 134 = .ok (.iload_n 2, 1) := by decide +kernel
theorem dX2_ripen_135 : decode cX2_ripen 135 = .ok (.ireturn, 1) := by decide +kernel
def f_X2_ripen_l4 : am_F := am_th (i_il 3) (am_th (i_al 1) (am_th (i_gi 5 3) (am_br (b_2 (fun x y => decide (y ≤ x))) (am_to 107) (am_th (i_al 0) (am_th (i_il 3) (am_th (i_cv 2 1 d_X2_stands) (am_sq 101 (am_br (b_1 (fun x => decide (x = 0))) (am_to 101) (am_th (i_al 0) (am_th (i_gi 2 0) (am_th (i_ic (4)) (am_th (i_2n (fun x y => x - x / y * y)) (am_th (i_ic (3)) (am_sq 59 (am_br (b_2 (fun x y => decide (¬ x = y))) (am_to 59) (am_th (i_al 1) (am_th (i_il 3) (am_th (i_cv 5 1 d_X5_isPotted) (am_br (b_1 (fun x => decide (¬ x = 0))) (am_to 59) (am_th (i_al 0) (am_th (i_gr 2 2) (am_th (i_il 3) (am_th (i_ic (0)) (am_th (i_al 0) (am_th (i_gr 2 2) (am_th (i_il 3) (am_th (i_ia 0) (am_th (i_al 1) (am_th (i_gi 5 0) (am_th (i_2 (fun x y => x - y)) (am_th (i_mx (fun x y => if x < y then y else x)) (am_th (i_iS) (am_to 59))))))))))))))))))) (am_th (i_al 0) (am_th (i_gr 2 2) (am_th (i_il 3) (am_th (i_ia 0) (am_th (i_al 1) (am_th (i_gi 5 1) (am_br (b_2 (fun x y => decide (x < y))) (am_to 101) (am_th (i_al 0) (am_th (i_gr 2 2) (am_th (i_il 3) (am_th (i_dup2) (am_th (i_ia 0) (am_th (i_al 1) (am_th (i_gi 5 1) (am_th (i_2 (fun x y => x - y)) (am_th (i_iS) (am_th (i_al 0) (am_th (i_gr 2 4) (am_th (i_il 3) (am_th (i_dup2) (am_th (i_ia 0) (am_th (i_ic (1)) (am_th (i_2 (fun x y => x + y)) (am_th (i_iS) (am_th (i_il 2) (am_th (i_ic (1)) (am_th (i_il 3) (am_th (i_2 (fun x y => x <<< (y &&& 31))) (am_th (i_2 (fun x y => x ||| y)) (am_th (i_is 2) (am_to 101)))))))))))))))))))))))))))))))))))))) (am_th (i_inc 3 (1)) (am_to 4)))))))))
def f_X2_ripen : am_F := am_th (i_ic (0)) (am_th (i_is 2) (am_th (i_ic (0)) (am_th (i_is 3) (am_sq 107 (am_lp 5000 4 f_X2_ripen_l4) (am_th (i_al 0) (am_th (i_gi 2 0) (am_th (i_ic (12)) (am_th (i_2n (fun x y => x - x / y * y)) (am_th (i_ic (11)) (am_br (b_2 (fun x y => decide (¬ x = y))) (am_th (i_al 0) (am_th (i_dup) (am_th (i_gi 2 0) (am_th (i_ic (1)) (am_th (i_2 (fun x y => x + y)) (am_th (i_pi 2 0) (am_th (i_il 2) (r_i)))))))) (am_th (i_al 0) (am_th (i_al 1) (am_th (i_cv 2 1 d_X2_growSuckers) (am_th (i_al 0) (am_th (i_dup) (am_th (i_gi 2 0) (am_th (i_ic (1)) (am_th (i_2 (fun x y => x + y)) (am_th (i_pi 2 0) (am_th (i_il 2) (r_i)))))))))))))))))))))
def d_X2_ripen : am_D := am_den 4 f_X2_ripen
set_option maxHeartbeats 4000000 in
set_option maxRecDepth 100000 in
theorem b_X2_ripen : am_Body yX2_ripen cX2_ripen 4 (some .int) 3 64 f_X2_ripen := by
  intro p l e R s m args below meth c g n0 z0 r0 u0 C hr hn
  have C : am_Cx p l e R s m args below meth c g RX2 cX2_ripen 4 n0 z0 (am_len u0) (am_wt u0) 3 64 := C
  have l4 : am_Snd (am_GM p l e R s m args below meth c g 4 n0 z0 r0 u0) (am_Rt r0 u0) 4 (f_X2_ripen_l4) := by
    unfold f_X2_ripen_l4
    exact (so_th (so_iload_n C dX2_ripen_4 rfl) (so_th (so_aload_n C dX2_ripen_5 rfl) (so_th (so_geti C fl_RX2_31 (by decide) dX2_ripen_6) (so_br (so_icmp_ge C dX2_ripen_9 (by decide)) (so_to) (so_th (so_aload_n C dX2_ripen_12 rfl) (so_th (so_iload_n C dX2_ripen_13 rfl) (so_th (so_cv C m_X2_stands rfl k_43 k_45 k_44 k_46 k_40 ⟨by decide, by decide, by decide +kernel⟩ (by decide) dX2_ripen_14) (so_sq (so_br (so_if_eq C dX2_ripen_17 (by decide)) (so_to) (so_th (so_aload_n C dX2_ripen_20 rfl) (so_th (so_geti C fl_RX2_24 (by decide) dX2_ripen_21) (so_th (so_iconst C dX2_ripen_24 (by decide)) (so_th (so_irem C dX2_ripen_25) (so_th (so_iconst C dX2_ripen_26 (by decide)) (so_sq (so_br (so_icmp_ne C dX2_ripen_27 (by decide)) (so_to) (so_th (so_aload_n C dX2_ripen_30 rfl) (so_th (so_iload_n C dX2_ripen_31 rfl) (so_th (so_cv C m_X5_isPotted rfl k_7 k_47 k_9 k_11 k_8 ⟨by decide, by decide, by decide +kernel⟩ (by decide) dX2_ripen_32) (so_br (so_if_ne C dX2_ripen_35 (by decide)) (so_to) (so_th (so_aload_n C dX2_ripen_38 rfl) (so_th (so_getr C fl_RX2_9 dX2_ripen_39) (so_th (so_iload_n C dX2_ripen_42 rfl) (so_th (so_iconst C dX2_ripen_43 (by decide)) (so_th (so_aload_n C dX2_ripen_44 rfl) (so_th (so_getr C fl_RX2_9 dX2_ripen_45) (so_th (so_iload_n C dX2_ripen_48 rfl) (so_th (so_iald C dX2_ripen_49) (so_th (so_aload_n C dX2_ripen_50 rfl) (so_th (so_geti C fl_RX2_68 (by decide) dX2_ripen_51) (so_th (so_isub C dX2_ripen_54) (so_th (so_max C k_48 k_17 k_18 k_19 (by decide) dX2_ripen_55) (so_th (so_iast C dX2_ripen_58) (so_to))))))))))))))))))) (so_th (so_aload_n C dX2_ripen_59 rfl) (so_th (so_getr C fl_RX2_9 dX2_ripen_60) (so_th (so_iload_n C dX2_ripen_63 rfl) (so_th (so_iald C dX2_ripen_64) (so_th (so_aload_n C dX2_ripen_65 rfl) (so_th (so_geti C fl_RX2_76 (by decide) dX2_ripen_66) (so_br (so_icmp_lt C dX2_ripen_69 (by decide)) (so_to) (so_th (so_aload_n C dX2_ripen_72 rfl) (so_th (so_getr C fl_RX2_9 dX2_ripen_73) (so_th (so_iload_n C dX2_ripen_76 rfl) (so_th (so_dup2 C dX2_ripen_77) (so_th (so_iald C dX2_ripen_78) (so_th (so_aload_n C dX2_ripen_79 rfl) (so_th (so_geti C fl_RX2_76 (by decide) dX2_ripen_80) (so_th (so_isub C dX2_ripen_83) (so_th (so_iast C dX2_ripen_84) (so_th (so_aload_n C dX2_ripen_85 rfl) (so_th (so_getr C fl_RX2_18 dX2_ripen_86) (so_th (so_iload_n C dX2_ripen_89 rfl) (so_th (so_dup2 C dX2_ripen_90) (so_th (so_iald C dX2_ripen_91) (so_th (so_iconst C dX2_ripen_92 (by decide)) (so_th (so_iadd C dX2_ripen_93) (so_th (so_iast C dX2_ripen_94) (so_th (so_iload_n C dX2_ripen_95 rfl) (so_th (so_iconst C dX2_ripen_96 (by decide)) (so_th (so_iload_n C dX2_ripen_97 rfl) (so_th (so_ishl C dX2_ripen_98) (so_th (so_ior C dX2_ripen_99) (so_th (so_istore_n C dX2_ripen_100 rfl (by decide)) (so_to)))))))))))))))))))))))))))))))))))))) (so_th (so_iinc C dX2_ripen_101 (by decide) (by decide)) (so_goto C dX2_ripen_104 (by decide) (so_to)))))))))))
  unfold f_X2_ripen
  exact (so_th (so_iconst C dX2_ripen_0 (by decide)) (so_th (so_istore_n C dX2_ripen_1 rfl (by decide)) (so_th (so_iconst C dX2_ripen_2 (by decide)) (so_th (so_istore_n C dX2_ripen_3 rfl (by decide)) (so_sq (so_lp l4 5000) (so_th (so_aload_n C dX2_ripen_107 rfl) (so_th (so_geti C fl_RX2_24 (by decide) dX2_ripen_108) (so_th (so_bipush C dX2_ripen_111 (by decide)) (so_th (so_irem C dX2_ripen_113) (so_th (so_bipush C dX2_ripen_114 (by decide)) (so_br (so_icmp_ne C dX2_ripen_116 (by decide)) (so_th (so_aload_n C dX2_ripen_124 rfl) (so_th (so_dup C dX2_ripen_125) (so_th (so_geti C fl_RX2_24 (by decide) dX2_ripen_126) (so_th (so_iconst C dX2_ripen_129 (by decide)) (so_th (so_iadd C dX2_ripen_130) (so_th (so_puti C fl_RX2_24 fp_2 (Or.inl rfl) dX2_ripen_131) (so_th (so_iload_n C dX2_ripen_134 rfl) (so_ri C hr dX2_ripen_135)))))))) (so_th (so_aload_n C dX2_ripen_119 rfl) (so_th (so_aload_n C dX2_ripen_120 rfl) (so_th (so_cv C m_X2_growSuckers rfl k_49 k_51 k_50 k_52 k_40 ⟨by decide, by decide, by decide +kernel⟩ (by decide) dX2_ripen_121) (so_th (so_aload_n C dX2_ripen_124 rfl) (so_th (so_dup C dX2_ripen_125) (so_th (so_geti C fl_RX2_24 (by decide) dX2_ripen_126) (so_th (so_iconst C dX2_ripen_129 (by decide)) (so_th (so_iadd C dX2_ripen_130) (so_th (so_puti C fl_RX2_24 fp_2 (Or.inl rfl) dX2_ripen_131) (so_th (so_iload_n C dX2_ripen_134 rfl) (so_ri C hr dX2_ripen_135))))))))))))))))))))))
theorem m_X2_ripen : am_M yX2_ripen cX2_ripen 4 (some .int) 3 64 d_X2_ripen := am_M_of (by decide +kernel) b_X2_ripen
theorem dX2_passByDeeds_0 : decode cX2_passByDeeds 0 = .ok (.iconst 0, 1) := by decide +kernel
theorem dX2_passByDeeds_1 : decode cX2_passByDeeds 1 = .ok (.istore_n 2, 1) := by decide +kernel
theorem dX2_passByDeeds_2 : decode cX2_passByDeeds 2 = .ok (.iload_n 2, 1) := by decide +kernel
theorem dX2_passByDeeds_3 : decode cX2_passByDeeds 3 = .ok (.aload_n 1, 1) := by decide +kernel
theorem dX2_passByDeeds_4 : decode cX2_passByDeeds 4 = .ok (.getfield 31, 3) := by decide +kernel
theorem dX2_passByDeeds_7 : decode cX2_passByDeeds 7 = .ok (.if_icmp .ge 32, 3) := by decide +kernel
theorem dX2_passByDeeds_10 : decode cX2_passByDeeds 10 = .ok (.aload_n 0, 1) := by decide +kernel
theorem dX2_passByDeeds_11 : decode cX2_passByDeeds 11 = .ok (.getfield 9, 3) := by decide +kernel
theorem dX2_passByDeeds_14 : decode cX2_passByDeeds 14 = .ok (.aload_n 0, 1) := by decide +kernel
theorem dX2_passByDeeds_15 : decode cX2_passByDeeds 15 = .ok (.getfield 15, 3) := by decide +kernel
theorem dX2_passByDeeds_18 : decode cX2_passByDeeds 18 = .ok (.iload_n 2, 1) := by decide +kernel
theorem dX2_passByDeeds_19 : decode cX2_passByDeeds 19 = .ok (.iaload, 1) := by decide +kernel
theorem dX2_passByDeeds_20 : decode cX2_passByDeeds 20 = .ok (.dup2, 1) := by decide +kernel
theorem dX2_passByDeeds_21 : decode cX2_passByDeeds 21 = .ok (.iaload, 1) := by decide +kernel
theorem dX2_passByDeeds_22 : decode cX2_passByDeeds 22 = .ok (.aload_n 1, 1) := by decide +kernel
theorem dX2_passByDeeds_23 : decode cX2_passByDeeds 23 = .ok (.iload_n 2, 1) := by decide +kernel
theorem dX2_passByDeeds_24 : decode cX2_passByDeeds 24 = .ok (.aload_n 0, 1) := by decide +kernel
theorem dX2_passByDeeds_25 : decode cX2_passByDeeds 25 = .ok (.getfield 24, 3) := by decide +kernel
theorem dX2_passByDeeds_28 : decode cX2_passByDeeds 28 = .ok (.invokevirtual 61, 3) := by decide +kernel
theorem dX2_passByDeeds_31 : decode cX2_passByDeeds 31 = .ok (.iadd, 1) := by decide +kernel
theorem dX2_passByDeeds_32 : decode cX2_passByDeeds 32 = .ok (.iastore, 1) := by decide +kernel
theorem dX2_passByDeeds_33 : decode cX2_passByDeeds 33 = .ok (.iinc 2 1, 3) := by decide +kernel
theorem dX2_passByDeeds_36 : decode cX2_passByDeeds 36 = .ok (.goto (-34), 3) := by decide +kernel
theorem dX2_passByDeeds_39 : decode cX2_passByDeeds 39 = .ok (.aload_n 0, 1) := by decide +kernel
theorem dX2_passByDeeds_40 : decode cX2_passByDeeds 40 = .ok (.aload_n 1, 1) := by decide +kernel
theorem dX2_passByDeeds_41 : decode cX2_passByDeeds 41 = .ok (.invokevirtual 64, 3) := by decide +kernel
theorem dX2_passByDeeds_44 : decode cX2_passByDeeds 44 = .ok (.ireturn, 1) := by decide +kernel
def f_X2_passByDeeds_l2 : am_F := am_th (i_il 2) (am_th (i_al 1) (am_th (i_gi 5 3) (am_br (b_2 (fun x y => decide (y ≤ x))) (am_to 39) (am_th (i_al 0) (am_th (i_gr 2 2) (am_th (i_al 0) (am_th (i_gr 2 3) (am_th (i_il 2) (am_th (i_ia 0) (am_th (i_dup2) (am_th (i_ia 0) (am_th (i_al 1) (am_th (i_il 2) (am_th (i_al 0) (am_th (i_gi 2 0) (am_th (i_cv 5 2 d_X5_foodOf) (am_th (i_2 (fun x y => x + y)) (am_th (i_iS) (am_th (i_inc 2 (1)) (am_to 2))))))))))))))))))))
def f_X2_passByDeeds : am_F := am_th (i_ic (0)) (am_th (i_is 2) (am_sq 39 (am_lp 5000 2 f_X2_passByDeeds_l2) (am_th (i_al 0) (am_th (i_al 1) (am_th (i_cv 2 1 d_X2_ripen) (r_i))))))
def d_X2_passByDeeds : am_D := am_den 3 f_X2_passByDeeds
set_option maxHeartbeats 4000000 in
set_option maxRecDepth 100000 in
theorem b_X2_passByDeeds : am_Body yX2_passByDeeds cX2_passByDeeds 3 (some .int) 4 87 f_X2_passByDeeds := by
  intro p l e R s m args below meth c g n0 z0 r0 u0 C hr hn
  have C : am_Cx p l e R s m args below meth c g RX2 cX2_passByDeeds 3 n0 z0 (am_len u0) (am_wt u0) 4 87 := C
  have l2 : am_Snd (am_GM p l e R s m args below meth c g 3 n0 z0 r0 u0) (am_Rt r0 u0) 2 (f_X2_passByDeeds_l2) := by
    unfold f_X2_passByDeeds_l2
    exact (so_th (so_iload_n C dX2_passByDeeds_2 rfl) (so_th (so_aload_n C dX2_passByDeeds_3 rfl) (so_th (so_geti C fl_RX2_31 (by decide) dX2_passByDeeds_4) (so_br (so_icmp_ge C dX2_passByDeeds_7 (by decide)) (so_to) (so_th (so_aload_n C dX2_passByDeeds_10 rfl) (so_th (so_getr C fl_RX2_9 dX2_passByDeeds_11) (so_th (so_aload_n C dX2_passByDeeds_14 rfl) (so_th (so_getr C fl_RX2_15 dX2_passByDeeds_15) (so_th (so_iload_n C dX2_passByDeeds_18 rfl) (so_th (so_iald C dX2_passByDeeds_19) (so_th (so_dup2 C dX2_passByDeeds_20) (so_th (so_iald C dX2_passByDeeds_21) (so_th (so_aload_n C dX2_passByDeeds_22 rfl) (so_th (so_iload_n C dX2_passByDeeds_23 rfl) (so_th (so_aload_n C dX2_passByDeeds_24 rfl) (so_th (so_geti C fl_RX2_24 (by decide) dX2_passByDeeds_25) (so_th (so_cv C m_X5_foodOf rfl k_12 k_53 k_13 k_15 k_8 ⟨by decide, by decide, by decide +kernel⟩ (by decide) dX2_passByDeeds_28) (so_th (so_iadd C dX2_passByDeeds_31) (so_th (so_iast C dX2_passByDeeds_32) (so_th (so_iinc C dX2_passByDeeds_33 (by decide) (by decide)) (so_goto C dX2_passByDeeds_36 (by decide) (so_to))))))))))))))))))))))
  unfold f_X2_passByDeeds
  exact (so_th (so_iconst C dX2_passByDeeds_0 (by decide)) (so_th (so_istore_n C dX2_passByDeeds_1 rfl (by decide)) (so_sq (so_lp l2 5000) (so_th (so_aload_n C dX2_passByDeeds_39 rfl) (so_th (so_aload_n C dX2_passByDeeds_40 rfl) (so_th (so_cv C m_X2_ripen rfl k_54 k_56 k_55 k_57 k_40 ⟨by decide, by decide, by decide +kernel⟩ (by decide) dX2_passByDeeds_41) (so_ri C hr dX2_passByDeeds_44)))))))
theorem m_X2_passByDeeds : am_M yX2_passByDeeds cX2_passByDeeds 3 (some .int) 4 87 d_X2_passByDeeds := am_M_of (by decide +kernel) b_X2_passByDeeds
theorem dX1_keepIfExplained_0 : decode cX1_keepIfExplained 0 = .ok (.iconst 0, 1) := by decide +kernel
theorem dX1_keepIfExplained_1 : decode cX1_keepIfExplained 1 = .ok (.istore_n 3, 1) := by decide +kernel
theorem dX1_keepIfExplained_2 : decode cX1_keepIfExplained 2 = .ok (.iload_n 3, 1) := by decide +kernel
theorem dX1_keepIfExplained_3 : decode cX1_keepIfExplained 3 = .ok (.bipush 24, 2) := by decide +kernel
theorem dX1_keepIfExplained_5 : decode cX1_keepIfExplained 5 = .ok (.if_icmp .ge 31, 3) := by decide +kernel
theorem dX1_keepIfExplained_8 : decode cX1_keepIfExplained 8 = .ok (.aload_n 0, 1) := by decide +kernel
theorem dX1_keepIfExplained_9 : decode cX1_keepIfExplained 9 = .ok (.aload_n 1, 1) := by decide +kernel
theorem dX1_keepIfExplained_10 : decode cX1_keepIfExplained 10 = .ok (.iload_n 3, 1) := by decide +kernel
theorem dX1_keepIfExplained_11 : decode cX1_keepIfExplained 11 = .ok (.invokevirtual 54, 3) := by decide +kernel
theorem dX1_keepIfExplained_14 : decode cX1_keepIfExplained 14 = .ok (.istore 4, 2) := by decide +kernel
theorem dX1_keepIfExplained_16 : decode cX1_keepIfExplained 16 = .ok (.aload_n 0, 1) := by decide +kernel
theorem dX1_keepIfExplained_17 : decode cX1_keepIfExplained 17 = .ok (.getfield 18, 3) := by decide +kernel
theorem dX1_keepIfExplained_20 : decode cX1_keepIfExplained 20 = .ok (.aload_n 1, 1) := by decide +kernel
theorem dX1_keepIfExplained_21 : decode cX1_keepIfExplained 21 = .ok (.invokevirtual 58, 3) := by decide +kernel
theorem dX1_keepIfExplained_24 : decode cX1_keepIfExplained 24 = .ok (.iload 4, 2) := by decide +kernel
theorem dX1_keepIfExplained_26 : decode cX1_keepIfExplained 26 = .ok (.if_icmp .eq 4, 3) := by decide +kernel
theorem dX1_keepIfExplained_29 : decode cX1_keepIfExplained 29 = .ok (.return_, 1) := by decide +kernel
theorem dX1_keepIfExplained_30 : decode cX1_keepIfExplained 30 = .ok (.iinc 3 1, 3) := by decide +kernel
theorem dX1_keepIfExplained_33 : decode cX1_keepIfExplained 33 = .ok (.goto (-31), 3) := by decide +kernel
theorem dX1_keepIfExplained_36 : decode cX1_keepIfExplained 36 = .ok (.aload_n 0, 1) := by decide +kernel
theorem dX1_keepIfExplained_37 : decode cX1_keepIfExplained 37 = .ok (.getfield 21, 3) := by decide +kernel
theorem dX1_keepIfExplained_40 : decode cX1_keepIfExplained 40 = .ok (.aload_n 0, 1) := by decide +kernel
theorem dX1_keepIfExplained_41 : decode cX1_keepIfExplained 41 = .ok (.getfield 25, 3) := by decide +kernel
theorem dX1_keepIfExplained_44 : decode cX1_keepIfExplained 44 = .ok (.iload_n 2, 1) := by decide +kernel
theorem dX1_keepIfExplained_45 : decode cX1_keepIfExplained 45 = .ok (.iastore, 1) := by decide +kernel
theorem dX1_keepIfExplained_46 : decode cX1_keepIfExplained 46 = .ok (.aload_n 0, 1) := by decide +kernel
theorem dX1_keepIfExplained_47 : decode cX1_keepIfExplained 47 = .ok (.dup, 1) := by decide +kernel
theorem dX1_keepIfExplained_48 : decode cX1_keepIfExplained 48 = .ok (.getfield 25, 3) := by decide +kernel
theorem dX1_keepIfExplained_51 : decode cX1_keepIfExplained 51 = .ok (.iconst 1, 1) := by decide +kernel
theorem dX1_keepIfExplained_52 : decode cX1_keepIfExplained 52 = .ok (.iadd, 1) := by decide +kernel
theorem dX1_keepIfExplained_53 : decode cX1_keepIfExplained 53 = .ok (.putfield 25, 3) := by decide +kernel
theorem dX1_keepIfExplained_56 : decode cX1_keepIfExplained 56 = .ok (.return_, 1) := by decide +kernel
def f_X1_keepIfExplained_l2 : am_F := am_th (i_il 3) (am_th (i_ic (24)) (am_br (b_2 (fun x y => decide (y ≤ x))) (am_to 36) (am_th (i_al 0) (am_th (i_al 1) (am_th (i_il 3) (am_th (i_cv 1 2 d_X1_toldIn) (am_th (i_is 4) (am_th (i_al 0) (am_th (i_gr 1 1) (am_th (i_al 1) (am_th (i_cv 2 1 d_X2_passByDeeds) (am_th (i_il 4) (am_br (b_2 (fun x y => decide (x = y))) (am_th (i_inc 3 (1)) (am_to 2)) (r_v))))))))))))))
def f_X1_keepIfExplained : am_F := am_th (i_ic (0)) (am_th (i_is 3) (am_sq 36 (am_lp 5000 2 f_X1_keepIfExplained_l2) (am_th (i_al 0) (am_th (i_gr 1 2) (am_th (i_al 0) (am_th (i_gi 1 3) (am_th (i_il 2) (am_th (i_iS) (am_th (i_al 0) (am_th (i_dup) (am_th (i_gi 1 3) (am_th (i_ic (1)) (am_th (i_2 (fun x y => x + y)) (am_th (i_pi 1 3) (r_v)))))))))))))))
def d_X1_keepIfExplained : am_D := am_den 5 f_X1_keepIfExplained
set_option maxHeartbeats 4000000 in
set_option maxRecDepth 100000 in
theorem b_X1_keepIfExplained : am_Body yX1_keepIfExplained cX1_keepIfExplained 5 none 5 109 f_X1_keepIfExplained := by
  intro p l e R s m args below meth c g n0 z0 r0 u0 C hr hn
  have C : am_Cx p l e R s m args below meth c g RX1 cX1_keepIfExplained 5 n0 z0 (am_len u0) (am_wt u0) 5 109 := C
  have l2 : am_Snd (am_GM p l e R s m args below meth c g 5 n0 z0 r0 u0) (am_Rt r0 u0) 2 (f_X1_keepIfExplained_l2) := by
    unfold f_X1_keepIfExplained_l2
    exact (so_th (so_iload_n C dX1_keepIfExplained_2 rfl) (so_th (so_bipush C dX1_keepIfExplained_3 (by decide)) (so_br (so_icmp_ge C dX1_keepIfExplained_5 (by decide)) (so_to) (so_th (so_aload_n C dX1_keepIfExplained_8 rfl) (so_th (so_aload_n C dX1_keepIfExplained_9 rfl) (so_th (so_iload_n C dX1_keepIfExplained_10 rfl) (so_th (so_cv C m_X1_toldIn rfl k_58 k_61 k_60 k_62 k_59 ⟨by decide, by decide, by decide +kernel⟩ (by decide) dX1_keepIfExplained_11) (so_th (so_istore C dX1_keepIfExplained_14 (by decide)) (so_th (so_aload_n C dX1_keepIfExplained_16 rfl) (so_th (so_getr C fl_RX1_18 dX1_keepIfExplained_17) (so_th (so_aload_n C dX1_keepIfExplained_20 rfl) (so_th (so_cv C m_X2_passByDeeds rfl k_63 k_65 k_64 k_66 k_40 ⟨by decide, by decide, by decide +kernel⟩ (by decide) dX1_keepIfExplained_21) (so_th (so_iload C dX1_keepIfExplained_24) (so_br (so_icmp_eq C dX1_keepIfExplained_26 (by decide)) (so_th (so_iinc C dX1_keepIfExplained_30 (by decide) (by decide)) (so_goto C dX1_keepIfExplained_33 (by decide) (so_to))) (so_rv C hr dX1_keepIfExplained_29)))))))))))))))
  unfold f_X1_keepIfExplained
  exact (so_th (so_iconst C dX1_keepIfExplained_0 (by decide)) (so_th (so_istore_n C dX1_keepIfExplained_1 rfl (by decide)) (so_sq (so_lp l2 5000) (so_th (so_aload_n C dX1_keepIfExplained_36 rfl) (so_th (so_getr C fl_RX1_21 dX1_keepIfExplained_37) (so_th (so_aload_n C dX1_keepIfExplained_40 rfl) (so_th (so_geti C fl_RX1_25 (by decide) dX1_keepIfExplained_41) (so_th (so_iload_n C dX1_keepIfExplained_44 rfl) (so_th (so_iast C dX1_keepIfExplained_45) (so_th (so_aload_n C dX1_keepIfExplained_46 rfl) (so_th (so_dup C dX1_keepIfExplained_47) (so_th (so_geti C fl_RX1_25 (by decide) dX1_keepIfExplained_48) (so_th (so_iconst C dX1_keepIfExplained_51 (by decide)) (so_th (so_iadd C dX1_keepIfExplained_52) (so_th (so_puti C fl_RX1_25 fp_1 (Or.inl rfl) dX1_keepIfExplained_53) (so_rv C hr dX1_keepIfExplained_56))))))))))))))))
theorem m_X1_keepIfExplained : am_M yX1_keepIfExplained cX1_keepIfExplained 5 none 5 109 d_X1_keepIfExplained := am_M_of (by decide +kernel) b_X1_keepIfExplained
theorem dX2_partiesOf_0 : decode cX2_partiesOf 0 = .ok (.iconst 0, 1) := by decide +kernel
theorem dX2_partiesOf_1 : decode cX2_partiesOf 1 = .ok (.istore_n 3, 1) := by decide +kernel
theorem dX2_partiesOf_2 : decode cX2_partiesOf 2 = .ok (.iconst 0, 1) := by decide +kernel
theorem dX2_partiesOf_3 : decode cX2_partiesOf 3 = .ok (.istore 4, 2) := by decide +kernel
theorem dX2_partiesOf_5 : decode cX2_partiesOf 5 = .ok (.iload 4, 2) := by decide +kernel
theorem dX2_partiesOf_7 : decode cX2_partiesOf 7 = .ok (.aload_n 1, 1) := by decide +kernel
theorem dX2_partiesOf_8 : decode cX2_partiesOf 8 = .ok (.getfield 31, 3) := by decide +kernel
theorem dX2_partiesOf_11 : decode cX2_partiesOf 11 = .ok (.if_icmp .ge 30, 3) := by decide +kernel
theorem dX2_partiesOf_14 : decode cX2_partiesOf 14 = .ok (.aload_n 0, 1) := by decide +kernel
theorem dX2_partiesOf_15 : decode cX2_partiesOf 15 = .ok (.getfield 15, 3) := by decide +kernel
theorem dX2_partiesOf_18 : decode cX2_partiesOf 18 = .ok (.iload 4, 2) := by decide +kernel
theorem dX2_partiesOf_20 : decode cX2_partiesOf 20 = .ok (.iaload, 1) := by decide +kernel
theorem dX2_partiesOf_21 : decode cX2_partiesOf 21 = .ok (.iload_n 2, 1) := by decide +kernel
theorem dX2_partiesOf_22 : decode cX2_partiesOf 22 = .ok (.if_icmp .ne 13, 3) := by decide +kernel
theorem dX2_partiesOf_25 : decode cX2_partiesOf 25 = .ok (.iload_n 3, 1) := by decide +kernel
theorem dX2_partiesOf_26 : decode cX2_partiesOf 26 = .ok (.aload_n 1, 1) := by decide +kernel
theorem dX2_partiesOf_27 : decode cX2_partiesOf 27 = .ok (.getfield 41, 3) := by decide +kernel
theorem dX2_partiesOf_30 : decode cX2_partiesOf 30 = .ok (.iload 4, 2) := by decide +kernel
theorem dX2_partiesOf_32 : decode cX2_partiesOf 32 = .ok (.iaload, 1) := by decide +kernel
theorem dX2_partiesOf_33 : decode cX2_partiesOf 33 = .ok (.ior, 1) := by decide +kernel
theorem dX2_partiesOf_34 : decode cX2_partiesOf 34 = .ok (.istore_n 3, 1) := by decide +kernel
theorem dX2_partiesOf_35 : decode cX2_partiesOf 35 = .ok (.iinc 4 1, 3) := by decide +kernel
theorem dX2_partiesOf_38 : decode cX2_partiesOf 38 = .ok (.goto (-33), 3) := by decide +kernel
theorem dX2_partiesOf_41 : decode cX2_partiesOf 41 = .ok (.iload_n 3, 1) := by decide +kernel
theorem dX2_partiesOf_42 : decode cX2_partiesOf 42 = .ok (.ireturn, 1) := by decide +kernel
def f_X2_partiesOf_l5 : am_F := am_th (i_il 4) (am_th (i_al 1) (am_th (i_gi 5 3) (am_br (b_2 (fun x y => decide (y ≤ x))) (am_to 41) (am_th (i_al 0) (am_th (i_gr 2 3) (am_th (i_il 4) (am_th (i_ia 0) (am_th (i_il 2) (am_sq 35 (am_br (b_2 (fun x y => decide (¬ x = y))) (am_to 35) (am_th (i_il 3) (am_th (i_al 1) (am_th (i_gr 5 11) (am_th (i_il 4) (am_th (i_ia 0) (am_th (i_2 (fun x y => x ||| y)) (am_th (i_is 3) (am_to 35))))))))) (am_th (i_inc 4 (1)) (am_to 5)))))))))))
def f_X2_partiesOf : am_F := am_th (i_ic (0)) (am_th (i_is 3) (am_th (i_ic (0)) (am_th (i_is 4) (am_sq 41 (am_lp 5000 5 f_X2_partiesOf_l5) (am_th (i_il 3) (r_i))))))
def d_X2_partiesOf : am_D := am_den 5 f_X2_partiesOf
set_option maxHeartbeats 4000000 in
set_option maxRecDepth 100000 in
theorem b_X2_partiesOf : am_Body yX2_partiesOf cX2_partiesOf 5 (some .int) 0 0 f_X2_partiesOf := by
  intro p l e R s m args below meth c g n0 z0 r0 u0 C hr hn
  have C : am_Cx p l e R s m args below meth c g RX2 cX2_partiesOf 5 n0 z0 (am_len u0) (am_wt u0) 0 0 := C
  have l5 : am_Snd (am_GM p l e R s m args below meth c g 5 n0 z0 r0 u0) (am_Rt r0 u0) 5 (f_X2_partiesOf_l5) := by
    unfold f_X2_partiesOf_l5
    exact (so_th (so_iload C dX2_partiesOf_5) (so_th (so_aload_n C dX2_partiesOf_7 rfl) (so_th (so_geti C fl_RX2_31 (by decide) dX2_partiesOf_8) (so_br (so_icmp_ge C dX2_partiesOf_11 (by decide)) (so_to) (so_th (so_aload_n C dX2_partiesOf_14 rfl) (so_th (so_getr C fl_RX2_15 dX2_partiesOf_15) (so_th (so_iload C dX2_partiesOf_18) (so_th (so_iald C dX2_partiesOf_20) (so_th (so_iload_n C dX2_partiesOf_21 rfl) (so_sq (so_br (so_icmp_ne C dX2_partiesOf_22 (by decide)) (so_to) (so_th (so_iload_n C dX2_partiesOf_25 rfl) (so_th (so_aload_n C dX2_partiesOf_26 rfl) (so_th (so_getr C fl_RX2_41 dX2_partiesOf_27) (so_th (so_iload C dX2_partiesOf_30) (so_th (so_iald C dX2_partiesOf_32) (so_th (so_ior C dX2_partiesOf_33) (so_th (so_istore_n C dX2_partiesOf_34 rfl (by decide)) (so_to))))))))) (so_th (so_iinc C dX2_partiesOf_35 (by decide) (by decide)) (so_goto C dX2_partiesOf_38 (by decide) (so_to)))))))))))))
  unfold f_X2_partiesOf
  exact (so_th (so_iconst C dX2_partiesOf_0 (by decide)) (so_th (so_istore_n C dX2_partiesOf_1 rfl (by decide)) (so_th (so_iconst C dX2_partiesOf_2 (by decide)) (so_th (so_istore C dX2_partiesOf_3 (by decide)) (so_sq (so_lp l5 5000) (so_th (so_iload_n C dX2_partiesOf_41 rfl) (so_ri C hr dX2_partiesOf_42)))))))
theorem m_X2_partiesOf : am_M yX2_partiesOf cX2_partiesOf 5 (some .int) 0 0 d_X2_partiesOf := am_M_of (by decide +kernel) b_X2_partiesOf
theorem dX2_kindsOf_0 : decode cX2_kindsOf 0 = .ok (.iconst 0, 1) := by decide +kernel
theorem dX2_kindsOf_1 : decode cX2_kindsOf 1 = .ok (.istore_n 3, 1) := by decide +kernel
theorem dX2_kindsOf_2 : decode cX2_kindsOf 2 = .ok (.iconst 0, 1) := by decide +kernel
theorem dX2_kindsOf_3 : decode cX2_kindsOf 3 = .ok (.istore 4, 2) := by decide +kernel
theorem dX2_kindsOf_5 : decode cX2_kindsOf 5 = .ok (.iload 4, 2) := by decide +kernel
theorem dX2_kindsOf_7 : decode cX2_kindsOf 7 = .ok (.aload_n 1, 1) := by decide +kernel
theorem dX2_kindsOf_8 : decode cX2_kindsOf 8 = .ok (.getfield 31, 3) := by decide +kernel
theorem dX2_kindsOf_11 : decode cX2_kindsOf 11 = .ok (.if_icmp .ge 32, 3) := by decide +kernel
theorem dX2_kindsOf_14 : decode cX2_kindsOf 14 = .ok (.aload_n 0, 1) := by decide +kernel
theorem dX2_kindsOf_15 : decode cX2_kindsOf 15 = .ok (.getfield 15, 3) := by decide +kernel
theorem dX2_kindsOf_18 : decode cX2_kindsOf 18 = .ok (.iload 4, 2) := by decide +kernel
theorem dX2_kindsOf_20 : decode cX2_kindsOf 20 = .ok (.iaload, 1) := by decide +kernel
theorem dX2_kindsOf_21 : decode cX2_kindsOf 21 = .ok (.iload_n 2, 1) := by decide +kernel
theorem dX2_kindsOf_22 : decode cX2_kindsOf 22 = .ok (.if_icmp .ne 15, 3) := by decide +kernel
theorem dX2_kindsOf_25 : decode cX2_kindsOf 25 = .ok (.iload_n 3, 1) := by decide +kernel
theorem dX2_kindsOf_26 : decode cX2_kindsOf 26 = .ok (.iconst 1, 1) := by decide +kernel
theorem dX2_kindsOf_27 : decode cX2_kindsOf 27 = .ok (.aload_n 1, 1) := by decide +kernel
theorem dX2_kindsOf_28 : decode cX2_kindsOf 28 = .ok (.getfield 44, 3) := by decide +kernel
theorem dX2_kindsOf_31 : decode cX2_kindsOf 31 = .ok (.iload 4, 2) := by decide +kernel
theorem dX2_kindsOf_33 : decode cX2_kindsOf 33 = .ok (.iaload, 1) := by decide +kernel
theorem dX2_kindsOf_34 : decode cX2_kindsOf 34 = .ok (.ishl, 1) := by decide +kernel
theorem dX2_kindsOf_35 : decode cX2_kindsOf 35 = .ok (.ior, 1) := by decide +kernel
theorem dX2_kindsOf_36 : decode cX2_kindsOf 36 = .ok (.istore_n 3, 1) := by decide +kernel
theorem dX2_kindsOf_37 : decode cX2_kindsOf 37 = .ok (.iinc 4 1, 3) := by decide +kernel
theorem dX2_kindsOf_40 : decode cX2_kindsOf 40 = .ok (.goto (-35), 3) := by decide +kernel
theorem dX2_kindsOf_43 : decode cX2_kindsOf 43 = .ok (.iload_n 3, 1) := by decide +kernel
theorem dX2_kindsOf_44 : decode cX2_kindsOf 44 = .ok (.ireturn, 1) := by decide +kernel
def f_X2_kindsOf_l5 : am_F := am_th (i_il 4) (am_th (i_al 1) (am_th (i_gi 5 3) (am_br (b_2 (fun x y => decide (y ≤ x))) (am_to 43) (am_th (i_al 0) (am_th (i_gr 2 3) (am_th (i_il 4) (am_th (i_ia 0) (am_th (i_il 2) (am_sq 37 (am_br (b_2 (fun x y => decide (¬ x = y))) (am_to 37) (am_th (i_il 3) (am_th (i_ic (1)) (am_th (i_al 1) (am_th (i_gr 5 10) (am_th (i_il 4) (am_th (i_ia 0) (am_th (i_2 (fun x y => x <<< (y &&& 31))) (am_th (i_2 (fun x y => x ||| y)) (am_th (i_is 3) (am_to 37))))))))))) (am_th (i_inc 4 (1)) (am_to 5)))))))))))
def f_X2_kindsOf : am_F := am_th (i_ic (0)) (am_th (i_is 3) (am_th (i_ic (0)) (am_th (i_is 4) (am_sq 43 (am_lp 5000 5 f_X2_kindsOf_l5) (am_th (i_il 3) (r_i))))))
def d_X2_kindsOf : am_D := am_den 5 f_X2_kindsOf
set_option maxHeartbeats 4000000 in
set_option maxRecDepth 100000 in
theorem b_X2_kindsOf : am_Body yX2_kindsOf cX2_kindsOf 5 (some .int) 0 0 f_X2_kindsOf := by
  intro p l e R s m args below meth c g n0 z0 r0 u0 C hr hn
  have C : am_Cx p l e R s m args below meth c g RX2 cX2_kindsOf 5 n0 z0 (am_len u0) (am_wt u0) 0 0 := C
  have l5 : am_Snd (am_GM p l e R s m args below meth c g 5 n0 z0 r0 u0) (am_Rt r0 u0) 5 (f_X2_kindsOf_l5) := by
    unfold f_X2_kindsOf_l5
    exact (so_th (so_iload C dX2_kindsOf_5) (so_th (so_aload_n C dX2_kindsOf_7 rfl) (so_th (so_geti C fl_RX2_31 (by decide) dX2_kindsOf_8) (so_br (so_icmp_ge C dX2_kindsOf_11 (by decide)) (so_to) (so_th (so_aload_n C dX2_kindsOf_14 rfl) (so_th (so_getr C fl_RX2_15 dX2_kindsOf_15) (so_th (so_iload C dX2_kindsOf_18) (so_th (so_iald C dX2_kindsOf_20) (so_th (so_iload_n C dX2_kindsOf_21 rfl) (so_sq (so_br (so_icmp_ne C dX2_kindsOf_22 (by decide)) (so_to) (so_th (so_iload_n C dX2_kindsOf_25 rfl) (so_th (so_iconst C dX2_kindsOf_26 (by decide)) (so_th (so_aload_n C dX2_kindsOf_27 rfl) (so_th (so_getr C fl_RX2_44 dX2_kindsOf_28) (so_th (so_iload C dX2_kindsOf_31) (so_th (so_iald C dX2_kindsOf_33) (so_th (so_ishl C dX2_kindsOf_34) (so_th (so_ior C dX2_kindsOf_35) (so_th (so_istore_n C dX2_kindsOf_36 rfl (by decide)) (so_to))))))))))) (so_th (so_iinc C dX2_kindsOf_37 (by decide) (by decide)) (so_goto C dX2_kindsOf_40 (by decide) (so_to)))))))))))))
  unfold f_X2_kindsOf
  exact (so_th (so_iconst C dX2_kindsOf_0 (by decide)) (so_th (so_istore_n C dX2_kindsOf_1 rfl (by decide)) (so_th (so_iconst C dX2_kindsOf_2 (by decide)) (so_th (so_istore C dX2_kindsOf_3 (by decide)) (so_sq (so_lp l5 5000) (so_th (so_iload_n C dX2_kindsOf_43 rfl) (so_ri C hr dX2_kindsOf_44)))))))
theorem m_X2_kindsOf : am_M yX2_kindsOf cX2_kindsOf 5 (some .int) 0 0 d_X2_kindsOf := am_M_of (by decide +kernel) b_X2_kindsOf
theorem dX5_greatestOdds_0 : decode cX5_greatestOdds 0 = .ok (.iconst 0, 1) := by decide +kernel
theorem dX5_greatestOdds_1 : decode cX5_greatestOdds 1 = .ok (.istore_n 3, 1) := by decide +kernel
theorem dX5_greatestOdds_2 : decode cX5_greatestOdds 2 = .ok (.iconst 0, 1) := by decide +kernel
theorem dX5_greatestOdds_3 : decode cX5_greatestOdds 3 = .ok (.istore 4, 2) := by decide +kernel
theorem dX5_greatestOdds_5 : decode cX5_greatestOdds 5 = .ok (.iload 4, 2) := by decide +kernel
theorem dX5_greatestOdds_7 : decode cX5_greatestOdds 7 = .ok (.bipush 16, 2) := by decide +kernel
theorem dX5_greatestOdds_9 : decode cX5_greatestOdds 9 = .ok (.if_icmp .ge 50, 3) := by decide +kernel
theorem dX5_greatestOdds_12 : decode cX5_greatestOdds 12 = .ok (.aload_n 0, 1) := by decide +kernel
theorem dX5_greatestOdds_13 : decode cX5_greatestOdds 13 = .ok (.getfield 27, 3) := by decide +kernel
theorem dX5_greatestOdds_16 : decode cX5_greatestOdds 16 = .ok (.iload 4, 2) := by decide +kernel
theorem dX5_greatestOdds_18 : decode cX5_greatestOdds 18 = .ok (.iaload, 1) := by decide +kernel
theorem dX5_greatestOdds_19 : decode cX5_greatestOdds 19 = .ok (.iload_n 3, 1) := by decide +kernel
theorem dX5_greatestOdds_20 : decode cX5_greatestOdds 20 = .ok (.if_icmp .le 33, 3) := by decide +kernel
theorem dX5_greatestOdds_23 : decode cX5_greatestOdds 23 = .ok (.iload_n 1, 1) := by decide +kernel
theorem dX5_greatestOdds_24 : decode cX5_greatestOdds 24 = .ok (.iload 4, 2) := by decide +kernel
theorem dX5_greatestOdds_26 : decode cX5_greatestOdds 26 = .ok (.iconst 4, 1) := by decide +kernel
theorem dX5_greatestOdds_27 : decode cX5_greatestOdds 27 = .ok (.idiv, 1) := by decide +kernel
theorem dX5_greatestOdds_28 : decode cX5_greatestOdds 28 = .ok (.invokestatic 64, 3) := by decide +kernel
theorem dX5_greatestOdds_31 : decode cX5_greatestOdds 31 = .ok (.ifCond .eq 22, 3) := by decide +kernel
theorem dX5_greatestOdds_34 : decode cX5_greatestOdds 34 = .ok (.iload_n 2, 1) := by decide +kernel
theorem dX5_greatestOdds_35 : decode cX5_greatestOdds 35 = .ok (.iload 4, 2) := by decide +kernel
theorem dX5_greatestOdds_37 : decode cX5_greatestOdds 37 = .ok (.iconst 4, 1) := by decide +kernel
theorem dX5_greatestOdds_38 : decode cX5_greatestOdds 38 = .ok (.irem, 1) := by decide +kernel
theorem dX5_greatestOdds_39 : decode cX5_greatestOdds 39 = .ok (.invokestatic 64, 3) := by decide +kernel
theorem dX5_greatestOdds_42 : decode cX5_greatestOdds 42 = .ok (.ifCond .eq 11, 3) := by decide +kernel
theorem dX5_greatestOdds_45 : decode cX5_greatestOdds 45 = .ok (.aload_n 0, 1) := by decide +kernel
theorem dX5_greatestOdds_46 : decode cX5_greatestOdds 46 = .ok (.getfield 27, 3) := by decide +kernel
theorem dX5_greatestOdds_49 : decode cX5_greatestOdds 49 = .ok (.iload 4, 2) := by decide +kernel
theorem dX5_greatestOdds_51 : decode cX5_greatestOdds 51 = .ok (.iaload, 1) := by decide +kernel
theorem dX5_greatestOdds_52 : decode cX5_greatestOdds 52 = .ok (.istore_n 3, 1) := by decide +kernel
theorem dX5_greatestOdds_53 : decode cX5_greatestOdds 53 = .ok (.iinc 4 1, 3) := by decide +kernel
theorem dX5_greatestOdds_56 : decode cX5_greatestOdds 56 = .ok (.goto (-51), 3) := by decide +kernel
theorem dX5_greatestOdds_59 : decode cX5_greatestOdds 59 = .ok (.iload_n 3, 1) := by decide +kernel
theorem dX5_greatestOdds_60 : decode cX5_greatestOdds 60 = .ok (.ireturn, 1) := by decide +kernel
def f_X5_greatestOdds_l5 : am_F := am_th (i_il 4) (am_th (i_ic (16)) (am_br (b_2 (fun x y => decide (y ≤ x))) (am_to 59) (am_th (i_al 0) (am_th (i_gr 5 13) (am_th (i_il 4) (am_th (i_ia 0) (am_th (i_il 3) (am_sq 53 (am_br (b_2 (fun x y => decide (x ≤ y))) (am_to 53) (am_th (i_il 1) (am_th (i_il 4) (am_th (i_ic (4)) (am_th (i_2n (fun x y => x / y)) (am_th (i_cs 2 d_X6_has) (am_br (b_1 (fun x => decide (x = 0))) (am_to 53) (am_th (i_il 2) (am_th (i_il 4) (am_th (i_ic (4)) (am_th (i_2n (fun x y => x - x / y * y)) (am_th (i_cs 2 d_X6_has) (am_br (b_1 (fun x => decide (x = 0))) (am_to 53) (am_th (i_al 0) (am_th (i_gr 5 13) (am_th (i_il 4) (am_th (i_ia 0) (am_th (i_is 3) (am_to 53))))))))))))))))))) (am_th (i_inc 4 (1)) (am_to 5))))))))))
def f_X5_greatestOdds : am_F := am_th (i_ic (0)) (am_th (i_is 3) (am_th (i_ic (0)) (am_th (i_is 4) (am_sq 59 (am_lp 5000 5 f_X5_greatestOdds_l5) (am_th (i_il 3) (r_i))))))
def d_X5_greatestOdds : am_D := am_den 5 f_X5_greatestOdds
set_option maxHeartbeats 4000000 in
set_option maxRecDepth 100000 in
theorem b_X5_greatestOdds : am_Body yX5_greatestOdds cX5_greatestOdds 5 (some .int) 1 21 f_X5_greatestOdds := by
  intro p l e R s m args below meth c g n0 z0 r0 u0 C hr hn
  have C : am_Cx p l e R s m args below meth c g RX5 cX5_greatestOdds 5 n0 z0 (am_len u0) (am_wt u0) 1 21 := C
  have l5 : am_Snd (am_GM p l e R s m args below meth c g 5 n0 z0 r0 u0) (am_Rt r0 u0) 5 (f_X5_greatestOdds_l5) := by
    unfold f_X5_greatestOdds_l5
    exact (so_th (so_iload C dX5_greatestOdds_5) (so_th (so_bipush C dX5_greatestOdds_7 (by decide)) (so_br (so_icmp_ge C dX5_greatestOdds_9 (by decide)) (so_to) (so_th (so_aload_n C dX5_greatestOdds_12 rfl) (so_th (so_getr C fl_RX5_27 dX5_greatestOdds_13) (so_th (so_iload C dX5_greatestOdds_16) (so_th (so_iald C dX5_greatestOdds_18) (so_th (so_iload_n C dX5_greatestOdds_19 rfl) (so_sq (so_br (so_icmp_le C dX5_greatestOdds_20 (by decide)) (so_to) (so_th (so_iload_n C dX5_greatestOdds_23 rfl) (so_th (so_iload C dX5_greatestOdds_24) (so_th (so_iconst C dX5_greatestOdds_26 (by decide)) (so_th (so_idiv C dX5_greatestOdds_27) (so_th (so_csN C m_X6_has k_4 (List.mem_of_getElem? (i := 7) rfl) k_6 k_5 ⟨by decide, by decide, by decide +kernel⟩ (by decide) dX5_greatestOdds_28) (so_br (so_if_eq C dX5_greatestOdds_31 (by decide)) (so_to) (so_th (so_iload_n C dX5_greatestOdds_34 rfl) (so_th (so_iload C dX5_greatestOdds_35) (so_th (so_iconst C dX5_greatestOdds_37 (by decide)) (so_th (so_irem C dX5_greatestOdds_38) (so_th (so_csN C m_X6_has k_4 (List.mem_of_getElem? (i := 7) rfl) k_6 k_5 ⟨by decide, by decide, by decide +kernel⟩ (by decide) dX5_greatestOdds_39) (so_br (so_if_eq C dX5_greatestOdds_42 (by decide)) (so_to) (so_th (so_aload_n C dX5_greatestOdds_45 rfl) (so_th (so_getr C fl_RX5_27 dX5_greatestOdds_46) (so_th (so_iload C dX5_greatestOdds_49) (so_th (so_iald C dX5_greatestOdds_51) (so_th (so_istore_n C dX5_greatestOdds_52 rfl (by decide)) (so_to))))))))))))))))))) (so_th (so_iinc C dX5_greatestOdds_53 (by decide) (by decide)) (so_goto C dX5_greatestOdds_56 (by decide) (so_to))))))))))))
  unfold f_X5_greatestOdds
  exact (so_th (so_iconst C dX5_greatestOdds_0 (by decide)) (so_th (so_istore_n C dX5_greatestOdds_1 rfl (by decide)) (so_th (so_iconst C dX5_greatestOdds_2 (by decide)) (so_th (so_istore C dX5_greatestOdds_3 (by decide)) (so_sq (so_lp l5 5000) (so_th (so_iload_n C dX5_greatestOdds_59 rfl) (so_ri C hr dX5_greatestOdds_60)))))))
theorem m_X5_greatestOdds : am_M yX5_greatestOdds cX5_greatestOdds 5 (some .int) 1 21 d_X5_greatestOdds := am_M_of (by decide +kernel) b_X5_greatestOdds
theorem dX2_oddsOf_0 : decode cX2_oddsOf 0 = .ok (.aload_n 0, 1) := by decide +kernel
theorem dX2_oddsOf_1 : decode cX2_oddsOf 1 = .ok (.iload_n 2, 1) := by decide +kernel
theorem dX2_oddsOf_2 : decode cX2_oddsOf 2 = .ok (.invokevirtual 37, 3) := by decide +kernel
theorem dX2_oddsOf_5 : decode cX2_oddsOf 5 = .ok (.ifCond .eq 43, 3) := by decide +kernel
theorem dX2_oddsOf_8 : decode cX2_oddsOf 8 = .ok (.aload_n 0, 1) := by decide +kernel
theorem dX2_oddsOf_9 : decode cX2_oddsOf 9 = .ok (.iload_n 3, 1) := by decide +kernel
theorem dX2_oddsOf_10 : decode cX2_oddsOf 10 = .ok (.invokevirtual 37, 3) := by decide +kernel
theorem dX2_oddsOf_13 : decode cX2_oddsOf 13 = .ok (.ifCond .eq 35, 3) := by decide +kernel
theorem dX2_oddsOf_16 : decode cX2_oddsOf 16 = .ok (.aload_n 1, 1) := by decide +kernel
theorem dX2_oddsOf_17 : decode cX2_oddsOf 17 = .ok (.iload_n 2, 1) := by decide +kernel
theorem dX2_oddsOf_18 : decode cX2_oddsOf 18 = .ok (.invokevirtual 47, 3) := by decide +kernel
theorem dX2_oddsOf_21 : decode cX2_oddsOf 21 = .ok (.ifCond .ne 27, 3) := by decide +kernel
theorem dX2_oddsOf_24 : decode cX2_oddsOf 24 = .ok (.aload_n 1, 1) := by decide +kernel
theorem dX2_oddsOf_25 : decode cX2_oddsOf 25 = .ok (.iload_n 3, 1) := by decide +kernel
theorem dX2_oddsOf_26 : decode cX2_oddsOf 26 = .ok (.invokevirtual 47, 3) := by decide +kernel
theorem dX2_oddsOf_29 : decode cX2_oddsOf 29 = .ok (.ifCond .ne 19, 3) := by decide +kernel
theorem dX2_oddsOf_32 : decode cX2_oddsOf 32 = .ok (.aload_n 0, 1) := by decide +kernel
theorem dX2_oddsOf_33 : decode cX2_oddsOf 33 = .ok (.aload_n 1, 1) := by decide +kernel
theorem dX2_oddsOf_34 : decode cX2_oddsOf 34 = .ok (.iload_n 2, 1) := by decide +kernel
theorem dX2_oddsOf_35 : decode cX2_oddsOf 35 = .ok (.invokevirtual 50, 3) := by decide +kernel
theorem dX2_oddsOf_38 : decode cX2_oddsOf 38 = .ok (.aload_n 0, 1) := by decide +kernel
theorem dX2_oddsOf_39 : decode cX2_oddsOf 39 = .ok (.aload_n 1, 1) := by decide +kernel
theorem dX2_oddsOf_40 : decode cX2_oddsOf 40 = .ok (.iload_n 3, 1) := by decide +kernel
theorem dX2_oddsOf_41 : decode cX2_oddsOf 41 = .ok (.invokevirtual 50, 3) := by decide +kernel
theorem dX2_oddsOf_44 : decode cX2_oddsOf 44 = .ok (.iand, 1) := by decide +kernel
theorem dX2_oddsOf_45 : decode cX2_oddsOf 45 = .ok (.ifCond .eq 5, 3) := by decide +kernel
theorem dX2_oddsOf_48 : decode cX2_oddsOf 48 = .ok (.iconst 0, 1) := by decide +kernel
theorem dX2_oddsOf_49 : decode cX2_oddsOf 49 = .ok (.ireturn, 1) := by decide +kernel
theorem dX2_oddsOf_50 : decode cX2_oddsOf 50 = .ok (.aload_n 1, 1) := by decide +kernel
theorem dX2_oddsOf_51 : decode cX2_oddsOf 51 = .ok (.aload_n 0, 1) := by decide +kernel
theorem dX2_oddsOf_52 : decode cX2_oddsOf 52 = .ok (.aload_n 1, 1) := by decide +kernel
theorem dX2_oddsOf_53 : decode cX2_oddsOf 53 = .ok (.iload_n 2, 1) := by decide +kernel
theorem dX2_oddsOf_54 : decode cX2_oddsOf 54 = .ok (.invokevirtual 54, 3) := by decide +kernel
theorem dX2_oddsOf_57 : decode cX2_oddsOf 57 = .ok (.aload_n 0, 1) := by decide +kernel
theorem dX2_oddsOf_58 : decode cX2_oddsOf 58 = .ok (.aload_n 1, 1) := by decide +kernel
theorem dX2_oddsOf_59 : decode cX2_oddsOf 59 = .ok (.iload_n 3, 1) := by decide +kernel
theorem dX2_oddsOf_60 : decode cX2_oddsOf 60 = .ok (.invokevirtual 54, 3) := by decide +kernel
theorem dX2_oddsOf_63 : decode cX2_oddsOf 63 = .ok (.invokevirtual 57, 3) := by decide +kernel
theorem dX2_oddsOf_66 : decode cX2_oddsOf 66 = .ok (.ireturn, 1) := by decide +kernel
def f_X2_oddsOf : am_F := am_th (i_al 0) (am_th (i_il 2) (am_th (i_cv 2 1 d_X2_stands) (am_br (b_1 (fun x => decide (x = 0))) (am_th (i_ic (0)) (r_i)) (am_th (i_al 0) (am_th (i_il 3) (am_th (i_cv 2 1 d_X2_stands) (am_br (b_1 (fun x => decide (x = 0))) (am_th (i_ic (0)) (r_i)) (am_th (i_al 1) (am_th (i_il 2) (am_th (i_cv 5 1 d_X5_isPotted) (am_br (b_1 (fun x => decide (¬ x = 0))) (am_th (i_ic (0)) (r_i)) (am_th (i_al 1) (am_th (i_il 3) (am_th (i_cv 5 1 d_X5_isPotted) (am_br (b_1 (fun x => decide (¬ x = 0))) (am_th (i_ic (0)) (r_i)) (am_th (i_al 0) (am_th (i_al 1) (am_th (i_il 2) (am_th (i_cv 2 2 d_X2_partiesOf) (am_th (i_al 0) (am_th (i_al 1) (am_th (i_il 3) (am_th (i_cv 2 2 d_X2_partiesOf) (am_th (i_2 (fun x y => x &&& y)) (am_br (b_1 (fun x => decide (x = 0))) (am_th (i_al 1) (am_th (i_al 0) (am_th (i_al 1) (am_th (i_il 2) (am_th (i_cv 2 2 d_X2_kindsOf) (am_th (i_al 0) (am_th (i_al 1) (am_th (i_il 3) (am_th (i_cv 2 2 d_X2_kindsOf) (am_th (i_cv 5 2 d_X5_greatestOdds) (r_i))))))))))) (am_th (i_ic (0)) (r_i)))))))))))))))))))))))))))
def d_X2_oddsOf : am_D := am_den 4 f_X2_oddsOf
set_option maxHeartbeats 4000000 in
set_option maxRecDepth 100000 in
theorem b_X2_oddsOf : am_Body yX2_oddsOf cX2_oddsOf 4 (some .int) 2 45 f_X2_oddsOf := by
  intro p l e R s m args below meth c g n0 z0 r0 u0 C hr hn
  have C : am_Cx p l e R s m args below meth c g RX2 cX2_oddsOf 4 n0 z0 (am_len u0) (am_wt u0) 2 45 := C
  unfold f_X2_oddsOf
  exact (so_th (so_aload_n C dX2_oddsOf_0 rfl) (so_th (so_iload_n C dX2_oddsOf_1 rfl) (so_th (so_cv C m_X2_stands rfl k_43 k_45 k_44 k_46 k_40 ⟨by decide, by decide, by decide +kernel⟩ (by decide) dX2_oddsOf_2) (so_br (so_if_eq C dX2_oddsOf_5 (by decide)) (so_th (so_iconst C dX2_oddsOf_48 (by decide)) (so_ri C hr dX2_oddsOf_49)) (so_th (so_aload_n C dX2_oddsOf_8 rfl) (so_th (so_iload_n C dX2_oddsOf_9 rfl) (so_th (so_cv C m_X2_stands rfl k_43 k_45 k_44 k_46 k_40 ⟨by decide, by decide, by decide +kernel⟩ (by decide) dX2_oddsOf_10) (so_br (so_if_eq C dX2_oddsOf_13 (by decide)) (so_th (so_iconst C dX2_oddsOf_48 (by decide)) (so_ri C hr dX2_oddsOf_49)) (so_th (so_aload_n C dX2_oddsOf_16 rfl) (so_th (so_iload_n C dX2_oddsOf_17 rfl) (so_th (so_cv C m_X5_isPotted rfl k_7 k_47 k_9 k_11 k_8 ⟨by decide, by decide, by decide +kernel⟩ (by decide) dX2_oddsOf_18) (so_br (so_if_ne C dX2_oddsOf_21 (by decide)) (so_th (so_iconst C dX2_oddsOf_48 (by decide)) (so_ri C hr dX2_oddsOf_49)) (so_th (so_aload_n C dX2_oddsOf_24 rfl) (so_th (so_iload_n C dX2_oddsOf_25 rfl) (so_th (so_cv C m_X5_isPotted rfl k_7 k_47 k_9 k_11 k_8 ⟨by decide, by decide, by decide +kernel⟩ (by decide) dX2_oddsOf_26) (so_br (so_if_ne C dX2_oddsOf_29 (by decide)) (so_th (so_iconst C dX2_oddsOf_48 (by decide)) (so_ri C hr dX2_oddsOf_49)) (so_th (so_aload_n C dX2_oddsOf_32 rfl) (so_th (so_aload_n C dX2_oddsOf_33 rfl) (so_th (so_iload_n C dX2_oddsOf_34 rfl) (so_th (so_cv C m_X2_partiesOf rfl k_67 k_69 k_68 k_70 k_40 ⟨by decide, by decide, by decide +kernel⟩ (by decide) dX2_oddsOf_35) (so_th (so_aload_n C dX2_oddsOf_38 rfl) (so_th (so_aload_n C dX2_oddsOf_39 rfl) (so_th (so_iload_n C dX2_oddsOf_40 rfl) (so_th (so_cv C m_X2_partiesOf rfl k_67 k_69 k_68 k_70 k_40 ⟨by decide, by decide, by decide +kernel⟩ (by decide) dX2_oddsOf_41) (so_th (so_iand C dX2_oddsOf_44) (so_br (so_if_eq C dX2_oddsOf_45 (by decide)) (so_th (so_aload_n C dX2_oddsOf_50 rfl) (so_th (so_aload_n C dX2_oddsOf_51 rfl) (so_th (so_aload_n C dX2_oddsOf_52 rfl) (so_th (so_iload_n C dX2_oddsOf_53 rfl) (so_th (so_cv C m_X2_kindsOf rfl k_71 k_73 k_72 k_74 k_40 ⟨by decide, by decide, by decide +kernel⟩ (by decide) dX2_oddsOf_54) (so_th (so_aload_n C dX2_oddsOf_57 rfl) (so_th (so_aload_n C dX2_oddsOf_58 rfl) (so_th (so_iload_n C dX2_oddsOf_59 rfl) (so_th (so_cv C m_X2_kindsOf rfl k_71 k_73 k_72 k_74 k_40 ⟨by decide, by decide, by decide +kernel⟩ (by decide) dX2_oddsOf_60) (so_th (so_cv C m_X5_greatestOdds rfl k_75 k_77 k_76 k_78 k_8 ⟨by decide, by decide, by decide +kernel⟩ (by decide) dX2_oddsOf_63) (so_ri C hr dX2_oddsOf_66))))))))))) (so_th (so_iconst C dX2_oddsOf_48 (by decide)) (so_ri C hr dX2_oddsOf_49))))))))))))))))))))))))))))
theorem m_X2_oddsOf : am_M yX2_oddsOf cX2_oddsOf 4 (some .int) 2 45 d_X2_oddsOf := am_M_of (by decide +kernel) b_X2_oddsOf
