theorem dX6_fruits_0 : decode cX6_fruits 0 = .ok (.aload_n 0, 1) := by decide +kernel
theorem dX6_fruits_1 : decode cX6_fruits 1 = .ok (.iload_n 1, 1) := by decide +kernel
theorem dX6_fruits_2 : decode cX6_fruits 2 = .ok (.invokevirtual 116, 3) := by decide +kernel
theorem dX6_fruits_5 : decode cX6_fruits 5 = .ok (.ifCond .ne 9, 3) := by decide +kernel
theorem dX6_fruits_8 : decode cX6_fruits 8 = .ok (.aload_n 0, 1) := by decide +kernel
theorem dX6_fruits_9 : decode cX6_fruits 9 = .ok (.iconst 1, 1) := by decide +kernel
theorem dX6_fruits_10 : decode cX6_fruits 10 = .ok (.invokevirtual 92, 3) := by decide +kernel
theorem dX6_fruits_13 : decode cX6_fruits 13 = .ok (.ireturn, 1) := by decide +kernel
theorem dX6_fruits_14 : decode cX6_fruits 14 = .ok (.iload_n 2, 1) := by decide +kernel
theorem dX6_fruits_15 : decode cX6_fruits 15 = .ok (.invokestatic 142, 3) := by decide +kernel
theorem dX6_fruits_18 : decode cX6_fruits 18 = .ok (.ifCond .ne 9, 3) := by decide +kernel
theorem dX6_fruits_21 : decode cX6_fruits 21 = .ok (.aload_n 0, 1) := by decide +kernel
theorem dX6_fruits_22 : decode cX6_fruits 22 = .ok (.iconst 2, 1) := by decide +kernel
theorem dX6_fruits_23 : decode cX6_fruits 23 = .ok (.invokevirtual 92, 3) := by decide +kernel
theorem dX6_fruits_26 : decode cX6_fruits 26 = .ok (.ireturn, 1) := by decide +kernel
theorem dX6_fruits_27 : decode cX6_fruits 27 = .ok (.aload_n 0, 1) := by decide +kernel
theorem dX6_fruits_28 : decode cX6_fruits 28 = .ok (.iload_n 2, 1) := by decide +kernel
theorem dX6_fruits_29 : decode cX6_fruits 29 = .ok (.invokevirtual 145, 3) := by decide +kernel
theorem dX6_fruits_32 : decode cX6_fruits 32 = .ok (.aload_n 0, 1) := by decide +kernel
theorem dX6_fruits_33 : decode cX6_fruits 33 = .ok (.aload_n 0, 1) := by decide +kernel
theorem dX6_fruits_34 : decode cX6_fruits 34 = .ok (.getfield 45, 3) := by decide +kernel
theorem dX6_fruits_37 : decode cX6_fruits 37 = .ok (.getfield 151, 3) := by decide +kernel
theorem dX6_fruits_40 : decode cX6_fruits 40 = .ok (.iload_n 1, 1) := by decide +kernel
theorem dX6_fruits_41 : decode cX6_fruits 41 = .ok (.iaload, 1) := by decide +kernel
theorem dX6_fruits_42 : decode cX6_fruits 42 = .ok (.aload_n 0, 1) := by decide +kernel
theorem dX6_fruits_43 : decode cX6_fruits 43 = .ok (.getfield 41, 3) := by decide +kernel
theorem dX6_fruits_46 : decode cX6_fruits 46 = .ok (.getfield 151, 3) := by decide +kernel
theorem dX6_fruits_49 : decode cX6_fruits 49 = .ok (.iload_n 1, 1) := by decide +kernel
theorem dX6_fruits_50 : decode cX6_fruits 50 = .ok (.iaload, 1) := by decide +kernel
theorem dX6_fruits_51 : decode cX6_fruits 51 = .ok (.isub, 1) := by decide +kernel
theorem dX6_fruits_52 : decode cX6_fruits 52 = .ok (.invokevirtual 107, 3) := by decide +kernel
theorem dX6_fruits_55 : decode cX6_fruits 55 = .ok (.ireturn, 1) := by decide +kernel
def f_X6_fruits : am_F := am_th (i_al 0) (am_th (i_il 1) (am_th (i_cv 6 1 d_X6_isQuarrel) (am_br (b_1 (fun x => decide (¬ x = 0))) (am_th (i_il 2) (am_th (i_cs 1 d_X6_isSpan) (am_br (b_1 (fun x => decide (¬ x = 0))) (am_th (i_al 0) (am_th (i_il 2) (am_th (i_cv 6 1 d_X6_tryFromNow) (am_th (i_al 0) (am_th (i_al 0) (am_th (i_gr 6 7) (am_th (i_gr 2 4) (am_th (i_il 1) (am_th (i_ia 0) (am_th (i_al 0) (am_th (i_gr 6 6) (am_th (i_gr 2 4) (am_th (i_il 1) (am_th (i_ia 0) (am_th (i_2 (fun x y => x - y)) (am_th (i_cv 6 1 d_X6_answer) (r_i))))))))))))))))) (am_th (i_al 0) (am_th (i_ic (2)) (am_th (i_cv 6 1 d_X6_refuse) (r_i))))))) (am_th (i_al 0) (am_th (i_ic (1)) (am_th (i_cv 6 1 d_X6_refuse) (r_i)))))))
def d_X6_fruits : am_D := am_den 3 f_X6_fruits
set_option maxHeartbeats 4000000 in
set_option maxRecDepth 100000 in
theorem b_X6_fruits : am_Body yX6_fruits cX6_fruits 3 (some .int) 6 131 f_X6_fruits := by
  intro p l e R s m args below meth c g n0 z0 r0 u0 C hr hn
  have C : am_Cx p l e R s m args below meth c g RX6 cX6_fruits 3 n0 z0 (am_len u0) (am_wt u0) 6 131 := C
  unfold f_X6_fruits
  exact (so_th (so_aload_n C dX6_fruits_0 rfl) (so_th (so_iload_n C dX6_fruits_1 rfl) (so_th (so_cv C m_X6_isQuarrel rfl k_317 k_319 k_318 k_320 k_5 ⟨by decide, by decide, by decide +kernel⟩ (by decide) dX6_fruits_2) (so_br (so_if_ne C dX6_fruits_5 (by decide)) (so_th (so_iload_n C dX6_fruits_14 rfl) (so_th (so_cs C m_X6_isSpan k_338 k_340 k_339 k_5 ⟨by decide, by decide, by decide +kernel⟩ (by decide) dX6_fruits_15) (so_br (so_if_ne C dX6_fruits_18 (by decide)) (so_th (so_aload_n C dX6_fruits_27 rfl) (so_th (so_iload_n C dX6_fruits_28 rfl) (so_th (so_cv C m_X6_tryFromNow rfl k_341 k_343 k_342 k_344 k_5 ⟨by decide, by decide, by decide +kernel⟩ (by decide) dX6_fruits_29) (so_th (so_aload_n C dX6_fruits_32 rfl) (so_th (so_aload_n C dX6_fruits_33 rfl) (so_th (so_getr C fl_RX6_45 dX6_fruits_34) (so_th (so_getr C fl_RX6_151 dX6_fruits_37) (so_th (so_iload_n C dX6_fruits_40 rfl) (so_th (so_iald C dX6_fruits_41) (so_th (so_aload_n C dX6_fruits_42 rfl) (so_th (so_getr C fl_RX6_41 dX6_fruits_43) (so_th (so_getr C fl_RX6_151 dX6_fruits_46) (so_th (so_iload_n C dX6_fruits_49 rfl) (so_th (so_iald C dX6_fruits_50) (so_th (so_isub C dX6_fruits_51) (so_th (so_cv C m_X6_answer rfl k_306 k_308 k_307 k_309 k_5 ⟨by decide, by decide, by decide +kernel⟩ (by decide) dX6_fruits_52) (so_ri C hr dX6_fruits_55))))))))))))))))) (so_th (so_aload_n C dX6_fruits_21 rfl) (so_th (so_iconst C dX6_fruits_22 (by decide)) (so_th (so_cv C m_X6_refuse rfl k_297 k_299 k_298 k_300 k_5 ⟨by decide, by decide, by decide +kernel⟩ (by decide) dX6_fruits_23) (so_ri C hr dX6_fruits_26))))))) (so_th (so_aload_n C dX6_fruits_8 rfl) (so_th (so_iconst C dX6_fruits_9 (by decide)) (so_th (so_cv C m_X6_refuse rfl k_297 k_299 k_298 k_300 k_5 ⟨by decide, by decide, by decide +kernel⟩ (by decide) dX6_fruits_10) (so_ri C hr dX6_fruits_13))))))))
theorem m_X6_fruits : am_M yX6_fruits cX6_fruits 3 (some .int) 6 131 d_X6_fruits := am_M_of (by decide +kernel) b_X6_fruits
theorem dX6_first_0 : decode cX6_first 0 = .ok (.aload_n 0, 1) := by decide +kernel
theorem dX6_first_1 : decode cX6_first 1 = .ok (.iload_n 1, 1) := by decide +kernel
theorem dX6_first_2 : decode cX6_first 2 = .ok (.invokevirtual 116, 3) := by decide +kernel
theorem dX6_first_5 : decode cX6_first 5 = .ok (.ifCond .ne 9, 3) := by decide +kernel
theorem dX6_first_8 : decode cX6_first 8 = .ok (.aload_n 0, 1) := by decide +kernel
theorem dX6_first_9 : decode cX6_first 9 = .ok (.iconst 1, 1) := by decide +kernel
theorem dX6_first_10 : decode cX6_first 10 = .ok (.invokevirtual 92, 3) := by decide +kernel
theorem dX6_first_13 : decode cX6_first 13 = .ok (.ireturn, 1) := by decide +kernel
theorem dX6_first_14 : decode cX6_first 14 = .ok (.aload_n 0, 1) := by decide +kernel
theorem dX6_first_15 : decode cX6_first 15 = .ok (.getfield 45, 3) := by decide +kernel
theorem dX6_first_18 : decode cX6_first 18 = .ok (.aload_n 0, 1) := by decide +kernel
theorem dX6_first_19 : decode cX6_first 19 = .ok (.getfield 41, 3) := by decide +kernel
theorem dX6_first_22 : decode cX6_first 22 = .ok (.invokevirtual 155, 3) := by decide +kernel
theorem dX6_first_25 : decode cX6_first 25 = .ok (.iconst 1, 1) := by decide +kernel
theorem dX6_first_26 : decode cX6_first 26 = .ok (.istore_n 2, 1) := by decide +kernel
theorem dX6_first_27 : decode cX6_first 27 = .ok (.iload_n 2, 1) := by decide +kernel
theorem dX6_first_28 : decode cX6_first 28 = .ok (.bipush 24, 2) := by decide +kernel
theorem dX6_first_30 : decode cX6_first 30 = .ok (.if_icmp .gt 33, 3) := by decide +kernel
theorem dX6_first_33 : decode cX6_first 33 = .ok (.aload_n 0, 1) := by decide +kernel
theorem dX6_first_34 : decode cX6_first 34 = .ok (.getfield 45, 3) := by decide +kernel
theorem dX6_first_37 : decode cX6_first 37 = .ok (.aload_n 0, 1) := by decide +kernel
theorem dX6_first_38 : decode cX6_first 38 = .ok (.getfield 27, 3) := by decide +kernel
theorem dX6_first_41 : decode cX6_first 41 = .ok (.invokevirtual 159, 3) := by decide +kernel
theorem dX6_first_44 : decode cX6_first 44 = .ok (.iload_n 1, 1) := by decide +kernel
theorem dX6_first_45 : decode cX6_first 45 = .ok (.invokestatic 131, 3) := by decide +kernel
theorem dX6_first_48 : decode cX6_first 48 = .ok (.ifCond .eq 9, 3) := by decide +kernel
theorem dX6_first_51 : decode cX6_first 51 = .ok (.aload_n 0, 1) := by decide +kernel
theorem dX6_first_52 : decode cX6_first 52 = .ok (.iload_n 2, 1) := by decide +kernel
theorem dX6_first_53 : decode cX6_first 53 = .ok (.invokevirtual 107, 3) := by decide +kernel
theorem dX6_first_56 : decode cX6_first 56 = .ok (.ireturn, 1) := by decide +kernel
theorem dX6_first_57 : decode cX6_first 57 = .ok (.iinc 2 1, 3) := by decide +kernel
theorem dX6_first_60 : decode cX6_first 60 = .ok (.goto (-33), 3) := by decide +kernel
theorem dX6_first_63 : decode cX6_first 63 = .ok (.aload_n 0, 1) := by decide +kernel
theorem dX6_first_64 : decode cX6_first 64 = .ok (.bipush (-2), 2) := by decide +kernel
theorem dX6_first_66 : decode cX6_first 66 = .ok (.invokevirtual 107, 3) := by decide +kernel
theorem dX6_first_69 : decode cX6_first 69 = .ok (.ireturn, 1) := by decide +kernel
def f_X6_first_l27 : am_F := am_th (i_il 2) (am_th (i_ic (24)) (am_br (b_2 (fun x y => decide (y < x))) (am_to 63) (am_th (i_al 0) (am_th (i_gr 6 7) (am_th (i_al 0) (am_th (i_gr 6 3) (am_th (i_cv 2 1 d_X2_passByDeeds) (am_th (i_il 1) (am_th (i_cs 2 d_X6_has) (am_br (b_1 (fun x => decide (x = 0))) (am_th (i_inc 2 (1)) (am_to 27)) (am_th (i_al 0) (am_th (i_il 2) (am_th (i_cv 6 1 d_X6_answer) (r_i))))))))))))))
def f_X6_first : am_F := am_th (i_al 0) (am_th (i_il 1) (am_th (i_cv 6 1 d_X6_isQuarrel) (am_br (b_1 (fun x => decide (¬ x = 0))) (am_th (i_al 0) (am_th (i_gr 6 7) (am_th (i_al 0) (am_th (i_gr 6 6) (am_th (i_cv 2 1 d_X2_become) (am_th (i_ic (1)) (am_th (i_is 2) (am_sq 63 (am_lp 5000 27 f_X6_first_l27) (am_th (i_al 0) (am_th (i_ic (-2)) (am_th (i_cv 6 1 d_X6_answer) (r_i)))))))))))) (am_th (i_al 0) (am_th (i_ic (1)) (am_th (i_cv 6 1 d_X6_refuse) (r_i)))))))
def d_X6_first : am_D := am_den 3 f_X6_first
set_option maxHeartbeats 4000000 in
set_option maxRecDepth 100000 in
theorem b_X6_first : am_Body yX6_first cX6_first 3 (some .int) 5 109 f_X6_first := by
  intro p l e R s m args below meth c g n0 z0 r0 u0 C hr hn
  have C : am_Cx p l e R s m args below meth c g RX6 cX6_first 3 n0 z0 (am_len u0) (am_wt u0) 5 109 := C
  have l27 : am_Snd (am_GM p l e R s m args below meth c g 3 n0 z0 r0 u0) (am_Rt r0 u0) 27 (f_X6_first_l27) := by
    unfold f_X6_first_l27
    exact (so_th (so_iload_n C dX6_first_27 rfl) (so_th (so_bipush C dX6_first_28 (by decide)) (so_br (so_icmp_gt C dX6_first_30 (by decide)) (so_to) (so_th (so_aload_n C dX6_first_33 rfl) (so_th (so_getr C fl_RX6_45 dX6_first_34) (so_th (so_aload_n C dX6_first_37 rfl) (so_th (so_getr C fl_RX6_27 dX6_first_38) (so_th (so_cv C m_X2_passByDeeds rfl k_63 k_337 k_64 k_66 k_40 ⟨by decide, by decide, by decide +kernel⟩ (by decide) dX6_first_41) (so_th (so_iload_n C dX6_first_44 rfl) (so_th (so_cs C m_X6_has k_4 k_330 k_6 k_5 ⟨by decide, by decide, by decide +kernel⟩ (by decide) dX6_first_45) (so_br (so_if_eq C dX6_first_48 (by decide)) (so_th (so_iinc C dX6_first_57 (by decide) (by decide)) (so_goto C dX6_first_60 (by decide) (so_to))) (so_th (so_aload_n C dX6_first_51 rfl) (so_th (so_iload_n C dX6_first_52 rfl) (so_th (so_cv C m_X6_answer rfl k_306 k_308 k_307 k_309 k_5 ⟨by decide, by decide, by decide +kernel⟩ (by decide) dX6_first_53) (so_ri C hr dX6_first_56)))))))))))))))
  unfold f_X6_first
  exact (so_th (so_aload_n C dX6_first_0 rfl) (so_th (so_iload_n C dX6_first_1 rfl) (so_th (so_cv C m_X6_isQuarrel rfl k_317 k_319 k_318 k_320 k_5 ⟨by decide, by decide, by decide +kernel⟩ (by decide) dX6_first_2) (so_br (so_if_ne C dX6_first_5 (by decide)) (so_th (so_aload_n C dX6_first_14 rfl) (so_th (so_getr C fl_RX6_45 dX6_first_15) (so_th (so_aload_n C dX6_first_18 rfl) (so_th (so_getr C fl_RX6_41 dX6_first_19) (so_th (so_cv C m_X2_become rfl k_83 k_336 k_84 k_86 k_40 ⟨by decide, by decide, by decide +kernel⟩ (by decide) dX6_first_22) (so_th (so_iconst C dX6_first_25 (by decide)) (so_th (so_istore_n C dX6_first_26 rfl (by decide)) (so_sq (so_lp l27 5000) (so_th (so_aload_n C dX6_first_63 rfl) (so_th (so_bipush C dX6_first_64 (by decide)) (so_th (so_cv C m_X6_answer rfl k_306 k_308 k_307 k_309 k_5 ⟨by decide, by decide, by decide +kernel⟩ (by decide) dX6_first_66) (so_ri C hr dX6_first_69)))))))))))) (so_th (so_aload_n C dX6_first_8 rfl) (so_th (so_iconst C dX6_first_9 (by decide)) (so_th (so_cv C m_X6_refuse rfl k_297 k_299 k_298 k_300 k_5 ⟨by decide, by decide, by decide +kernel⟩ (by decide) dX6_first_10) (so_ri C hr dX6_first_13))))))))
theorem m_X6_first : am_M yX6_first cX6_first 3 (some .int) 5 109 d_X6_first := am_M_of (by decide +kernel) b_X6_first
theorem dX6_fallenInTrial_0 : decode cX6_fallenInTrial 0 = .ok (.iconst 0, 1) := by decide +kernel
theorem dX6_fallenInTrial_1 : decode cX6_fallenInTrial 1 = .ok (.istore_n 2, 1) := by decide +kernel
theorem dX6_fallenInTrial_2 : decode cX6_fallenInTrial 2 = .ok (.iconst 0, 1) := by decide +kernel
theorem dX6_fallenInTrial_3 : decode cX6_fallenInTrial 3 = .ok (.istore_n 3, 1) := by decide +kernel
theorem dX6_fallenInTrial_4 : decode cX6_fallenInTrial 4 = .ok (.iload_n 3, 1) := by decide +kernel
theorem dX6_fallenInTrial_5 : decode cX6_fallenInTrial 5 = .ok (.iload_n 1, 1) := by decide +kernel
theorem dX6_fallenInTrial_6 : decode cX6_fallenInTrial 6 = .ok (.if_icmp .ge 26, 3) := by decide +kernel
theorem dX6_fallenInTrial_9 : decode cX6_fallenInTrial 9 = .ok (.iload_n 2, 1) := by decide +kernel
theorem dX6_fallenInTrial_10 : decode cX6_fallenInTrial 10 = .ok (.aload_n 0, 1) := by decide +kernel
theorem dX6_fallenInTrial_11 : decode cX6_fallenInTrial 11 = .ok (.getfield 45, 3) := by decide +kernel
theorem dX6_fallenInTrial_14 : decode cX6_fallenInTrial 14 = .ok (.aload_n 0, 1) := by decide +kernel
theorem dX6_fallenInTrial_15 : decode cX6_fallenInTrial 15 = .ok (.getfield 27, 3) := by decide +kernel
theorem dX6_fallenInTrial_18 : decode cX6_fallenInTrial 18 = .ok (.invokevirtual 159, 3) := by decide +kernel
theorem dX6_fallenInTrial_21 : decode cX6_fallenInTrial 21 = .ok (.invokestatic 281, 3) := by decide +kernel
theorem dX6_fallenInTrial_24 : decode cX6_fallenInTrial 24 = .ok (.iadd, 1) := by decide +kernel
theorem dX6_fallenInTrial_25 : decode cX6_fallenInTrial 25 = .ok (.istore_n 2, 1) := by decide +kernel
theorem dX6_fallenInTrial_26 : decode cX6_fallenInTrial 26 = .ok (.iinc 3 1, 3) := by decide +kernel
theorem dX6_fallenInTrial_29 : decode cX6_fallenInTrial 29 = .ok (.goto (-25), 3) := by decide +kernel
theorem dX6_fallenInTrial_32 : decode cX6_fallenInTrial 32 = .ok (.iload_n 2, 1) := by decide +kernel
theorem dX6_fallenInTrial_33 : decode cX6_fallenInTrial 33 = .ok (.ireturn, 1) := by decide +kernel
def f_X6_fallenInTrial_l4 : am_F := am_th (i_il 3) (am_th (i_il 1) (am_br (b_2 (fun x y => decide (y ≤ x))) (am_to 32) (am_th (i_il 2) (am_th (i_al 0) (am_th (i_gr 6 7) (am_th (i_al 0) (am_th (i_gr 6 3) (am_th (i_cv 2 1 d_X2_passByDeeds) (am_th (i_cs 1 d_J6_bitCount_0f7a4) (am_th (i_2 (fun x y => x + y)) (am_th (i_is 2) (am_th (i_inc 3 (1)) (am_to 4)))))))))))))
def f_X6_fallenInTrial : am_F := am_th (i_ic (0)) (am_th (i_is 2) (am_th (i_ic (0)) (am_th (i_is 3) (am_sq 32 (am_lp 5000 4 f_X6_fallenInTrial_l4) (am_th (i_il 2) (r_i))))))
def d_X6_fallenInTrial : am_D := am_den 4 f_X6_fallenInTrial
set_option maxHeartbeats 4000000 in
set_option maxRecDepth 100000 in
theorem b_X6_fallenInTrial : am_Body yX6_fallenInTrial cX6_fallenInTrial 4 (some .int) 5 109 f_X6_fallenInTrial := by
  intro p l e R s m args below meth c g n0 z0 r0 u0 C hr hn
  have C : am_Cx p l e R s m args below meth c g RX6 cX6_fallenInTrial 4 n0 z0 (am_len u0) (am_wt u0) 5 109 := C
  have l4 : am_Snd (am_GM p l e R s m args below meth c g 4 n0 z0 r0 u0) (am_Rt r0 u0) 4 (f_X6_fallenInTrial_l4) := by
    unfold f_X6_fallenInTrial_l4
    exact (so_th (so_iload_n C dX6_fallenInTrial_4 rfl) (so_th (so_iload_n C dX6_fallenInTrial_5 rfl) (so_br (so_icmp_ge C dX6_fallenInTrial_6 (by decide)) (so_to) (so_th (so_iload_n C dX6_fallenInTrial_9 rfl) (so_th (so_aload_n C dX6_fallenInTrial_10 rfl) (so_th (so_getr C fl_RX6_45 dX6_fallenInTrial_11) (so_th (so_aload_n C dX6_fallenInTrial_14 rfl) (so_th (so_getr C fl_RX6_27 dX6_fallenInTrial_15) (so_th (so_cv C m_X2_passByDeeds rfl k_63 k_337 k_64 k_66 k_40 ⟨by decide, by decide, by decide +kernel⟩ (by decide) dX6_fallenInTrial_18) (so_th (so_cs C m_J6_bitCount_0f7a4 k_107 k_345 k_109 k_108 ⟨by decide, by decide, by decide +kernel⟩ (by decide) dX6_fallenInTrial_21) (so_th (so_iadd C dX6_fallenInTrial_24) (so_th (so_istore_n C dX6_fallenInTrial_25 rfl (by decide)) (so_th (so_iinc C dX6_fallenInTrial_26 (by decide) (by decide)) (so_goto C dX6_fallenInTrial_29 (by decide) (so_to)))))))))))))))
  unfold f_X6_fallenInTrial
  exact (so_th (so_iconst C dX6_fallenInTrial_0 (by decide)) (so_th (so_istore_n C dX6_fallenInTrial_1 rfl (by decide)) (so_th (so_iconst C dX6_fallenInTrial_2 (by decide)) (so_th (so_istore_n C dX6_fallenInTrial_3 rfl (by decide)) (so_sq (so_lp l4 5000) (so_th (so_iload_n C dX6_fallenInTrial_32 rfl) (so_ri C hr dX6_fallenInTrial_33)))))))
theorem m_X6_fallenInTrial : am_M yX6_fallenInTrial cX6_fallenInTrial 4 (some .int) 5 109 d_X6_fallenInTrial := am_M_of (by decide +kernel) b_X6_fallenInTrial
theorem dX6_fallenFromNow_0 : decode cX6_fallenFromNow 0 = .ok (.aload_n 0, 1) := by decide +kernel
theorem dX6_fallenFromNow_1 : decode cX6_fallenFromNow 1 = .ok (.getfield 45, 3) := by decide +kernel
theorem dX6_fallenFromNow_4 : decode cX6_fallenFromNow 4 = .ok (.aload_n 0, 1) := by decide +kernel
theorem dX6_fallenFromNow_5 : decode cX6_fallenFromNow 5 = .ok (.getfield 41, 3) := by decide +kernel
theorem dX6_fallenFromNow_8 : decode cX6_fallenFromNow 8 = .ok (.invokevirtual 155, 3) := by decide +kernel
theorem dX6_fallenFromNow_11 : decode cX6_fallenFromNow 11 = .ok (.aload_n 0, 1) := by decide +kernel
theorem dX6_fallenFromNow_12 : decode cX6_fallenFromNow 12 = .ok (.iload_n 1, 1) := by decide +kernel
theorem dX6_fallenFromNow_13 : decode cX6_fallenFromNow 13 = .ok (.invokevirtual 182, 3) := by decide +kernel
theorem dX6_fallenFromNow_16 : decode cX6_fallenFromNow 16 = .ok (.ireturn, 1) := by decide +kernel
def f_X6_fallenFromNow : am_F := am_th (i_al 0) (am_th (i_gr 6 7) (am_th (i_al 0) (am_th (i_gr 6 6) (am_th (i_cv 2 1 d_X2_become) (am_th (i_al 0) (am_th (i_il 1) (am_th (i_cv 6 1 d_X6_fallenInTrial) (r_i))))))))
def d_X6_fallenFromNow : am_D := am_den 2 f_X6_fallenFromNow
set_option maxHeartbeats 4000000 in
set_option maxRecDepth 100000 in
theorem b_X6_fallenFromNow : am_Body yX6_fallenFromNow cX6_fallenFromNow 2 (some .int) 6 132 f_X6_fallenFromNow := by
  intro p l e R s m args below meth c g n0 z0 r0 u0 C hr hn
  have C : am_Cx p l e R s m args below meth c g RX6 cX6_fallenFromNow 2 n0 z0 (am_len u0) (am_wt u0) 6 132 := C
  unfold f_X6_fallenFromNow
  exact (so_th (so_aload_n C dX6_fallenFromNow_0 rfl) (so_th (so_getr C fl_RX6_45 dX6_fallenFromNow_1) (so_th (so_aload_n C dX6_fallenFromNow_4 rfl) (so_th (so_getr C fl_RX6_41 dX6_fallenFromNow_5) (so_th (so_cv C m_X2_become rfl k_83 k_336 k_84 k_86 k_40 ⟨by decide, by decide, by decide +kernel⟩ (by decide) dX6_fallenFromNow_8) (so_th (so_aload_n C dX6_fallenFromNow_11 rfl) (so_th (so_iload_n C dX6_fallenFromNow_12 rfl) (so_th (so_cv C m_X6_fallenInTrial rfl k_346 k_348 k_347 k_349 k_5 ⟨by decide, by decide, by decide +kernel⟩ (by decide) dX6_fallenFromNow_13) (so_ri C hr dX6_fallenFromNow_16)))))))))
theorem m_X6_fallenFromNow : am_M yX6_fallenFromNow cX6_fallenFromNow 2 (some .int) 6 132 d_X6_fallenFromNow := am_M_of (by decide +kernel) b_X6_fallenFromNow
theorem dX6_fallen_0 : decode cX6_fallen 0 = .ok (.aload_n 0, 1) := by decide +kernel
theorem dX6_fallen_1 : decode cX6_fallen 1 = .ok (.getfield 34, 3) := by decide +kernel
theorem dX6_fallen_4 : decode cX6_fallen 4 = .ok (.ifCond .ne 9, 3) := by decide +kernel
theorem dX6_fallen_7 : decode cX6_fallen 7 = .ok (.aload_n 0, 1) := by decide +kernel
theorem dX6_fallen_8 : decode cX6_fallen 8 = .ok (.iconst 1, 1) := by decide +kernel
theorem dX6_fallen_9 : decode cX6_fallen 9 = .ok (.invokevirtual 92, 3) := by decide +kernel
theorem dX6_fallen_12 : decode cX6_fallen 12 = .ok (.ireturn, 1) := by decide +kernel
theorem dX6_fallen_13 : decode cX6_fallen 13 = .ok (.iload_n 1, 1) := by decide +kernel
theorem dX6_fallen_14 : decode cX6_fallen 14 = .ok (.invokestatic 142, 3) := by decide +kernel
theorem dX6_fallen_17 : decode cX6_fallen 17 = .ok (.ifCond .ne 9, 3) := by decide +kernel
theorem dX6_fallen_20 : decode cX6_fallen 20 = .ok (.aload_n 0, 1) := by decide +kernel
theorem dX6_fallen_21 : decode cX6_fallen 21 = .ok (.iconst 2, 1) := by decide +kernel
theorem dX6_fallen_22 : decode cX6_fallen 22 = .ok (.invokevirtual 92, 3) := by decide +kernel
theorem dX6_fallen_25 : decode cX6_fallen 25 = .ok (.ireturn, 1) := by decide +kernel
theorem dX6_fallen_26 : decode cX6_fallen 26 = .ok (.aload_n 0, 1) := by decide +kernel
theorem dX6_fallen_27 : decode cX6_fallen 27 = .ok (.aload_n 0, 1) := by decide +kernel
theorem dX6_fallen_28 : decode cX6_fallen 28 = .ok (.iload_n 1, 1) := by decide +kernel
theorem dX6_fallen_29 : decode cX6_fallen 29 = .ok (.invokevirtual 162, 3) := by decide +kernel
theorem dX6_fallen_32 : decode cX6_fallen 32 = .ok (.invokevirtual 107, 3) := by decide +kernel
theorem dX6_fallen_35 : decode cX6_fallen 35 = .ok (.ireturn, 1) := by decide +kernel
def f_X6_fallen : am_F := am_th (i_al 0) (am_th (i_gi 6 5) (am_br (b_1 (fun x => decide (¬ x = 0))) (am_th (i_il 1) (am_th (i_cs 1 d_X6_isSpan) (am_br (b_1 (fun x => decide (¬ x = 0))) (am_th (i_al 0) (am_th (i_al 0) (am_th (i_il 1) (am_th (i_cv 6 1 d_X6_fallenFromNow) (am_th (i_cv 6 1 d_X6_answer) (r_i)))))) (am_th (i_al 0) (am_th (i_ic (2)) (am_th (i_cv 6 1 d_X6_refuse) (r_i))))))) (am_th (i_al 0) (am_th (i_ic (1)) (am_th (i_cv 6 1 d_X6_refuse) (r_i))))))
def d_X6_fallen : am_D := am_den 2 f_X6_fallen
set_option maxHeartbeats 4000000 in
set_option maxRecDepth 100000 in
theorem b_X6_fallen : am_Body yX6_fallen cX6_fallen 2 (some .int) 7 153 f_X6_fallen := by
  intro p l e R s m args below meth c g n0 z0 r0 u0 C hr hn
  have C : am_Cx p l e R s m args below meth c g RX6 cX6_fallen 2 n0 z0 (am_len u0) (am_wt u0) 7 153 := C
  unfold f_X6_fallen
  exact (so_th (so_aload_n C dX6_fallen_0 rfl) (so_th (so_geti C fl_RX6_34 (by decide) dX6_fallen_1) (so_br (so_if_ne C dX6_fallen_4 (by decide)) (so_th (so_iload_n C dX6_fallen_13 rfl) (so_th (so_cs C m_X6_isSpan k_338 k_340 k_339 k_5 ⟨by decide, by decide, by decide +kernel⟩ (by decide) dX6_fallen_14) (so_br (so_if_ne C dX6_fallen_17 (by decide)) (so_th (so_aload_n C dX6_fallen_26 rfl) (so_th (so_aload_n C dX6_fallen_27 rfl) (so_th (so_iload_n C dX6_fallen_28 rfl) (so_th (so_cv C m_X6_fallenFromNow rfl k_350 k_352 k_351 k_353 k_5 ⟨by decide, by decide, by decide +kernel⟩ (by decide) dX6_fallen_29) (so_th (so_cv C m_X6_answer rfl k_306 k_308 k_307 k_309 k_5 ⟨by decide, by decide, by decide +kernel⟩ (by decide) dX6_fallen_32) (so_ri C hr dX6_fallen_35)))))) (so_th (so_aload_n C dX6_fallen_20 rfl) (so_th (so_iconst C dX6_fallen_21 (by decide)) (so_th (so_cv C m_X6_refuse rfl k_297 k_299 k_298 k_300 k_5 ⟨by decide, by decide, by decide +kernel⟩ (by decide) dX6_fallen_22) (so_ri C hr dX6_fallen_25))))))) (so_th (so_aload_n C dX6_fallen_7 rfl) (so_th (so_iconst C dX6_fallen_8 (by decide)) (so_th (so_cv C m_X6_refuse rfl k_297 k_299 k_298 k_300 k_5 ⟨by decide, by decide, by decide +kernel⟩ (by decide) dX6_fallen_9) (so_ri C hr dX6_fallen_12)))))))
theorem m_X6_fallen : am_M yX6_fallen cX6_fallen 2 (some .int) 7 153 d_X6_fallen := am_M_of (by decide +kernel) b_X6_fallen
theorem dX6_suckers_0 : decode cX6_suckers 0 = .ok (.aload_n 0, 1) := by decide +kernel
theorem dX6_suckers_1 : decode cX6_suckers 1 = .ok (.getfield 34, 3) := by decide +kernel
theorem dX6_suckers_4 : decode cX6_suckers 4 = .ok (.ifCond .ne 9, 3) := by decide +kernel
theorem dX6_suckers_7 : decode cX6_suckers 7 = .ok (.aload_n 0, 1) := by decide +kernel
theorem dX6_suckers_8 : decode cX6_suckers 8 = .ok (.iconst 1, 1) := by decide +kernel
theorem dX6_suckers_9 : decode cX6_suckers 9 = .ok (.invokevirtual 92, 3) := by decide +kernel
theorem dX6_suckers_12 : decode cX6_suckers 12 = .ok (.ireturn, 1) := by decide +kernel
theorem dX6_suckers_13 : decode cX6_suckers 13 = .ok (.iload_n 1, 1) := by decide +kernel
theorem dX6_suckers_14 : decode cX6_suckers 14 = .ok (.invokestatic 142, 3) := by decide +kernel
theorem dX6_suckers_17 : decode cX6_suckers 17 = .ok (.ifCond .ne 9, 3) := by decide +kernel
theorem dX6_suckers_20 : decode cX6_suckers 20 = .ok (.aload_n 0, 1) := by decide +kernel
theorem dX6_suckers_21 : decode cX6_suckers 21 = .ok (.iconst 2, 1) := by decide +kernel
theorem dX6_suckers_22 : decode cX6_suckers 22 = .ok (.invokevirtual 92, 3) := by decide +kernel
theorem dX6_suckers_25 : decode cX6_suckers 25 = .ok (.ireturn, 1) := by decide +kernel
theorem dX6_suckers_26 : decode cX6_suckers 26 = .ok (.aload_n 0, 1) := by decide +kernel
theorem dX6_suckers_27 : decode cX6_suckers 27 = .ok (.iload_n 1, 1) := by decide +kernel
theorem dX6_suckers_28 : decode cX6_suckers 28 = .ok (.invokevirtual 145, 3) := by decide +kernel
theorem dX6_suckers_31 : decode cX6_suckers 31 = .ok (.aload_n 0, 1) := by decide +kernel
theorem dX6_suckers_32 : decode cX6_suckers 32 = .ok (.aload_n 0, 1) := by decide +kernel
theorem dX6_suckers_33 : decode cX6_suckers 33 = .ok (.getfield 45, 3) := by decide +kernel
theorem dX6_suckers_36 : decode cX6_suckers 36 = .ok (.invokevirtual 165, 3) := by decide +kernel
theorem dX6_suckers_39 : decode cX6_suckers 39 = .ok (.aload_n 0, 1) := by decide +kernel
theorem dX6_suckers_40 : decode cX6_suckers 40 = .ok (.getfield 41, 3) := by decide +kernel
theorem dX6_suckers_43 : decode cX6_suckers 43 = .ok (.invokevirtual 165, 3) := by decide +kernel
theorem dX6_suckers_46 : decode cX6_suckers 46 = .ok (.isub, 1) := by decide +kernel
theorem dX6_suckers_47 : decode cX6_suckers 47 = .ok (.invokevirtual 107, 3) := by decide +kernel
theorem dX6_suckers_50 : decode cX6_suckers 50 = .ok (.ireturn, 1) := by decide +kernel
def f_X6_suckers : am_F := am_th (i_al 0) (am_th (i_gi 6 5) (am_br (b_1 (fun x => decide (¬ x = 0))) (am_th (i_il 1) (am_th (i_cs 1 d_X6_isSpan) (am_br (b_1 (fun x => decide (¬ x = 0))) (am_th (i_al 0) (am_th (i_il 1) (am_th (i_cv 6 1 d_X6_tryFromNow) (am_th (i_al 0) (am_th (i_al 0) (am_th (i_gr 6 7) (am_th (i_cv 2 0 d_X2_suckersOfAll) (am_th (i_al 0) (am_th (i_gr 6 6) (am_th (i_cv 2 0 d_X2_suckersOfAll) (am_th (i_2 (fun x y => x - y)) (am_th (i_cv 6 1 d_X6_answer) (r_i))))))))))))) (am_th (i_al 0) (am_th (i_ic (2)) (am_th (i_cv 6 1 d_X6_refuse) (r_i))))))) (am_th (i_al 0) (am_th (i_ic (1)) (am_th (i_cv 6 1 d_X6_refuse) (r_i))))))
def d_X6_suckers : am_D := am_den 2 f_X6_suckers
set_option maxHeartbeats 4000000 in
set_option maxRecDepth 100000 in
theorem b_X6_suckers : am_Body yX6_suckers cX6_suckers 2 (some .int) 6 131 f_X6_suckers := by
  intro p l e R s m args below meth c g n0 z0 r0 u0 C hr hn
  have C : am_Cx p l e R s m args below meth c g RX6 cX6_suckers 2 n0 z0 (am_len u0) (am_wt u0) 6 131 := C
  unfold f_X6_suckers
  exact (so_th (so_aload_n C dX6_suckers_0 rfl) (so_th (so_geti C fl_RX6_34 (by decide) dX6_suckers_1) (so_br (so_if_ne C dX6_suckers_4 (by decide)) (so_th (so_iload_n C dX6_suckers_13 rfl) (so_th (so_cs C m_X6_isSpan k_338 k_340 k_339 k_5 ⟨by decide, by decide, by decide +kernel⟩ (by decide) dX6_suckers_14) (so_br (so_if_ne C dX6_suckers_17 (by decide)) (so_th (so_aload_n C dX6_suckers_26 rfl) (so_th (so_iload_n C dX6_suckers_27 rfl) (so_th (so_cv C m_X6_tryFromNow rfl k_341 k_343 k_342 k_344 k_5 ⟨by decide, by decide, by decide +kernel⟩ (by decide) dX6_suckers_28) (so_th (so_aload_n C dX6_suckers_31 rfl) (so_th (so_aload_n C dX6_suckers_32 rfl) (so_th (so_getr C fl_RX6_45 dX6_suckers_33) (so_th (so_cv C m_X2_suckersOfAll rfl k_354 k_356 k_355 k_357 k_40 ⟨by decide, by decide, by decide +kernel⟩ (by decide) dX6_suckers_36) (so_th (so_aload_n C dX6_suckers_39 rfl) (so_th (so_getr C fl_RX6_41 dX6_suckers_40) (so_th (so_cv C m_X2_suckersOfAll rfl k_354 k_356 k_355 k_357 k_40 ⟨by decide, by decide, by decide +kernel⟩ (by decide) dX6_suckers_43) (so_th (so_isub C dX6_suckers_46) (so_th (so_cv C m_X6_answer rfl k_306 k_308 k_307 k_309 k_5 ⟨by decide, by decide, by decide +kernel⟩ (by decide) dX6_suckers_47) (so_ri C hr dX6_suckers_50))))))))))))) (so_th (so_aload_n C dX6_suckers_20 rfl) (so_th (so_iconst C dX6_suckers_21 (by decide)) (so_th (so_cv C m_X6_refuse rfl k_297 k_299 k_298 k_300 k_5 ⟨by decide, by decide, by decide +kernel⟩ (by decide) dX6_suckers_22) (so_ri C hr dX6_suckers_25))))))) (so_th (so_aload_n C dX6_suckers_7 rfl) (so_th (so_iconst C dX6_suckers_8 (by decide)) (so_th (so_cv C m_X6_refuse rfl k_297 k_299 k_298 k_300 k_5 ⟨by decide, by decide, by decide +kernel⟩ (by decide) dX6_suckers_9) (so_ri C hr dX6_suckers_12)))))))
theorem m_X6_suckers : am_M yX6_suckers cX6_suckers 2 (some .int) 6 131 d_X6_suckers := am_M_of (by decide +kernel) b_X6_suckers
theorem dX6_quiet_0 : decode cX6_quiet 0 = .ok (.aload_n 0, 1) := by decide +kernel
theorem dX6_quiet_1 : decode cX6_quiet 1 = .ok (.getfield 34, 3) := by decide +kernel
theorem dX6_quiet_4 : decode cX6_quiet 4 = .ok (.ifCond .ne 9, 3) := by decide +kernel
theorem dX6_quiet_7 : decode cX6_quiet 7 = .ok (.aload_n 0, 1) := by decide +kernel
theorem dX6_quiet_8 : decode cX6_quiet 8 = .ok (.iconst 1, 1) := by decide +kernel
theorem dX6_quiet_9 : decode cX6_quiet 9 = .ok (.invokevirtual 92, 3) := by decide +kernel
theorem dX6_quiet_12 : decode cX6_quiet 12 = .ok (.ireturn, 1) := by decide +kernel
theorem dX6_quiet_13 : decode cX6_quiet 13 = .ok (.iload_n 1, 1) := by decide +kernel
theorem dX6_quiet_14 : decode cX6_quiet 14 = .ok (.invokestatic 142, 3) := by decide +kernel
theorem dX6_quiet_17 : decode cX6_quiet 17 = .ok (.ifCond .ne 9, 3) := by decide +kernel
theorem dX6_quiet_20 : decode cX6_quiet 20 = .ok (.aload_n 0, 1) := by decide +kernel
theorem dX6_quiet_21 : decode cX6_quiet 21 = .ok (.iconst 2, 1) := by decide +kernel
theorem dX6_quiet_22 : decode cX6_quiet 22 = .ok (.invokevirtual 92, 3) := by decide +kernel
theorem dX6_quiet_25 : decode cX6_quiet 25 = .ok (.ireturn, 1) := by decide +kernel
theorem dX6_quiet_26 : decode cX6_quiet 26 = .ok (.iconst 0, 1) := by decide +kernel
theorem dX6_quiet_27 : decode cX6_quiet 27 = .ok (.istore_n 2, 1) := by decide +kernel
theorem dX6_quiet_28 : decode cX6_quiet 28 = .ok (.aload_n 0, 1) := by decide +kernel
theorem dX6_quiet_29 : decode cX6_quiet 29 = .ok (.getfield 45, 3) := by decide +kernel
theorem dX6_quiet_32 : decode cX6_quiet 32 = .ok (.aload_n 0, 1) := by decide +kernel
theorem dX6_quiet_33 : decode cX6_quiet 33 = .ok (.getfield 41, 3) := by decide +kernel
theorem dX6_quiet_36 : decode cX6_quiet 36 = .ok (.invokevirtual 155, 3) := by decide +kernel
theorem dX6_quiet_39 : decode cX6_quiet 39 = .ok (.iconst 0, 1) := by decide +kernel
theorem dX6_quiet_40 : decode cX6_quiet 40 = .ok (.istore_n 3, 1) := by decide +kernel
theorem dX6_quiet_41 : decode cX6_quiet 41 = .ok (.iload_n 3, 1) := by decide +kernel
theorem dX6_quiet_42 : decode cX6_quiet 42 = .ok (.iload_n 1, 1) := by decide +kernel
theorem dX6_quiet_43 : decode cX6_quiet 43 = .ok (.if_icmp .ge 38, 3) := by decide +kernel
theorem dX6_quiet_46 : decode cX6_quiet 46 = .ok (.aload_n 0, 1) := by decide +kernel
theorem dX6_quiet_47 : decode cX6_quiet 47 = .ok (.getfield 45, 3) := by decide +kernel
theorem dX6_quiet_50 : decode cX6_quiet 50 = .ok (.aload_n 0, 1) := by decide +kernel
theorem dX6_quiet_51 : decode cX6_quiet 51 = .ok (.getfield 27, 3) := by decide +kernel
theorem dX6_quiet_54 : decode cX6_quiet 54 = .ok (.invokevirtual 159, 3) := by decide +kernel
theorem dX6_quiet_57 : decode cX6_quiet 57 = .ok (.pop, 1) := by decide +kernel
theorem dX6_quiet_58 : decode cX6_quiet 58 = .ok (.aload_n 0, 1) := by decide +kernel
theorem dX6_quiet_59 : decode cX6_quiet 59 = .ok (.getfield 45, 3) := by decide +kernel
theorem dX6_quiet_62 : decode cX6_quiet 62 = .ok (.aload_n 0, 1) := by decide +kernel
theorem dX6_quiet_63 : decode cX6_quiet 63 = .ok (.getfield 27, 3) := by decide +kernel
theorem dX6_quiet_66 : decode cX6_quiet 66 = .ok (.invokevirtual 169, 3) := by decide +kernel
theorem dX6_quiet_69 : decode cX6_quiet 69 = .ok (.ifCond .eq 6, 3) := by decide +kernel
theorem dX6_quiet_72 : decode cX6_quiet 72 = .ok (.iinc 2 1, 3) := by decide +kernel
theorem dX6_quiet_75 : decode cX6_quiet 75 = .ok (.iinc 3 1, 3) := by decide +kernel
theorem dX6_quiet_78 : decode cX6_quiet 78 = .ok (.goto (-37), 3) := by decide +kernel
theorem dX6_quiet_81 : decode cX6_quiet 81 = .ok (.aload_n 0, 1) := by decide +kernel
theorem dX6_quiet_82 : decode cX6_quiet 82 = .ok (.iload_n 2, 1) := by decide +kernel
theorem dX6_quiet_83 : decode cX6_quiet 83 = .ok (.invokevirtual 107, 3) := by decide +kernel
theorem dX6_quiet_86 : decode cX6_quiet 86 = .ok (.ireturn, 1) := by decide +kernel
def f_X6_quiet_l41 : am_F := am_th (i_il 3) (am_th (i_il 1) (am_br (b_2 (fun x y => decide (y ≤ x))) (am_to 81) (am_th (i_al 0) (am_th (i_gr 6 7) (am_th (i_al 0) (am_th (i_gr 6 3) (am_th (i_cv 2 1 d_X2_passByDeeds) (am_th (i_pop) (am_th (i_al 0) (am_th (i_gr 6 7) (am_th (i_al 0) (am_th (i_gr 6 3) (am_th (i_cv 2 1 d_X2_isAllPeace) (am_sq 75 (am_br (b_1 (fun x => decide (x = 0))) (am_to 75) (am_th (i_inc 2 (1)) (am_to 75))) (am_th (i_inc 3 (1)) (am_to 41))))))))))))))))
def f_X6_quiet : am_F := am_th (i_al 0) (am_th (i_gi 6 5) (am_br (b_1 (fun x => decide (¬ x = 0))) (am_th (i_il 1) (am_th (i_cs 1 d_X6_isSpan) (am_br (b_1 (fun x => decide (¬ x = 0))) (am_th (i_ic (0)) (am_th (i_is 2) (am_th (i_al 0) (am_th (i_gr 6 7) (am_th (i_al 0) (am_th (i_gr 6 6) (am_th (i_cv 2 1 d_X2_become) (am_th (i_ic (0)) (am_th (i_is 3) (am_sq 81 (am_lp 5000 41 f_X6_quiet_l41) (am_th (i_al 0) (am_th (i_il 2) (am_th (i_cv 6 1 d_X6_answer) (r_i)))))))))))))) (am_th (i_al 0) (am_th (i_ic (2)) (am_th (i_cv 6 1 d_X6_refuse) (r_i))))))) (am_th (i_al 0) (am_th (i_ic (1)) (am_th (i_cv 6 1 d_X6_refuse) (r_i))))))
def d_X6_quiet : am_D := am_den 4 f_X6_quiet
set_option maxHeartbeats 4000000 in
set_option maxRecDepth 100000 in
theorem b_X6_quiet : am_Body yX6_quiet cX6_quiet 4 (some .int) 5 109 f_X6_quiet := by
  intro p l e R s m args below meth c g n0 z0 r0 u0 C hr hn
  have C : am_Cx p l e R s m args below meth c g RX6 cX6_quiet 4 n0 z0 (am_len u0) (am_wt u0) 5 109 := C
  have l41 : am_Snd (am_GM p l e R s m args below meth c g 4 n0 z0 r0 u0) (am_Rt r0 u0) 41 (f_X6_quiet_l41) := by
    unfold f_X6_quiet_l41
    exact (so_th (so_iload_n C dX6_quiet_41 rfl) (so_th (so_iload_n C dX6_quiet_42 rfl) (so_br (so_icmp_ge C dX6_quiet_43 (by decide)) (so_to) (so_th (so_aload_n C dX6_quiet_46 rfl) (so_th (so_getr C fl_RX6_45 dX6_quiet_47) (so_th (so_aload_n C dX6_quiet_50 rfl) (so_th (so_getr C fl_RX6_27 dX6_quiet_51) (so_th (so_cv C m_X2_passByDeeds rfl k_63 k_337 k_64 k_66 k_40 ⟨by decide, by decide, by decide +kernel⟩ (by decide) dX6_quiet_54) (so_th (so_pop C dX6_quiet_57) (so_th (so_aload_n C dX6_quiet_58 rfl) (so_th (so_getr C fl_RX6_45 dX6_quiet_59) (so_th (so_aload_n C dX6_quiet_62 rfl) (so_th (so_getr C fl_RX6_27 dX6_quiet_63) (so_th (so_cv C m_X2_isAllPeace rfl k_358 k_360 k_359 k_361 k_40 ⟨by decide, by decide, by decide +kernel⟩ (by decide) dX6_quiet_66) (so_sq (so_br (so_if_eq C dX6_quiet_69 (by decide)) (so_to) (so_th (so_iinc C dX6_quiet_72 (by decide) (by decide)) (so_to))) (so_th (so_iinc C dX6_quiet_75 (by decide) (by decide)) (so_goto C dX6_quiet_78 (by decide) (so_to))))))))))))))))))
  unfold f_X6_quiet
  exact (so_th (so_aload_n C dX6_quiet_0 rfl) (so_th (so_geti C fl_RX6_34 (by decide) dX6_quiet_1) (so_br (so_if_ne C dX6_quiet_4 (by decide)) (so_th (so_iload_n C dX6_quiet_13 rfl) (so_th (so_cs C m_X6_isSpan k_338 k_340 k_339 k_5 ⟨by decide, by decide, by decide +kernel⟩ (by decide) dX6_quiet_14) (so_br (so_if_ne C dX6_quiet_17 (by decide)) (so_th (so_iconst C dX6_quiet_26 (by decide)) (so_th (so_istore_n C dX6_quiet_27 rfl (by decide)) (so_th (so_aload_n C dX6_quiet_28 rfl) (so_th (so_getr C fl_RX6_45 dX6_quiet_29) (so_th (so_aload_n C dX6_quiet_32 rfl) (so_th (so_getr C fl_RX6_41 dX6_quiet_33) (so_th (so_cv C m_X2_become rfl k_83 k_336 k_84 k_86 k_40 ⟨by decide, by decide, by decide +kernel⟩ (by decide) dX6_quiet_36) (so_th (so_iconst C dX6_quiet_39 (by decide)) (so_th (so_istore_n C dX6_quiet_40 rfl (by decide)) (so_sq (so_lp l41 5000) (so_th (so_aload_n C dX6_quiet_81 rfl) (so_th (so_iload_n C dX6_quiet_82 rfl) (so_th (so_cv C m_X6_answer rfl k_306 k_308 k_307 k_309 k_5 ⟨by decide, by decide, by decide +kernel⟩ (by decide) dX6_quiet_83) (so_ri C hr dX6_quiet_86)))))))))))))) (so_th (so_aload_n C dX6_quiet_20 rfl) (so_th (so_iconst C dX6_quiet_21 (by decide)) (so_th (so_cv C m_X6_refuse rfl k_297 k_299 k_298 k_300 k_5 ⟨by decide, by decide, by decide +kernel⟩ (by decide) dX6_quiet_22) (so_ri C hr dX6_quiet_25))))))) (so_th (so_aload_n C dX6_quiet_7 rfl) (so_th (so_iconst C dX6_quiet_8 (by decide)) (so_th (so_cv C m_X6_refuse rfl k_297 k_299 k_298 k_300 k_5 ⟨by decide, by decide, by decide +kernel⟩ (by decide) dX6_quiet_9) (so_ri C hr dX6_quiet_12)))))))
theorem m_X6_quiet : am_M yX6_quiet cX6_quiet 4 (some .int) 5 109 d_X6_quiet := am_M_of (by decide +kernel) b_X6_quiet
theorem dX6_peaceBy_0 : decode cX6_peaceBy 0 = .ok (.aload_n 0, 1) := by decide +kernel
theorem dX6_peaceBy_1 : decode cX6_peaceBy 1 = .ok (.getfield 34, 3) := by decide +kernel
theorem dX6_peaceBy_4 : decode cX6_peaceBy 4 = .ok (.ifCond .ne 9, 3) := by decide +kernel
theorem dX6_peaceBy_7 : decode cX6_peaceBy 7 = .ok (.aload_n 0, 1) := by decide +kernel
theorem dX6_peaceBy_8 : decode cX6_peaceBy 8 = .ok (.iconst 1, 1) := by decide +kernel
theorem dX6_peaceBy_9 : decode cX6_peaceBy 9 = .ok (.invokevirtual 92, 3) := by decide +kernel
theorem dX6_peaceBy_12 : decode cX6_peaceBy 12 = .ok (.ireturn, 1) := by decide +kernel
theorem dX6_peaceBy_13 : decode cX6_peaceBy 13 = .ok (.aload_n 0, 1) := by decide +kernel
theorem dX6_peaceBy_14 : decode cX6_peaceBy 14 = .ok (.getfield 45, 3) := by decide +kernel
theorem dX6_peaceBy_17 : decode cX6_peaceBy 17 = .ok (.aload_n 0, 1) := by decide +kernel
theorem dX6_peaceBy_18 : decode cX6_peaceBy 18 = .ok (.getfield 41, 3) := by decide +kernel
theorem dX6_peaceBy_21 : decode cX6_peaceBy 21 = .ok (.invokevirtual 155, 3) := by decide +kernel
theorem dX6_peaceBy_24 : decode cX6_peaceBy 24 = .ok (.iconst 0, 1) := by decide +kernel
theorem dX6_peaceBy_25 : decode cX6_peaceBy 25 = .ok (.istore_n 1, 1) := by decide +kernel
theorem dX6_peaceBy_26 : decode cX6_peaceBy 26 = .ok (.iload_n 1, 1) := by decide +kernel
theorem dX6_peaceBy_27 : decode cX6_peaceBy 27 = .ok (.bipush 24, 2) := by decide +kernel
theorem dX6_peaceBy_29 : decode cX6_peaceBy 29 = .ok (.if_icmp .gt 41, 3) := by decide +kernel
theorem dX6_peaceBy_32 : decode cX6_peaceBy 32 = .ok (.aload_n 0, 1) := by decide +kernel
theorem dX6_peaceBy_33 : decode cX6_peaceBy 33 = .ok (.getfield 45, 3) := by decide +kernel
theorem dX6_peaceBy_36 : decode cX6_peaceBy 36 = .ok (.aload_n 0, 1) := by decide +kernel
theorem dX6_peaceBy_37 : decode cX6_peaceBy 37 = .ok (.getfield 27, 3) := by decide +kernel
theorem dX6_peaceBy_40 : decode cX6_peaceBy 40 = .ok (.invokevirtual 169, 3) := by decide +kernel
theorem dX6_peaceBy_43 : decode cX6_peaceBy 43 = .ok (.ifCond .eq 9, 3) := by decide +kernel
theorem dX6_peaceBy_46 : decode cX6_peaceBy 46 = .ok (.aload_n 0, 1) := by decide +kernel
theorem dX6_peaceBy_47 : decode cX6_peaceBy 47 = .ok (.iload_n 1, 1) := by decide +kernel
theorem dX6_peaceBy_48 : decode cX6_peaceBy 48 = .ok (.invokevirtual 107, 3) := by decide +kernel
theorem dX6_peaceBy_51 : decode cX6_peaceBy 51 = .ok (.ireturn, 1) := by decide +kernel
theorem dX6_peaceBy_52 : decode cX6_peaceBy 52 = .ok (.aload_n 0, 1) := by decide +kernel
theorem dX6_peaceBy_53 : decode cX6_peaceBy 53 = .ok (.getfield 45, 3) := by decide +kernel
theorem dX6_peaceBy_56 : decode cX6_peaceBy 56 = .ok (.aload_n 0, 1) := by decide +kernel
theorem dX6_peaceBy_57 : decode cX6_peaceBy 57 = .ok (.getfield 27, 3) := by decide +kernel
theorem dX6_peaceBy_60 : decode cX6_peaceBy 60 = .ok (.invokevirtual 159, 3) := by decide +kernel
theorem dX6_peaceBy_63 : decode cX6_peaceBy 63 = .ok (.pop, 1) := by decide +kernel
theorem dX6_peaceBy_64 : decode cX6_peaceBy 64 = .ok (.iinc 1 1, 3) := by decide +kernel
theorem dX6_peaceBy_67 : decode cX6_peaceBy 67 = .ok (.goto (-41), 3) := by decide +kernel
theorem dX6_peaceBy_70 : decode cX6_peaceBy 70 = .ok (.aload_n 0, 1) := by decide +kernel
theorem dX6_peaceBy_71 : decode cX6_peaceBy 71 = .ok (.bipush (-2), 2) := by decide +kernel
theorem dX6_peaceBy_73 : decode cX6_peaceBy 73 = .ok (.invokevirtual 107, 3) := by decide +kernel
theorem dX6_peaceBy_76 : decode cX6_peaceBy 76 = .ok (.ireturn, 1) := by decide +kernel
def f_X6_peaceBy_l26 : am_F := am_th (i_il 1) (am_th (i_ic (24)) (am_br (b_2 (fun x y => decide (y < x))) (am_to 70) (am_th (i_al 0) (am_th (i_gr 6 7) (am_th (i_al 0) (am_th (i_gr 6 3) (am_th (i_cv 2 1 d_X2_isAllPeace) (am_br (b_1 (fun x => decide (x = 0))) (am_th (i_al 0) (am_th (i_gr 6 7) (am_th (i_al 0) (am_th (i_gr 6 3) (am_th (i_cv 2 1 d_X2_passByDeeds) (am_th (i_pop) (am_th (i_inc 1 (1)) (am_to 26)))))))) (am_th (i_al 0) (am_th (i_il 1) (am_th (i_cv 6 1 d_X6_answer) (r_i))))))))))))
def f_X6_peaceBy : am_F := am_th (i_al 0) (am_th (i_gi 6 5) (am_br (b_1 (fun x => decide (¬ x = 0))) (am_th (i_al 0) (am_th (i_gr 6 7) (am_th (i_al 0) (am_th (i_gr 6 6) (am_th (i_cv 2 1 d_X2_become) (am_th (i_ic (0)) (am_th (i_is 1) (am_sq 70 (am_lp 5000 26 f_X6_peaceBy_l26) (am_th (i_al 0) (am_th (i_ic (-2)) (am_th (i_cv 6 1 d_X6_answer) (r_i)))))))))))) (am_th (i_al 0) (am_th (i_ic (1)) (am_th (i_cv 6 1 d_X6_refuse) (r_i))))))
def d_X6_peaceBy : am_D := am_den 2 f_X6_peaceBy
set_option maxHeartbeats 4000000 in
set_option maxRecDepth 100000 in
theorem b_X6_peaceBy : am_Body yX6_peaceBy cX6_peaceBy 2 (some .int) 5 109 f_X6_peaceBy := by
  intro p l e R s m args below meth c g n0 z0 r0 u0 C hr hn
  have C : am_Cx p l e R s m args below meth c g RX6 cX6_peaceBy 2 n0 z0 (am_len u0) (am_wt u0) 5 109 := C
  have l26 : am_Snd (am_GM p l e R s m args below meth c g 2 n0 z0 r0 u0) (am_Rt r0 u0) 26 (f_X6_peaceBy_l26) := by
    unfold f_X6_peaceBy_l26
    exact (so_th (so_iload_n C dX6_peaceBy_26 rfl) (so_th (so_bipush C dX6_peaceBy_27 (by decide)) (so_br (so_icmp_gt C dX6_peaceBy_29 (by decide)) (so_to) (so_th (so_aload_n C dX6_peaceBy_32 rfl) (so_th (so_getr C fl_RX6_45 dX6_peaceBy_33) (so_th (so_aload_n C dX6_peaceBy_36 rfl) (so_th (so_getr C fl_RX6_27 dX6_peaceBy_37) (so_th (so_cv C m_X2_isAllPeace rfl k_358 k_360 k_359 k_361 k_40 ⟨by decide, by decide, by decide +kernel⟩ (by decide) dX6_peaceBy_40) (so_br (so_if_eq C dX6_peaceBy_43 (by decide)) (so_th (so_aload_n C dX6_peaceBy_52 rfl) (so_th (so_getr C fl_RX6_45 dX6_peaceBy_53) (so_th (so_aload_n C dX6_peaceBy_56 rfl) (so_th (so_getr C fl_RX6_27 dX6_peaceBy_57) (so_th (so_cv C m_X2_passByDeeds rfl k_63 k_337 k_64 k_66 k_40 ⟨by decide, by decide, by decide +kernel⟩ (by decide) dX6_peaceBy_60) (so_th (so_pop C dX6_peaceBy_63) (so_th (so_iinc C dX6_peaceBy_64 (by decide) (by decide)) (so_goto C dX6_peaceBy_67 (by decide) (so_to))))))))) (so_th (so_aload_n C dX6_peaceBy_46 rfl) (so_th (so_iload_n C dX6_peaceBy_47 rfl) (so_th (so_cv C m_X6_answer rfl k_306 k_308 k_307 k_309 k_5 ⟨by decide, by decide, by decide +kernel⟩ (by decide) dX6_peaceBy_48) (so_ri C hr dX6_peaceBy_51)))))))))))))
  unfold f_X6_peaceBy
  exact (so_th (so_aload_n C dX6_peaceBy_0 rfl) (so_th (so_geti C fl_RX6_34 (by decide) dX6_peaceBy_1) (so_br (so_if_ne C dX6_peaceBy_4 (by decide)) (so_th (so_aload_n C dX6_peaceBy_13 rfl) (so_th (so_getr C fl_RX6_45 dX6_peaceBy_14) (so_th (so_aload_n C dX6_peaceBy_17 rfl) (so_th (so_getr C fl_RX6_41 dX6_peaceBy_18) (so_th (so_cv C m_X2_become rfl k_83 k_336 k_84 k_86 k_40 ⟨by decide, by decide, by decide +kernel⟩ (by decide) dX6_peaceBy_21) (so_th (so_iconst C dX6_peaceBy_24 (by decide)) (so_th (so_istore_n C dX6_peaceBy_25 rfl (by decide)) (so_sq (so_lp l26 5000) (so_th (so_aload_n C dX6_peaceBy_70 rfl) (so_th (so_bipush C dX6_peaceBy_71 (by decide)) (so_th (so_cv C m_X6_answer rfl k_306 k_308 k_307 k_309 k_5 ⟨by decide, by decide, by decide +kernel⟩ (by decide) dX6_peaceBy_73) (so_ri C hr dX6_peaceBy_76)))))))))))) (so_th (so_aload_n C dX6_peaceBy_7 rfl) (so_th (so_iconst C dX6_peaceBy_8 (by decide)) (so_th (so_cv C m_X6_refuse rfl k_297 k_299 k_298 k_300 k_5 ⟨by decide, by decide, by decide +kernel⟩ (by decide) dX6_peaceBy_9) (so_ri C hr dX6_peaceBy_12)))))))
theorem m_X6_peaceBy : am_M yX6_peaceBy cX6_peaceBy 2 (some .int) 5 109 d_X6_peaceBy := am_M_of (by decide +kernel) b_X6_peaceBy
theorem dX6_worst_0 : decode cX6_worst 0 = .ok (.aload_n 0, 1) := by decide +kernel
theorem dX6_worst_1 : decode cX6_worst 1 = .ok (.getfield 34, 3) := by decide +kernel
theorem dX6_worst_4 : decode cX6_worst 4 = .ok (.ifCond .ne 9, 3) := by decide +kernel
theorem dX6_worst_7 : decode cX6_worst 7 = .ok (.aload_n 0, 1) := by decide +kernel
theorem dX6_worst_8 : decode cX6_worst 8 = .ok (.iconst 1, 1) := by decide +kernel
theorem dX6_worst_9 : decode cX6_worst 9 = .ok (.invokevirtual 92, 3) := by decide +kernel
theorem dX6_worst_12 : decode cX6_worst 12 = .ok (.ireturn, 1) := by decide +kernel
theorem dX6_worst_13 : decode cX6_worst 13 = .ok (.iload_n 1, 1) := by decide +kernel
theorem dX6_worst_14 : decode cX6_worst 14 = .ok (.invokestatic 142, 3) := by decide +kernel
theorem dX6_worst_17 : decode cX6_worst 17 = .ok (.ifCond .ne 9, 3) := by decide +kernel
theorem dX6_worst_20 : decode cX6_worst 20 = .ok (.aload_n 0, 1) := by decide +kernel
theorem dX6_worst_21 : decode cX6_worst 21 = .ok (.iconst 2, 1) := by decide +kernel
theorem dX6_worst_22 : decode cX6_worst 22 = .ok (.invokevirtual 92, 3) := by decide +kernel
theorem dX6_worst_25 : decode cX6_worst 25 = .ok (.ireturn, 1) := by decide +kernel
theorem dX6_worst_26 : decode cX6_worst 26 = .ok (.aload_n 0, 1) := by decide +kernel
theorem dX6_worst_27 : decode cX6_worst 27 = .ok (.iload_n 1, 1) := by decide +kernel
theorem dX6_worst_28 : decode cX6_worst 28 = .ok (.invokevirtual 145, 3) := by decide +kernel
theorem dX6_worst_31 : decode cX6_worst 31 = .ok (.iconst 0, 1) := by decide +kernel
theorem dX6_worst_32 : decode cX6_worst 32 = .ok (.istore_n 2, 1) := by decide +kernel
theorem dX6_worst_33 : decode cX6_worst 33 = .ok (.bipush (-2), 2) := by decide +kernel
theorem dX6_worst_35 : decode cX6_worst 35 = .ok (.istore_n 3, 1) := by decide +kernel
theorem dX6_worst_36 : decode cX6_worst 36 = .ok (.iconst 0, 1) := by decide +kernel
theorem dX6_worst_37 : decode cX6_worst 37 = .ok (.istore 4, 2) := by decide +kernel
theorem dX6_worst_39 : decode cX6_worst 39 = .ok (.iload 4, 2) := by decide +kernel
theorem dX6_worst_41 : decode cX6_worst 41 = .ok (.aload_n 0, 1) := by decide +kernel
theorem dX6_worst_42 : decode cX6_worst 42 = .ok (.getfield 27, 3) := by decide +kernel
theorem dX6_worst_45 : decode cX6_worst 45 = .ok (.getfield 104, 3) := by decide +kernel
theorem dX6_worst_48 : decode cX6_worst 48 = .ok (.if_icmp .ge 44, 3) := by decide +kernel
theorem dX6_worst_51 : decode cX6_worst 51 = .ok (.aload_n 0, 1) := by decide +kernel
theorem dX6_worst_52 : decode cX6_worst 52 = .ok (.getfield 45, 3) := by decide +kernel
theorem dX6_worst_55 : decode cX6_worst 55 = .ok (.getfield 151, 3) := by decide +kernel
theorem dX6_worst_58 : decode cX6_worst 58 = .ok (.iload 4, 2) := by decide +kernel
theorem dX6_worst_60 : decode cX6_worst 60 = .ok (.iaload, 1) := by decide +kernel
theorem dX6_worst_61 : decode cX6_worst 61 = .ok (.aload_n 0, 1) := by decide +kernel
theorem dX6_worst_62 : decode cX6_worst 62 = .ok (.getfield 41, 3) := by decide +kernel
theorem dX6_worst_65 : decode cX6_worst 65 = .ok (.getfield 151, 3) := by decide +kernel
theorem dX6_worst_68 : decode cX6_worst 68 = .ok (.iload 4, 2) := by decide +kernel
theorem dX6_worst_70 : decode cX6_worst 70 = .ok (.iaload, 1) := by decide +kernel
theorem dX6_worst_71 : decode cX6_worst 71 = .ok (.isub, 1) := by decide +kernel
theorem dX6_worst_72 : decode cX6_worst 72 = .ok (.istore 5, 2) := by decide +kernel
theorem dX6_worst_74 : decode cX6_worst 74 = .ok (.iload 5, 2) := by decide +kernel
theorem dX6_worst_76 : decode cX6_worst 76 = .ok (.iload_n 2, 1) := by decide +kernel
theorem dX6_worst_77 : decode cX6_worst 77 = .ok (.if_icmp .le 9, 3) := by decide +kernel
theorem dX6_worst_80 : decode cX6_worst 80 = .ok (.iload 5, 2) := by decide +kernel
theorem dX6_worst_82 : decode cX6_worst 82 = .ok (.istore_n 2, 1) := by decide +kernel
theorem dX6_worst_83 : decode cX6_worst 83 = .ok (.iload 4, 2) := by decide +kernel
theorem dX6_worst_85 : decode cX6_worst 85 = .ok (.istore_n 3, 1) := by decide +kernel
theorem dX6_worst_86 : decode cX6_worst 86 = .ok (.iinc 4 1, 3) := by decide +kernel
theorem dX6_worst_89 : decode cX6_worst 89 = .ok (.goto (-50), 3) := by decide +kernel
theorem dX6_worst_92 : decode cX6_worst 92 = .ok (.aload_n 0, 1) := by decide +kernel
theorem dX6_worst_93 : decode cX6_worst 93 = .ok (.iload_n 3, 1) := by decide +kernel
theorem dX6_worst_94 : decode cX6_worst 94 = .ok (.invokevirtual 107, 3) := by decide +kernel
theorem dX6_worst_97 : decode cX6_worst 97 = .ok (.ireturn, 1) := by decide +kernel
def f_X6_worst_l39 : am_F := am_th (i_il 4) (am_th (i_al 0) (am_th (i_gr 6 3) (am_th (i_gi 5 3) (am_br (b_2 (fun x y => decide (y ≤ x))) (am_to 92) (am_th (i_al 0) (am_th (i_gr 6 7) (am_th (i_gr 2 4) (am_th (i_il 4) (am_th (i_ia 0) (am_th (i_al 0) (am_th (i_gr 6 6) (am_th (i_gr 2 4) (am_th (i_il 4) (am_th (i_ia 0) (am_th (i_2 (fun x y => x - y)) (am_th (i_is 5) (am_th (i_il 5) (am_th (i_il 2) (am_sq 86 (am_br (b_2 (fun x y => decide (x ≤ y))) (am_to 86) (am_th (i_il 5) (am_th (i_is 2) (am_th (i_il 4) (am_th (i_is 3) (am_to 86)))))) (am_th (i_inc 4 (1)) (am_to 39)))))))))))))))))))))
def f_X6_worst : am_F := am_th (i_al 0) (am_th (i_gi 6 5) (am_br (b_1 (fun x => decide (¬ x = 0))) (am_th (i_il 1) (am_th (i_cs 1 d_X6_isSpan) (am_br (b_1 (fun x => decide (¬ x = 0))) (am_th (i_al 0) (am_th (i_il 1) (am_th (i_cv 6 1 d_X6_tryFromNow) (am_th (i_ic (0)) (am_th (i_is 2) (am_th (i_ic (-2)) (am_th (i_is 3) (am_th (i_ic (0)) (am_th (i_is 4) (am_sq 92 (am_lp 5000 39 f_X6_worst_l39) (am_th (i_al 0) (am_th (i_il 3) (am_th (i_cv 6 1 d_X6_answer) (r_i)))))))))))))) (am_th (i_al 0) (am_th (i_ic (2)) (am_th (i_cv 6 1 d_X6_refuse) (r_i))))))) (am_th (i_al 0) (am_th (i_ic (1)) (am_th (i_cv 6 1 d_X6_refuse) (r_i))))))
def d_X6_worst : am_D := am_den 6 f_X6_worst
set_option maxHeartbeats 4000000 in
set_option maxRecDepth 100000 in
theorem b_X6_worst : am_Body yX6_worst cX6_worst 6 (some .int) 6 131 f_X6_worst := by
  intro p l e R s m args below meth c g n0 z0 r0 u0 C hr hn
  have C : am_Cx p l e R s m args below meth c g RX6 cX6_worst 6 n0 z0 (am_len u0) (am_wt u0) 6 131 := C
  have l39 : am_Snd (am_GM p l e R s m args below meth c g 6 n0 z0 r0 u0) (am_Rt r0 u0) 39 (f_X6_worst_l39) := by
    unfold f_X6_worst_l39
    exact (so_th (so_iload C dX6_worst_39) (so_th (so_aload_n C dX6_worst_41 rfl) (so_th (so_getr C fl_RX6_27 dX6_worst_42) (so_th (so_geti C fl_RX6_104 (by decide) dX6_worst_45) (so_br (so_icmp_ge C dX6_worst_48 (by decide)) (so_to) (so_th (so_aload_n C dX6_worst_51 rfl) (so_th (so_getr C fl_RX6_45 dX6_worst_52) (so_th (so_getr C fl_RX6_151 dX6_worst_55) (so_th (so_iload C dX6_worst_58) (so_th (so_iald C dX6_worst_60) (so_th (so_aload_n C dX6_worst_61 rfl) (so_th (so_getr C fl_RX6_41 dX6_worst_62) (so_th (so_getr C fl_RX6_151 dX6_worst_65) (so_th (so_iload C dX6_worst_68) (so_th (so_iald C dX6_worst_70) (so_th (so_isub C dX6_worst_71) (so_th (so_istore C dX6_worst_72 (by decide)) (so_th (so_iload C dX6_worst_74) (so_th (so_iload_n C dX6_worst_76 rfl) (so_sq (so_br (so_icmp_le C dX6_worst_77 (by decide)) (so_to) (so_th (so_iload C dX6_worst_80) (so_th (so_istore_n C dX6_worst_82 rfl (by decide)) (so_th (so_iload C dX6_worst_83) (so_th (so_istore_n C dX6_worst_85 rfl (by decide)) (so_to)))))) (so_th (so_iinc C dX6_worst_86 (by decide) (by decide)) (so_goto C dX6_worst_89 (by decide) (so_to)))))))))))))))))))))))
  unfold f_X6_worst
  exact (so_th (so_aload_n C dX6_worst_0 rfl) (so_th (so_geti C fl_RX6_34 (by decide) dX6_worst_1) (so_br (so_if_ne C dX6_worst_4 (by decide)) (so_th (so_iload_n C dX6_worst_13 rfl) (so_th (so_cs C m_X6_isSpan k_338 k_340 k_339 k_5 ⟨by decide, by decide, by decide +kernel⟩ (by decide) dX6_worst_14) (so_br (so_if_ne C dX6_worst_17 (by decide)) (so_th (so_aload_n C dX6_worst_26 rfl) (so_th (so_iload_n C dX6_worst_27 rfl) (so_th (so_cv C m_X6_tryFromNow rfl k_341 k_343 k_342 k_344 k_5 ⟨by decide, by decide, by decide +kernel⟩ (by decide) dX6_worst_28) (so_th (so_iconst C dX6_worst_31 (by decide)) (so_th (so_istore_n C dX6_worst_32 rfl (by decide)) (so_th (so_bipush C dX6_worst_33 (by decide)) (so_th (so_istore_n C dX6_worst_35 rfl (by decide)) (so_th (so_iconst C dX6_worst_36 (by decide)) (so_th (so_istore C dX6_worst_37 (by decide)) (so_sq (so_lp l39 5000) (so_th (so_aload_n C dX6_worst_92 rfl) (so_th (so_iload_n C dX6_worst_93 rfl) (so_th (so_cv C m_X6_answer rfl k_306 k_308 k_307 k_309 k_5 ⟨by decide, by decide, by decide +kernel⟩ (by decide) dX6_worst_94) (so_ri C hr dX6_worst_97)))))))))))))) (so_th (so_aload_n C dX6_worst_20 rfl) (so_th (so_iconst C dX6_worst_21 (by decide)) (so_th (so_cv C m_X6_refuse rfl k_297 k_299 k_298 k_300 k_5 ⟨by decide, by decide, by decide +kernel⟩ (by decide) dX6_worst_22) (so_ri C hr dX6_worst_25))))))) (so_th (so_aload_n C dX6_worst_7 rfl) (so_th (so_iconst C dX6_worst_8 (by decide)) (so_th (so_cv C m_X6_refuse rfl k_297 k_299 k_298 k_300 k_5 ⟨by decide, by decide, by decide +kernel⟩ (by decide) dX6_worst_9) (so_ri C hr dX6_worst_12)))))))
theorem m_X6_worst : am_M yX6_worst cX6_worst 6 (some .int) 6 131 d_X6_worst := am_M_of (by decide +kernel) b_X6_worst
theorem dX6_isStanding_0 : decode cX6_isStanding 0 = .ok (.aload_n 0, 1) := by decide +kernel
theorem dX6_isStanding_1 : decode cX6_isStanding 1 = .ok (.iload_n 1, 1) := by decide +kernel
theorem dX6_isStanding_2 : decode cX6_isStanding 2 = .ok (.invokevirtual 116, 3) := by decide +kernel
theorem dX6_isStanding_5 : decode cX6_isStanding 5 = .ok (.ifCond .eq 18, 3) := by decide +kernel
theorem dX6_isStanding_8 : decode cX6_isStanding 8 = .ok (.aload_n 0, 1) := by decide +kernel
theorem dX6_isStanding_9 : decode cX6_isStanding 9 = .ok (.getfield 41, 3) := by decide +kernel
theorem dX6_isStanding_12 : decode cX6_isStanding 12 = .ok (.iload_n 1, 1) := by decide +kernel
theorem dX6_isStanding_13 : decode cX6_isStanding 13 = .ok (.invokevirtual 269, 3) := by decide +kernel
theorem dX6_isStanding_16 : decode cX6_isStanding 16 = .ok (.ifCond .eq 7, 3) := by decide +kernel
theorem dX6_isStanding_19 : decode cX6_isStanding 19 = .ok (.iconst 1, 1) := by decide +kernel
theorem dX6_isStanding_20 : decode cX6_isStanding 20 = .ok (.goto 4, 3) := by decide +kernel
theorem dX6_isStanding_23 : decode cX6_isStanding 23 = .ok (.iconst 0, 1) := by decide +kernel
theorem dX6_isStanding_24 : decode cX6_isStanding 24 = .ok (.ireturn, 1) := by decide +kernel
def f_X6_isStanding : am_F := am_th (i_al 0) (am_th (i_il 1) (am_th (i_cv 6 1 d_X6_isQuarrel) (am_br (b_1 (fun x => decide (x = 0))) (am_th (i_ic (0)) (r_z)) (am_th (i_al 0) (am_th (i_gr 6 6) (am_th (i_il 1) (am_th (i_cv 2 1 d_X2_stands) (am_br (b_1 (fun x => decide (x = 0))) (am_th (i_ic (0)) (r_z)) (am_th (i_ic (1)) (r_z))))))))))
def d_X6_isStanding : am_D := am_den 2 f_X6_isStanding
set_option maxHeartbeats 4000000 in
set_option maxRecDepth 100000 in
theorem b_X6_isStanding : am_Body yX6_isStanding cX6_isStanding 2 (some .boolean) 1 21 f_X6_isStanding := by
  intro p l e R s m args below meth c g n0 z0 r0 u0 C hr hn
  have C : am_Cx p l e R s m args below meth c g RX6 cX6_isStanding 2 n0 z0 (am_len u0) (am_wt u0) 1 21 := C
  unfold f_X6_isStanding
  exact (so_th (so_aload_n C dX6_isStanding_0 rfl) (so_th (so_iload_n C dX6_isStanding_1 rfl) (so_th (so_cv C m_X6_isQuarrel rfl k_317 k_319 k_318 k_320 k_5 ⟨by decide, by decide, by decide +kernel⟩ (by decide) dX6_isStanding_2) (so_br (so_if_eq C dX6_isStanding_5 (by decide)) (so_th (so_iconst C dX6_isStanding_23 (by decide)) (so_rz C hr dX6_isStanding_24)) (so_th (so_aload_n C dX6_isStanding_8 rfl) (so_th (so_getr C fl_RX6_41 dX6_isStanding_9) (so_th (so_iload_n C dX6_isStanding_12 rfl) (so_th (so_cv C m_X2_stands rfl k_43 k_314 k_44 k_46 k_40 ⟨by decide, by decide, by decide +kernel⟩ (by decide) dX6_isStanding_13) (so_br (so_if_eq C dX6_isStanding_16 (by decide)) (so_th (so_iconst C dX6_isStanding_23 (by decide)) (so_rz C hr dX6_isStanding_24)) (so_th (so_iconst C dX6_isStanding_19 (by decide)) (so_goto C dX6_isStanding_20 (by decide) (so_rz C hr dX6_isStanding_24))))))))))))
theorem m_X6_isStanding : am_M yX6_isStanding cX6_isStanding 2 (some .boolean) 1 21 d_X6_isStanding := am_M_of (by decide +kernel) b_X6_isStanding
theorem dX6_refuseFarBelow_0 : decode cX6_refuseFarBelow 0 = .ok (.aload_n 0, 1) := by decide +kernel
theorem dX6_refuseFarBelow_1 : decode cX6_refuseFarBelow 1 = .ok (.iload_n 1, 1) := by decide +kernel
theorem dX6_refuseFarBelow_2 : decode cX6_refuseFarBelow 2 = .ok (.putfield 85, 3) := by decide +kernel
theorem dX6_refuseFarBelow_5 : decode cX6_refuseFarBelow 5 = .ok (.bipush (-100), 2) := by decide +kernel
theorem dX6_refuseFarBelow_7 : decode cX6_refuseFarBelow 7 = .ok (.ireturn, 1) := by decide +kernel
def f_X6_refuseFarBelow : am_F := am_th (i_al 0) (am_th (i_il 1) (am_th (i_pi 6 16) (am_th (i_ic (-100)) (r_i))))
def d_X6_refuseFarBelow : am_D := am_den 2 f_X6_refuseFarBelow
set_option maxHeartbeats 4000000 in
set_option maxRecDepth 100000 in
theorem b_X6_refuseFarBelow : am_Body yX6_refuseFarBelow cX6_refuseFarBelow 2 (some .int) 0 0 f_X6_refuseFarBelow := by
  intro p l e R s m args below meth c g n0 z0 r0 u0 C hr hn
  have C : am_Cx p l e R s m args below meth c g RX6 cX6_refuseFarBelow 2 n0 z0 (am_len u0) (am_wt u0) 0 0 := C
  unfold f_X6_refuseFarBelow
  exact (so_th (so_aload_n C dX6_refuseFarBelow_0 rfl) (so_th (so_iload_n C dX6_refuseFarBelow_1 rfl) (so_th (so_puti C fl_RX6_85 fp_6 (Or.inl rfl) dX6_refuseFarBelow_2) (so_th (so_bipush C dX6_refuseFarBelow_5 (by decide)) (so_ri C hr dX6_refuseFarBelow_7)))))
theorem m_X6_refuseFarBelow : am_M yX6_refuseFarBelow cX6_refuseFarBelow 2 (some .int) 0 0 d_X6_refuseFarBelow := am_M_of (by decide +kernel) b_X6_refuseFarBelow
theorem dX6_spared_0 : decode cX6_spared 0 = .ok (.aload_n 0, 1) := by decide +kernel
theorem dX6_spared_1 : decode cX6_spared 1 = .ok (.iload_n 1, 1) := by decide +kernel
theorem dX6_spared_2 : decode cX6_spared 2 = .ok (.invokevirtual 173, 3) := by decide +kernel
theorem dX6_spared_5 : decode cX6_spared 5 = .ok (.ifCond .ne 9, 3) := by decide +kernel
theorem dX6_spared_8 : decode cX6_spared 8 = .ok (.aload_n 0, 1) := by decide +kernel
theorem dX6_spared_9 : decode cX6_spared 9 = .ok (.iconst 1, 1) := by decide +kernel
theorem dX6_spared_10 : decode cX6_spared 10 = .ok (.invokevirtual 176, 3) := by decide +kernel
theorem dX6_spared_13 : decode cX6_spared 13 = .ok (.ireturn, 1) := by decide +kernel
theorem dX6_spared_14 : decode cX6_spared 14 = .ok (.iload_n 2, 1) := by decide +kernel
theorem dX6_spared_15 : decode cX6_spared 15 = .ok (.invokestatic 142, 3) := by decide +kernel
theorem dX6_spared_18 : decode cX6_spared 18 = .ok (.ifCond .ne 9, 3) := by decide +kernel
theorem dX6_spared_21 : decode cX6_spared 21 = .ok (.aload_n 0, 1) := by decide +kernel
theorem dX6_spared_22 : decode cX6_spared 22 = .ok (.iconst 2, 1) := by decide +kernel
theorem dX6_spared_23 : decode cX6_spared 23 = .ok (.invokevirtual 176, 3) := by decide +kernel
theorem dX6_spared_26 : decode cX6_spared 26 = .ok (.ireturn, 1) := by decide +kernel
theorem dX6_spared_27 : decode cX6_spared 27 = .ok (.aload_n 0, 1) := by decide +kernel
theorem dX6_spared_28 : decode cX6_spared 28 = .ok (.iload_n 2, 1) := by decide +kernel
theorem dX6_spared_29 : decode cX6_spared 29 = .ok (.invokevirtual 162, 3) := by decide +kernel
theorem dX6_spared_32 : decode cX6_spared 32 = .ok (.istore_n 3, 1) := by decide +kernel
theorem dX6_spared_33 : decode cX6_spared 33 = .ok (.aload_n 0, 1) := by decide +kernel
theorem dX6_spared_34 : decode cX6_spared 34 = .ok (.getfield 45, 3) := by decide +kernel
theorem dX6_spared_37 : decode cX6_spared 37 = .ok (.aload_n 0, 1) := by decide +kernel
theorem dX6_spared_38 : decode cX6_spared 38 = .ok (.getfield 41, 3) := by decide +kernel
theorem dX6_spared_41 : decode cX6_spared 41 = .ok (.invokevirtual 155, 3) := by decide +kernel
theorem dX6_spared_44 : decode cX6_spared 44 = .ok (.aload_n 0, 1) := by decide +kernel
theorem dX6_spared_45 : decode cX6_spared 45 = .ok (.getfield 45, 3) := by decide +kernel
theorem dX6_spared_48 : decode cX6_spared 48 = .ok (.getfield 179, 3) := by decide +kernel
theorem dX6_spared_51 : decode cX6_spared 51 = .ok (.iload_n 1, 1) := by decide +kernel
theorem dX6_spared_52 : decode cX6_spared 52 = .ok (.iconst 0, 1) := by decide +kernel
theorem dX6_spared_53 : decode cX6_spared 53 = .ok (.iastore, 1) := by decide +kernel
theorem dX6_spared_54 : decode cX6_spared 54 = .ok (.aload_n 0, 1) := by decide +kernel
theorem dX6_spared_55 : decode cX6_spared 55 = .ok (.iload_n 3, 1) := by decide +kernel
theorem dX6_spared_56 : decode cX6_spared 56 = .ok (.aload_n 0, 1) := by decide +kernel
theorem dX6_spared_57 : decode cX6_spared 57 = .ok (.iload_n 2, 1) := by decide +kernel
theorem dX6_spared_58 : decode cX6_spared 58 = .ok (.invokevirtual 182, 3) := by decide +kernel
theorem dX6_spared_61 : decode cX6_spared 61 = .ok (.isub, 1) := by decide +kernel
theorem dX6_spared_62 : decode cX6_spared 62 = .ok (.invokevirtual 107, 3) := by decide +kernel
theorem dX6_spared_65 : decode cX6_spared 65 = .ok (.ireturn, 1) := by decide +kernel
def f_X6_spared : am_F := am_th (i_al 0) (am_th (i_il 1) (am_th (i_cv 6 1 d_X6_isStanding) (am_br (b_1 (fun x => decide (¬ x = 0))) (am_th (i_il 2) (am_th (i_cs 1 d_X6_isSpan) (am_br (b_1 (fun x => decide (¬ x = 0))) (am_th (i_al 0) (am_th (i_il 2) (am_th (i_cv 6 1 d_X6_fallenFromNow) (am_th (i_is 3) (am_th (i_al 0) (am_th (i_gr 6 7) (am_th (i_al 0) (am_th (i_gr 6 6) (am_th (i_cv 2 1 d_X2_become) (am_th (i_al 0) (am_th (i_gr 6 7) (am_th (i_gr 2 2) (am_th (i_il 1) (am_th (i_ic (0)) (am_th (i_iS) (am_th (i_al 0) (am_th (i_il 3) (am_th (i_al 0) (am_th (i_il 2) (am_th (i_cv 6 1 d_X6_fallenInTrial) (am_th (i_2 (fun x y => x - y)) (am_th (i_cv 6 1 d_X6_answer) (r_i))))))))))))))))))))))) (am_th (i_al 0) (am_th (i_ic (2)) (am_th (i_cv 6 1 d_X6_refuseFarBelow) (r_i))))))) (am_th (i_al 0) (am_th (i_ic (1)) (am_th (i_cv 6 1 d_X6_refuseFarBelow) (r_i)))))))
def d_X6_spared : am_D := am_den 4 f_X6_spared
set_option maxHeartbeats 4000000 in
set_option maxRecDepth 100000 in
theorem b_X6_spared : am_Body yX6_spared cX6_spared 4 (some .int) 7 153 f_X6_spared := by
  intro p l e R s m args below meth c g n0 z0 r0 u0 C hr hn
  have C : am_Cx p l e R s m args below meth c g RX6 cX6_spared 4 n0 z0 (am_len u0) (am_wt u0) 7 153 := C
  unfold f_X6_spared
  exact (so_th (so_aload_n C dX6_spared_0 rfl) (so_th (so_iload_n C dX6_spared_1 rfl) (so_th (so_cv C m_X6_isStanding rfl k_362 k_364 k_363 k_365 k_5 ⟨by decide, by decide, by decide +kernel⟩ (by decide) dX6_spared_2) (so_br (so_if_ne C dX6_spared_5 (by decide)) (so_th (so_iload_n C dX6_spared_14 rfl) (so_th (so_cs C m_X6_isSpan k_338 k_340 k_339 k_5 ⟨by decide, by decide, by decide +kernel⟩ (by decide) dX6_spared_15) (so_br (so_if_ne C dX6_spared_18 (by decide)) (so_th (so_aload_n C dX6_spared_27 rfl) (so_th (so_iload_n C dX6_spared_28 rfl) (so_th (so_cv C m_X6_fallenFromNow rfl k_350 k_352 k_351 k_353 k_5 ⟨by decide, by decide, by decide +kernel⟩ (by decide) dX6_spared_29) (so_th (so_istore_n C dX6_spared_32 rfl (by decide)) (so_th (so_aload_n C dX6_spared_33 rfl) (so_th (so_getr C fl_RX6_45 dX6_spared_34) (so_th (so_aload_n C dX6_spared_37 rfl) (so_th (so_getr C fl_RX6_41 dX6_spared_38) (so_th (so_cv C m_X2_become rfl k_83 k_336 k_84 k_86 k_40 ⟨by decide, by decide, by decide +kernel⟩ (by decide) dX6_spared_41) (so_th (so_aload_n C dX6_spared_44 rfl) (so_th (so_getr C fl_RX6_45 dX6_spared_45) (so_th (so_getr C fl_RX6_179 dX6_spared_48) (so_th (so_iload_n C dX6_spared_51 rfl) (so_th (so_iconst C dX6_spared_52 (by decide)) (so_th (so_iast C dX6_spared_53) (so_th (so_aload_n C dX6_spared_54 rfl) (so_th (so_iload_n C dX6_spared_55 rfl) (so_th (so_aload_n C dX6_spared_56 rfl) (so_th (so_iload_n C dX6_spared_57 rfl) (so_th (so_cv C m_X6_fallenInTrial rfl k_346 k_348 k_347 k_349 k_5 ⟨by decide, by decide, by decide +kernel⟩ (by decide) dX6_spared_58) (so_th (so_isub C dX6_spared_61) (so_th (so_cv C m_X6_answer rfl k_306 k_308 k_307 k_309 k_5 ⟨by decide, by decide, by decide +kernel⟩ (by decide) dX6_spared_62) (so_ri C hr dX6_spared_65))))))))))))))))))))))) (so_th (so_aload_n C dX6_spared_21 rfl) (so_th (so_iconst C dX6_spared_22 (by decide)) (so_th (so_cv C m_X6_refuseFarBelow rfl k_366 k_368 k_367 k_369 k_5 ⟨by decide, by decide, by decide +kernel⟩ (by decide) dX6_spared_23) (so_ri C hr dX6_spared_26))))))) (so_th (so_aload_n C dX6_spared_8 rfl) (so_th (so_iconst C dX6_spared_9 (by decide)) (so_th (so_cv C m_X6_refuseFarBelow rfl k_366 k_368 k_367 k_369 k_5 ⟨by decide, by decide, by decide +kernel⟩ (by decide) dX6_spared_10) (so_ri C hr dX6_spared_13))))))))
theorem m_X6_spared : am_M yX6_spared cX6_spared 4 (some .int) 7 153 d_X6_spared := am_M_of (by decide +kernel) b_X6_spared
theorem dX6_odds_0 : decode cX6_odds 0 = .ok (.aload_n 0, 1) := by decide +kernel
theorem dX6_odds_1 : decode cX6_odds 1 = .ok (.iload_n 1, 1) := by decide +kernel
theorem dX6_odds_2 : decode cX6_odds 2 = .ok (.invokevirtual 116, 3) := by decide +kernel
theorem dX6_odds_5 : decode cX6_odds 5 = .ok (.ifCond .eq 11, 3) := by decide +kernel
theorem dX6_odds_8 : decode cX6_odds 8 = .ok (.aload_n 0, 1) := by decide +kernel
theorem dX6_odds_9 : decode cX6_odds 9 = .ok (.iload_n 2, 1) := by decide +kernel
theorem dX6_odds_10 : decode cX6_odds 10 = .ok (.invokevirtual 116, 3) := by decide +kernel
theorem dX6_odds_13 : decode cX6_odds 13 = .ok (.ifCond .ne 9, 3) := by decide +kernel
theorem dX6_odds_16 : decode cX6_odds 16 = .ok (.aload_n 0, 1) := by decide +kernel
theorem dX6_odds_17 : decode cX6_odds 17 = .ok (.iconst 1, 1) := by decide +kernel
theorem dX6_odds_18 : decode cX6_odds 18 = .ok (.invokevirtual 92, 3) := by decide +kernel
theorem dX6_odds_21 : decode cX6_odds 21 = .ok (.ireturn, 1) := by decide +kernel
theorem dX6_odds_22 : decode cX6_odds 22 = .ok (.aload_n 0, 1) := by decide +kernel
theorem dX6_odds_23 : decode cX6_odds 23 = .ok (.aload_n 0, 1) := by decide +kernel
theorem dX6_odds_24 : decode cX6_odds 24 = .ok (.getfield 41, 3) := by decide +kernel
theorem dX6_odds_27 : decode cX6_odds 27 = .ok (.aload_n 0, 1) := by decide +kernel
theorem dX6_odds_28 : decode cX6_odds 28 = .ok (.getfield 27, 3) := by decide +kernel
theorem dX6_odds_31 : decode cX6_odds 31 = .ok (.iload_n 1, 1) := by decide +kernel
theorem dX6_odds_32 : decode cX6_odds 32 = .ok (.iload_n 2, 1) := by decide +kernel
theorem dX6_odds_33 : decode cX6_odds 33 = .ok (.invokevirtual 185, 3) := by decide +kernel
theorem dX6_odds_36 : decode cX6_odds 36 = .ok (.invokevirtual 107, 3) := by decide +kernel
theorem dX6_odds_39 : decode cX6_odds 39 = .ok (.ireturn, 1) := by decide +kernel
def f_X6_odds : am_F := am_th (i_al 0) (am_th (i_il 1) (am_th (i_cv 6 1 d_X6_isQuarrel) (am_br (b_1 (fun x => decide (x = 0))) (am_th (i_al 0) (am_th (i_ic (1)) (am_th (i_cv 6 1 d_X6_refuse) (r_i)))) (am_th (i_al 0) (am_th (i_il 2) (am_th (i_cv 6 1 d_X6_isQuarrel) (am_br (b_1 (fun x => decide (¬ x = 0))) (am_th (i_al 0) (am_th (i_al 0) (am_th (i_gr 6 6) (am_th (i_al 0) (am_th (i_gr 6 3) (am_th (i_il 1) (am_th (i_il 2) (am_th (i_cv 2 3 d_X2_oddsOf) (am_th (i_cv 6 1 d_X6_answer) (r_i)))))))))) (am_th (i_al 0) (am_th (i_ic (1)) (am_th (i_cv 6 1 d_X6_refuse) (r_i)))))))))))
def d_X6_odds : am_D := am_den 3 f_X6_odds
set_option maxHeartbeats 4000000 in
set_option maxRecDepth 100000 in
theorem b_X6_odds : am_Body yX6_odds cX6_odds 3 (some .int) 3 68 f_X6_odds := by
  intro p l e R s m args below meth c g n0 z0 r0 u0 C hr hn
  have C : am_Cx p l e R s m args below meth c g RX6 cX6_odds 3 n0 z0 (am_len u0) (am_wt u0) 3 68 := C
  unfold f_X6_odds
  exact (so_th (so_aload_n C dX6_odds_0 rfl) (so_th (so_iload_n C dX6_odds_1 rfl) (so_th (so_cv C m_X6_isQuarrel rfl k_317 k_319 k_318 k_320 k_5 ⟨by decide, by decide, by decide +kernel⟩ (by decide) dX6_odds_2) (so_br (so_if_eq C dX6_odds_5 (by decide)) (so_th (so_aload_n C dX6_odds_16 rfl) (so_th (so_iconst C dX6_odds_17 (by decide)) (so_th (so_cv C m_X6_refuse rfl k_297 k_299 k_298 k_300 k_5 ⟨by decide, by decide, by decide +kernel⟩ (by decide) dX6_odds_18) (so_ri C hr dX6_odds_21)))) (so_th (so_aload_n C dX6_odds_8 rfl) (so_th (so_iload_n C dX6_odds_9 rfl) (so_th (so_cv C m_X6_isQuarrel rfl k_317 k_319 k_318 k_320 k_5 ⟨by decide, by decide, by decide +kernel⟩ (by decide) dX6_odds_10) (so_br (so_if_ne C dX6_odds_13 (by decide)) (so_th (so_aload_n C dX6_odds_22 rfl) (so_th (so_aload_n C dX6_odds_23 rfl) (so_th (so_getr C fl_RX6_41 dX6_odds_24) (so_th (so_aload_n C dX6_odds_27 rfl) (so_th (so_getr C fl_RX6_27 dX6_odds_28) (so_th (so_iload_n C dX6_odds_31 rfl) (so_th (so_iload_n C dX6_odds_32 rfl) (so_th (so_cv C m_X2_oddsOf rfl k_91 k_370 k_92 k_94 k_40 ⟨by decide, by decide, by decide +kernel⟩ (by decide) dX6_odds_33) (so_th (so_cv C m_X6_answer rfl k_306 k_308 k_307 k_309 k_5 ⟨by decide, by decide, by decide +kernel⟩ (by decide) dX6_odds_36) (so_ri C hr dX6_odds_39)))))))))) (so_th (so_aload_n C dX6_odds_16 rfl) (so_th (so_iconst C dX6_odds_17 (by decide)) (so_th (so_cv C m_X6_refuse rfl k_297 k_299 k_298 k_300 k_5 ⟨by decide, by decide, by decide +kernel⟩ (by decide) dX6_odds_18) (so_ri C hr dX6_odds_21))))))))))))
theorem m_X6_odds : am_M yX6_odds cX6_odds 3 (some .int) 3 68 d_X6_odds := am_M_of (by decide +kernel) b_X6_odds
theorem dX6_fallenBehindGraft_0 : decode cX6_fallenBehindGraft 0 = .ok (.aload_n 0, 1) := by decide +kernel
theorem dX6_fallenBehindGraft_1 : decode cX6_fallenBehindGraft 1 = .ok (.getfield 45, 3) := by decide +kernel
theorem dX6_fallenBehindGraft_4 : decode cX6_fallenBehindGraft 4 = .ok (.aload_n 0, 1) := by decide +kernel
theorem dX6_fallenBehindGraft_5 : decode cX6_fallenBehindGraft 5 = .ok (.getfield 41, 3) := by decide +kernel
theorem dX6_fallenBehindGraft_8 : decode cX6_fallenBehindGraft 8 = .ok (.invokevirtual 155, 3) := by decide +kernel
theorem dX6_fallenBehindGraft_11 : decode cX6_fallenBehindGraft 11 = .ok (.aload_n 0, 1) := by decide +kernel
theorem dX6_fallenBehindGraft_12 : decode cX6_fallenBehindGraft 12 = .ok (.getfield 45, 3) := by decide +kernel
theorem dX6_fallenBehindGraft_15 : decode cX6_fallenBehindGraft 15 = .ok (.iload_n 1, 1) := by decide +kernel
theorem dX6_fallenBehindGraft_16 : decode cX6_fallenBehindGraft 16 = .ok (.iload_n 2, 1) := by decide +kernel
theorem dX6_fallenBehindGraft_17 : decode cX6_fallenBehindGraft 17 = .ok (.invokevirtual 265, 3) := by decide +kernel
theorem dX6_fallenBehindGraft_20 : decode cX6_fallenBehindGraft 20 = .ok (.aload_n 0, 1) := by decide +kernel
theorem dX6_fallenBehindGraft_21 : decode cX6_fallenBehindGraft 21 = .ok (.iload_n 3, 1) := by decide +kernel
theorem dX6_fallenBehindGraft_22 : decode cX6_fallenBehindGraft 22 = .ok (.invokevirtual 182, 3) := by decide +kernel
theorem dX6_fallenBehindGraft_25 : decode cX6_fallenBehindGraft 25 = .ok (.ireturn, 1) := by decide +kernel
def f_X6_fallenBehindGraft : am_F := am_th (i_al 0) (am_th (i_gr 6 7) (am_th (i_al 0) (am_th (i_gr 6 6) (am_th (i_cv 2 1 d_X2_become) (am_th (i_al 0) (am_th (i_gr 6 7) (am_th (i_il 1) (am_th (i_il 2) (am_th (i_cv 2 2 d_X2_join) (am_th (i_al 0) (am_th (i_il 3) (am_th (i_cv 6 1 d_X6_fallenInTrial) (r_i)))))))))))))
def d_X6_fallenBehindGraft : am_D := am_den 4 f_X6_fallenBehindGraft
set_option maxHeartbeats 4000000 in
set_option maxRecDepth 100000 in
theorem b_X6_fallenBehindGraft : am_Body yX6_fallenBehindGraft cX6_fallenBehindGraft 4 (some .int) 6 132 f_X6_fallenBehindGraft := by
  intro p l e R s m args below meth c g n0 z0 r0 u0 C hr hn
  have C : am_Cx p l e R s m args below meth c g RX6 cX6_fallenBehindGraft 4 n0 z0 (am_len u0) (am_wt u0) 6 132 := C
  unfold f_X6_fallenBehindGraft
  exact (so_th (so_aload_n C dX6_fallenBehindGraft_0 rfl) (so_th (so_getr C fl_RX6_45 dX6_fallenBehindGraft_1) (so_th (so_aload_n C dX6_fallenBehindGraft_4 rfl) (so_th (so_getr C fl_RX6_41 dX6_fallenBehindGraft_5) (so_th (so_cv C m_X2_become rfl k_83 k_336 k_84 k_86 k_40 ⟨by decide, by decide, by decide +kernel⟩ (by decide) dX6_fallenBehindGraft_8) (so_th (so_aload_n C dX6_fallenBehindGraft_11 rfl) (so_th (so_getr C fl_RX6_45 dX6_fallenBehindGraft_12) (so_th (so_iload_n C dX6_fallenBehindGraft_15 rfl) (so_th (so_iload_n C dX6_fallenBehindGraft_16 rfl) (so_th (so_cv C m_X2_join rfl k_95 k_371 k_96 k_98 k_40 ⟨by decide, by decide, by decide +kernel⟩ (by decide) dX6_fallenBehindGraft_17) (so_th (so_aload_n C dX6_fallenBehindGraft_20 rfl) (so_th (so_iload_n C dX6_fallenBehindGraft_21 rfl) (so_th (so_cv C m_X6_fallenInTrial rfl k_346 k_348 k_347 k_349 k_5 ⟨by decide, by decide, by decide +kernel⟩ (by decide) dX6_fallenBehindGraft_22) (so_ri C hr dX6_fallenBehindGraft_25))))))))))))))
theorem m_X6_fallenBehindGraft : am_M yX6_fallenBehindGraft cX6_fallenBehindGraft 4 (some .int) 6 132 d_X6_fallenBehindGraft := am_M_of (by decide +kernel) b_X6_fallenBehindGraft
theorem dX6_grafted_0 : decode cX6_grafted 0 = .ok (.aload_n 0, 1) := by decide +kernel
theorem dX6_grafted_1 : decode cX6_grafted 1 = .ok (.iload_n 1, 1) := by decide +kernel
theorem dX6_grafted_2 : decode cX6_grafted 2 = .ok (.invokevirtual 116, 3) := by decide +kernel
theorem dX6_grafted_5 : decode cX6_grafted 5 = .ok (.ifCond .eq 11, 3) := by decide +kernel
theorem dX6_grafted_8 : decode cX6_grafted 8 = .ok (.aload_n 0, 1) := by decide +kernel
theorem dX6_grafted_9 : decode cX6_grafted 9 = .ok (.iload_n 2, 1) := by decide +kernel
theorem dX6_grafted_10 : decode cX6_grafted 10 = .ok (.invokevirtual 116, 3) := by decide +kernel
theorem dX6_grafted_13 : decode cX6_grafted 13 = .ok (.ifCond .ne 9, 3) := by decide +kernel
theorem dX6_grafted_16 : decode cX6_grafted 16 = .ok (.aload_n 0, 1) := by decide +kernel
theorem dX6_grafted_17 : decode cX6_grafted 17 = .ok (.iconst 1, 1) := by decide +kernel
theorem dX6_grafted_18 : decode cX6_grafted 18 = .ok (.invokevirtual 92, 3) := by decide +kernel
theorem dX6_grafted_21 : decode cX6_grafted 21 = .ok (.ireturn, 1) := by decide +kernel
theorem dX6_grafted_22 : decode cX6_grafted 22 = .ok (.iload_n 3, 1) := by decide +kernel
theorem dX6_grafted_23 : decode cX6_grafted 23 = .ok (.invokestatic 142, 3) := by decide +kernel
theorem dX6_grafted_26 : decode cX6_grafted 26 = .ok (.ifCond .ne 9, 3) := by decide +kernel
theorem dX6_grafted_29 : decode cX6_grafted 29 = .ok (.aload_n 0, 1) := by decide +kernel
theorem dX6_grafted_30 : decode cX6_grafted 30 = .ok (.iconst 2, 1) := by decide +kernel
theorem dX6_grafted_31 : decode cX6_grafted 31 = .ok (.invokevirtual 92, 3) := by decide +kernel
theorem dX6_grafted_34 : decode cX6_grafted 34 = .ok (.ireturn, 1) := by decide +kernel
theorem dX6_grafted_35 : decode cX6_grafted 35 = .ok (.aload_n 0, 1) := by decide +kernel
theorem dX6_grafted_36 : decode cX6_grafted 36 = .ok (.getfield 41, 3) := by decide +kernel
theorem dX6_grafted_39 : decode cX6_grafted 39 = .ok (.aload_n 0, 1) := by decide +kernel
theorem dX6_grafted_40 : decode cX6_grafted 40 = .ok (.getfield 27, 3) := by decide +kernel
theorem dX6_grafted_43 : decode cX6_grafted 43 = .ok (.iload_n 1, 1) := by decide +kernel
theorem dX6_grafted_44 : decode cX6_grafted 44 = .ok (.iload_n 2, 1) := by decide +kernel
theorem dX6_grafted_45 : decode cX6_grafted 45 = .ok (.invokevirtual 185, 3) := by decide +kernel
theorem dX6_grafted_48 : decode cX6_grafted 48 = .ok (.ifCond .ne 9, 3) := by decide +kernel
theorem dX6_grafted_51 : decode cX6_grafted 51 = .ok (.aload_n 0, 1) := by decide +kernel
theorem dX6_grafted_52 : decode cX6_grafted 52 = .ok (.iconst 5, 1) := by decide +kernel
theorem dX6_grafted_53 : decode cX6_grafted 53 = .ok (.invokevirtual 92, 3) := by decide +kernel
theorem dX6_grafted_56 : decode cX6_grafted 56 = .ok (.ireturn, 1) := by decide +kernel
theorem dX6_grafted_57 : decode cX6_grafted 57 = .ok (.aload_n 0, 1) := by decide +kernel
theorem dX6_grafted_58 : decode cX6_grafted 58 = .ok (.aload_n 0, 1) := by decide +kernel
theorem dX6_grafted_59 : decode cX6_grafted 59 = .ok (.iload_n 1, 1) := by decide +kernel
theorem dX6_grafted_60 : decode cX6_grafted 60 = .ok (.iload_n 2, 1) := by decide +kernel
theorem dX6_grafted_61 : decode cX6_grafted 61 = .ok (.iload_n 3, 1) := by decide +kernel
theorem dX6_grafted_62 : decode cX6_grafted 62 = .ok (.invokevirtual 189, 3) := by decide +kernel
theorem dX6_grafted_65 : decode cX6_grafted 65 = .ok (.invokevirtual 107, 3) := by decide +kernel
theorem dX6_grafted_68 : decode cX6_grafted 68 = .ok (.ireturn, 1) := by decide +kernel
def f_X6_grafted : am_F := am_th (i_al 0) (am_th (i_il 1) (am_th (i_cv 6 1 d_X6_isQuarrel) (am_br (b_1 (fun x => decide (x = 0))) (am_th (i_al 0) (am_th (i_ic (1)) (am_th (i_cv 6 1 d_X6_refuse) (r_i)))) (am_th (i_al 0) (am_th (i_il 2) (am_th (i_cv 6 1 d_X6_isQuarrel) (am_br (b_1 (fun x => decide (¬ x = 0))) (am_th (i_il 3) (am_th (i_cs 1 d_X6_isSpan) (am_br (b_1 (fun x => decide (¬ x = 0))) (am_th (i_al 0) (am_th (i_gr 6 6) (am_th (i_al 0) (am_th (i_gr 6 3) (am_th (i_il 1) (am_th (i_il 2) (am_th (i_cv 2 3 d_X2_oddsOf) (am_br (b_1 (fun x => decide (¬ x = 0))) (am_th (i_al 0) (am_th (i_al 0) (am_th (i_il 1) (am_th (i_il 2) (am_th (i_il 3) (am_th (i_cv 6 3 d_X6_fallenBehindGraft) (am_th (i_cv 6 1 d_X6_answer) (r_i)))))))) (am_th (i_al 0) (am_th (i_ic (5)) (am_th (i_cv 6 1 d_X6_refuse) (r_i)))))))))))) (am_th (i_al 0) (am_th (i_ic (2)) (am_th (i_cv 6 1 d_X6_refuse) (r_i))))))) (am_th (i_al 0) (am_th (i_ic (1)) (am_th (i_cv 6 1 d_X6_refuse) (r_i)))))))))))
def d_X6_grafted : am_D := am_den 4 f_X6_grafted
set_option maxHeartbeats 4000000 in
set_option maxRecDepth 100000 in
theorem b_X6_grafted : am_Body yX6_grafted cX6_grafted 4 (some .int) 7 155 f_X6_grafted := by
  intro p l e R s m args below meth c g n0 z0 r0 u0 C hr hn
  have C : am_Cx p l e R s m args below meth c g RX6 cX6_grafted 4 n0 z0 (am_len u0) (am_wt u0) 7 155 := C
  unfold f_X6_grafted
  exact (so_th (so_aload_n C dX6_grafted_0 rfl) (so_th (so_iload_n C dX6_grafted_1 rfl) (so_th (so_cv C m_X6_isQuarrel rfl k_317 k_319 k_318 k_320 k_5 ⟨by decide, by decide, by decide +kernel⟩ (by decide) dX6_grafted_2) (so_br (so_if_eq C dX6_grafted_5 (by decide)) (so_th (so_aload_n C dX6_grafted_16 rfl) (so_th (so_iconst C dX6_grafted_17 (by decide)) (so_th (so_cv C m_X6_refuse rfl k_297 k_299 k_298 k_300 k_5 ⟨by decide, by decide, by decide +kernel⟩ (by decide) dX6_grafted_18) (so_ri C hr dX6_grafted_21)))) (so_th (so_aload_n C dX6_grafted_8 rfl) (so_th (so_iload_n C dX6_grafted_9 rfl) (so_th (so_cv C m_X6_isQuarrel rfl k_317 k_319 k_318 k_320 k_5 ⟨by decide, by decide, by decide +kernel⟩ (by decide) dX6_grafted_10) (so_br (so_if_ne C dX6_grafted_13 (by decide)) (so_th (so_iload_n C dX6_grafted_22 rfl) (so_th (so_cs C m_X6_isSpan k_338 k_340 k_339 k_5 ⟨by decide, by decide, by decide +kernel⟩ (by decide) dX6_grafted_23) (so_br (so_if_ne C dX6_grafted_26 (by decide)) (so_th (so_aload_n C dX6_grafted_35 rfl) (so_th (so_getr C fl_RX6_41 dX6_grafted_36) (so_th (so_aload_n C dX6_grafted_39 rfl) (so_th (so_getr C fl_RX6_27 dX6_grafted_40) (so_th (so_iload_n C dX6_grafted_43 rfl) (so_th (so_iload_n C dX6_grafted_44 rfl) (so_th (so_cv C m_X2_oddsOf rfl k_91 k_370 k_92 k_94 k_40 ⟨by decide, by decide, by decide +kernel⟩ (by decide) dX6_grafted_45) (so_br (so_if_ne C dX6_grafted_48 (by decide)) (so_th (so_aload_n C dX6_grafted_57 rfl) (so_th (so_aload_n C dX6_grafted_58 rfl) (so_th (so_iload_n C dX6_grafted_59 rfl) (so_th (so_iload_n C dX6_grafted_60 rfl) (so_th (so_iload_n C dX6_grafted_61 rfl) (so_th (so_cv C m_X6_fallenBehindGraft rfl k_372 k_374 k_373 k_375 k_5 ⟨by decide, by decide, by decide +kernel⟩ (by decide) dX6_grafted_62) (so_th (so_cv C m_X6_answer rfl k_306 k_308 k_307 k_309 k_5 ⟨by decide, by decide, by decide +kernel⟩ (by decide) dX6_grafted_65) (so_ri C hr dX6_grafted_68)))))))) (so_th (so_aload_n C dX6_grafted_51 rfl) (so_th (so_iconst C dX6_grafted_52 (by decide)) (so_th (so_cv C m_X6_refuse rfl k_297 k_299 k_298 k_300 k_5 ⟨by decide, by decide, by decide +kernel⟩ (by decide) dX6_grafted_53) (so_ri C hr dX6_grafted_56)))))))))))) (so_th (so_aload_n C dX6_grafted_29 rfl) (so_th (so_iconst C dX6_grafted_30 (by decide)) (so_th (so_cv C m_X6_refuse rfl k_297 k_299 k_298 k_300 k_5 ⟨by decide, by decide, by decide +kernel⟩ (by decide) dX6_grafted_31) (so_ri C hr dX6_grafted_34))))))) (so_th (so_aload_n C dX6_grafted_16 rfl) (so_th (so_iconst C dX6_grafted_17 (by decide)) (so_th (so_cv C m_X6_refuse rfl k_297 k_299 k_298 k_300 k_5 ⟨by decide, by decide, by decide +kernel⟩ (by decide) dX6_grafted_18) (so_ri C hr dX6_grafted_21))))))))))))
theorem m_X6_grafted : am_M yX6_grafted cX6_grafted 4 (some .int) 7 155 d_X6_grafted := am_M_of (by decide +kernel) b_X6_grafted
theorem dX6_bestGraft_0 : decode cX6_bestGraft 0 = .ok (.aload_n 0, 1) := by decide +kernel
theorem dX6_bestGraft_1 : decode cX6_bestGraft 1 = .ok (.getfield 34, 3) := by decide +kernel
theorem dX6_bestGraft_4 : decode cX6_bestGraft 4 = .ok (.ifCond .ne 9, 3) := by decide +kernel
theorem dX6_bestGraft_7 : decode cX6_bestGraft 7 = .ok (.aload_n 0, 1) := by decide +kernel
theorem dX6_bestGraft_8 : decode cX6_bestGraft 8 = .ok (.iconst 1, 1) := by decide +kernel
theorem dX6_bestGraft_9 : decode cX6_bestGraft 9 = .ok (.invokevirtual 92, 3) := by decide +kernel
theorem dX6_bestGraft_12 : decode cX6_bestGraft 12 = .ok (.ireturn, 1) := by decide +kernel
theorem dX6_bestGraft_13 : decode cX6_bestGraft 13 = .ok (.iload_n 1, 1) := by decide +kernel
theorem dX6_bestGraft_14 : decode cX6_bestGraft 14 = .ok (.invokestatic 142, 3) := by decide +kernel
theorem dX6_bestGraft_17 : decode cX6_bestGraft 17 = .ok (.ifCond .ne 9, 3) := by decide +kernel
theorem dX6_bestGraft_20 : decode cX6_bestGraft 20 = .ok (.aload_n 0, 1) := by decide +kernel
theorem dX6_bestGraft_21 : decode cX6_bestGraft 21 = .ok (.iconst 2, 1) := by decide +kernel
theorem dX6_bestGraft_22 : decode cX6_bestGraft 22 = .ok (.invokevirtual 92, 3) := by decide +kernel
theorem dX6_bestGraft_25 : decode cX6_bestGraft 25 = .ok (.ireturn, 1) := by decide +kernel
theorem dX6_bestGraft_26 : decode cX6_bestGraft 26 = .ok (.aload_n 0, 1) := by decide +kernel
theorem dX6_bestGraft_27 : decode cX6_bestGraft 27 = .ok (.iload_n 1, 1) := by decide +kernel
theorem dX6_bestGraft_28 : decode cX6_bestGraft 28 = .ok (.invokevirtual 162, 3) := by decide +kernel
theorem dX6_bestGraft_31 : decode cX6_bestGraft 31 = .ok (.istore_n 2, 1) := by decide +kernel
theorem dX6_bestGraft_32 : decode cX6_bestGraft 32 = .ok (.bipush (-2), 2) := by decide +kernel
theorem dX6_bestGraft_34 : decode cX6_bestGraft 34 = .ok (.istore_n 3, 1) := by decide +kernel
theorem dX6_bestGraft_35 : decode cX6_bestGraft 35 = .ok (.iconst 0, 1) := by decide +kernel
theorem dX6_bestGraft_36 : decode cX6_bestGraft 36 = .ok (.istore 4, 2) := by decide +kernel
theorem dX6_bestGraft_38 : decode cX6_bestGraft 38 = .ok (.iload 4, 2) := by decide +kernel
theorem dX6_bestGraft_40 : decode cX6_bestGraft 40 = .ok (.aload_n 0, 1) := by decide +kernel
theorem dX6_bestGraft_41 : decode cX6_bestGraft 41 = .ok (.getfield 27, 3) := by decide +kernel
theorem dX6_bestGraft_44 : decode cX6_bestGraft 44 = .ok (.getfield 104, 3) := by decide +kernel
theorem dX6_bestGraft_47 : decode cX6_bestGraft 47 = .ok (.if_icmp .ge 77, 3) := by decide +kernel
theorem dX6_bestGraft_50 : decode cX6_bestGraft 50 = .ok (.iconst 0, 1) := by decide +kernel
theorem dX6_bestGraft_51 : decode cX6_bestGraft 51 = .ok (.istore 5, 2) := by decide +kernel
theorem dX6_bestGraft_53 : decode cX6_bestGraft 53 = .ok (.iload 5, 2) := by decide +kernel
theorem dX6_bestGraft_55 : decode cX6_bestGraft 55 = .ok (.aload_n 0, 1) := by decide +kernel
theorem dX6_bestGraft_56 : decode cX6_bestGraft 56 = .ok (.getfield 27, 3) := by decide +kernel
theorem dX6_bestGraft_59 : decode cX6_bestGraft 59 = .ok (.getfield 104, 3) := by decide +kernel
theorem dX6_bestGraft_62 : decode cX6_bestGraft 62 = .ok (.if_icmp .ge 56, 3) := by decide +kernel
theorem dX6_bestGraft_65 : decode cX6_bestGraft 65 = .ok (.aload_n 0, 1) := by decide +kernel
theorem dX6_bestGraft_66 : decode cX6_bestGraft 66 = .ok (.getfield 41, 3) := by decide +kernel
theorem dX6_bestGraft_69 : decode cX6_bestGraft 69 = .ok (.aload_n 0, 1) := by decide +kernel
theorem dX6_bestGraft_70 : decode cX6_bestGraft 70 = .ok (.getfield 27, 3) := by decide +kernel
theorem dX6_bestGraft_73 : decode cX6_bestGraft 73 = .ok (.iload 4, 2) := by decide +kernel
theorem dX6_bestGraft_75 : decode cX6_bestGraft 75 = .ok (.iload 5, 2) := by decide +kernel
theorem dX6_bestGraft_77 : decode cX6_bestGraft 77 = .ok (.invokevirtual 185, 3) := by decide +kernel
theorem dX6_bestGraft_80 : decode cX6_bestGraft 80 = .ok (.ifCond .le 32, 3) := by decide +kernel
theorem dX6_bestGraft_83 : decode cX6_bestGraft 83 = .ok (.aload_n 0, 1) := by decide +kernel
theorem dX6_bestGraft_84 : decode cX6_bestGraft 84 = .ok (.iload 4, 2) := by decide +kernel
theorem dX6_bestGraft_86 : decode cX6_bestGraft 86 = .ok (.iload 5, 2) := by decide +kernel
theorem dX6_bestGraft_88 : decode cX6_bestGraft 88 = .ok (.iload_n 1, 1) := by decide +kernel
theorem dX6_bestGraft_89 : decode cX6_bestGraft 89 = .ok (.invokevirtual 189, 3) := by decide +kernel
theorem dX6_bestGraft_92 : decode cX6_bestGraft 92 = .ok (.istore 6, 2) := by decide +kernel
theorem dX6_bestGraft_94 : decode cX6_bestGraft 94 = .ok (.iload 6, 2) := by decide +kernel
theorem dX6_bestGraft_96 : decode cX6_bestGraft 96 = .ok (.iload_n 2, 1) := by decide +kernel
theorem dX6_bestGraft_97 : decode cX6_bestGraft 97 = .ok (.if_icmp .ge 15, 3) := by decide +kernel
theorem dX6_bestGraft_100 : decode cX6_bestGraft 100 = .ok (.iload 6, 2) := by decide +kernel
theorem dX6_bestGraft_102 : decode cX6_bestGraft 102 = .ok (.istore_n 2, 1) := by decide +kernel
theorem dX6_bestGraft_103 : decode cX6_bestGraft 103 = .ok (.bipush 10, 2) := by decide +kernel
theorem dX6_bestGraft_105 : decode cX6_bestGraft 105 = .ok (.iload 4, 2) := by decide +kernel
theorem dX6_bestGraft_107 : decode cX6_bestGraft 107 = .ok (.imul, 1) := by decide +kernel
theorem dX6_bestGraft_108 : decode cX6_bestGraft 108 = .ok (.iload 5, 2) := by decide +kernel
theorem dX6_bestGraft_110 : decode cX6_bestGraft 110 = .ok (.iadd, 1) := by decide +kernel
theorem dX6_bestGraft_111 : decode cX6_bestGraft 111 = .ok (.istore_n 3, 1) := by decide +kernel
theorem dX6_bestGraft_112 : decode cX6_bestGraft 112 = .ok (.iinc 5 1, 3) := by decide +kernel
theorem dX6_bestGraft_115 : decode cX6_bestGraft 115 = .ok (.goto (-62), 3) := by decide +kernel
theorem dX6_bestGraft_118 : decode cX6_bestGraft 118 = .ok (.iinc 4 1, 3) := by decide +kernel
theorem dX6_bestGraft_121 : decode cX6_bestGraft 121 = .ok (.goto (-83), 3) := by decide +kernel
theorem dX6_bestGraft_124 : decode cX6_bestGraft 124 = .ok (.aload_n 0, 1) := by decide +kernel
theorem dX6_bestGraft_125 : decode cX6_bestGraft 125 = .ok (.iload_n 3, 1) := by decide +kernel
theorem dX6_bestGraft_126 : decode cX6_bestGraft 126 = .ok (.invokevirtual 107, 3) := by decide +kernel
theorem dX6_bestGraft_129 : decode cX6_bestGraft 129 = .ok (.ireturn, 1) := by decide +kernel
def f_X6_bestGraft_l53 : am_F := am_th (i_il 5) (am_th (i_al 0) (am_th (i_gr 6 3) (am_th (i_gi 5 3) (am_br (b_2 (fun x y => decide (y ≤ x))) (am_th (i_inc 4 (1)) (am_to 38)) (am_th (i_al 0) (am_th (i_gr 6 6) (am_th (i_al 0) (am_th (i_gr 6 3) (am_th (i_il 4) (am_th (i_il 5) (am_th (i_cv 2 3 d_X2_oddsOf) (am_sq 112 (am_br (b_1 (fun x => decide (x ≤ 0))) (am_to 112) (am_th (i_al 0) (am_th (i_il 4) (am_th (i_il 5) (am_th (i_il 1) (am_th (i_cv 6 3 d_X6_fallenBehindGraft) (am_th (i_is 6) (am_th (i_il 6) (am_th (i_il 2) (am_br (b_2 (fun x y => decide (y ≤ x))) (am_to 112) (am_th (i_il 6) (am_th (i_is 2) (am_th (i_ic (10)) (am_th (i_il 4) (am_th (i_2 (fun x y => x * y)) (am_th (i_il 5) (am_th (i_2 (fun x y => x + y)) (am_th (i_is 3) (am_to 112))))))))))))))))))) (am_th (i_inc 5 (1)) (am_to 53))))))))))))))
def f_X6_bestGraft_l38 : am_F := am_th (i_il 4) (am_th (i_al 0) (am_th (i_gr 6 3) (am_th (i_gi 5 3) (am_br (b_2 (fun x y => decide (y ≤ x))) (am_to 124) (am_th (i_ic (0)) (am_th (i_is 5) (am_lp 5000 53 f_X6_bestGraft_l53)))))))
def f_X6_bestGraft : am_F := am_th (i_al 0) (am_th (i_gi 6 5) (am_br (b_1 (fun x => decide (¬ x = 0))) (am_th (i_il 1) (am_th (i_cs 1 d_X6_isSpan) (am_br (b_1 (fun x => decide (¬ x = 0))) (am_th (i_al 0) (am_th (i_il 1) (am_th (i_cv 6 1 d_X6_fallenFromNow) (am_th (i_is 2) (am_th (i_ic (-2)) (am_th (i_is 3) (am_th (i_ic (0)) (am_th (i_is 4) (am_sq 124 (am_lp 5000 38 f_X6_bestGraft_l38) (am_th (i_al 0) (am_th (i_il 3) (am_th (i_cv 6 1 d_X6_answer) (r_i))))))))))))) (am_th (i_al 0) (am_th (i_ic (2)) (am_th (i_cv 6 1 d_X6_refuse) (r_i))))))) (am_th (i_al 0) (am_th (i_ic (1)) (am_th (i_cv 6 1 d_X6_refuse) (r_i))))))
def d_X6_bestGraft : am_D := am_den 7 f_X6_bestGraft
set_option maxHeartbeats 4000000 in
set_option maxRecDepth 100000 in
theorem b_X6_bestGraft : am_Body yX6_bestGraft cX6_bestGraft 7 (some .int) 7 155 f_X6_bestGraft := by
  intro p l e R s m args below meth c g n0 z0 r0 u0 C hr hn
  have C : am_Cx p l e R s m args below meth c g RX6 cX6_bestGraft 7 n0 z0 (am_len u0) (am_wt u0) 7 155 := C
  have l53 : am_Snd (am_GM p l e R s m args below meth c g 7 n0 z0 r0 u0) (am_Rt r0 u0) 53 (f_X6_bestGraft_l53) := by
    unfold f_X6_bestGraft_l53
    exact (so_th (so_iload C dX6_bestGraft_53) (so_th (so_aload_n C dX6_bestGraft_55 rfl) (so_th (so_getr C fl_RX6_27 dX6_bestGraft_56) (so_th (so_geti C fl_RX6_104 (by decide) dX6_bestGraft_59) (so_br (so_icmp_ge C dX6_bestGraft_62 (by decide)) (so_th (so_iinc C dX6_bestGraft_118 (by decide) (by decide)) (so_goto C dX6_bestGraft_121 (by decide) (so_to))) (so_th (so_aload_n C dX6_bestGraft_65 rfl) (so_th (so_getr C fl_RX6_41 dX6_bestGraft_66) (so_th (so_aload_n C dX6_bestGraft_69 rfl) (so_th (so_getr C fl_RX6_27 dX6_bestGraft_70) (so_th (so_iload C dX6_bestGraft_73) (so_th (so_iload C dX6_bestGraft_75) (so_th (so_cv C m_X2_oddsOf rfl k_91 k_370 k_92 k_94 k_40 ⟨by decide, by decide, by decide +kernel⟩ (by decide) dX6_bestGraft_77) (so_sq (so_br (so_if_le C dX6_bestGraft_80 (by decide)) (so_to) (so_th (so_aload_n C dX6_bestGraft_83 rfl) (so_th (so_iload C dX6_bestGraft_84) (so_th (so_iload C dX6_bestGraft_86) (so_th (so_iload_n C dX6_bestGraft_88 rfl) (so_th (so_cv C m_X6_fallenBehindGraft rfl k_372 k_374 k_373 k_375 k_5 ⟨by decide, by decide, by decide +kernel⟩ (by decide) dX6_bestGraft_89) (so_th (so_istore C dX6_bestGraft_92 (by decide)) (so_th (so_iload C dX6_bestGraft_94) (so_th (so_iload_n C dX6_bestGraft_96 rfl) (so_br (so_icmp_ge C dX6_bestGraft_97 (by decide)) (so_to) (so_th (so_iload C dX6_bestGraft_100) (so_th (so_istore_n C dX6_bestGraft_102 rfl (by decide)) (so_th (so_bipush C dX6_bestGraft_103 (by decide)) (so_th (so_iload C dX6_bestGraft_105) (so_th (so_imul C dX6_bestGraft_107) (so_th (so_iload C dX6_bestGraft_108) (so_th (so_iadd C dX6_bestGraft_110) (so_th (so_istore_n C dX6_bestGraft_111 rfl (by decide)) (so_to))))))))))))))))))) (so_th (so_iinc C dX6_bestGraft_112 (by decide) (by decide)) (so_goto C dX6_bestGraft_115 (by decide) (so_to))))))))))))))))
  have l38 : am_Snd (am_GM p l e R s m args below meth c g 7 n0 z0 r0 u0) (am_Rt r0 u0) 38 (f_X6_bestGraft_l38) := by
    unfold f_X6_bestGraft_l38
    exact (so_th (so_iload C dX6_bestGraft_38) (so_th (so_aload_n C dX6_bestGraft_40 rfl) (so_th (so_getr C fl_RX6_27 dX6_bestGraft_41) (so_th (so_geti C fl_RX6_104 (by decide) dX6_bestGraft_44) (so_br (so_icmp_ge C dX6_bestGraft_47 (by decide)) (so_to) (so_th (so_iconst C dX6_bestGraft_50 (by decide)) (so_th (so_istore C dX6_bestGraft_51 (by decide)) (so_lp l53 5000))))))))
  unfold f_X6_bestGraft
  exact (so_th (so_aload_n C dX6_bestGraft_0 rfl) (so_th (so_geti C fl_RX6_34 (by decide) dX6_bestGraft_1) (so_br (so_if_ne C dX6_bestGraft_4 (by decide)) (so_th (so_iload_n C dX6_bestGraft_13 rfl) (so_th (so_cs C m_X6_isSpan k_338 k_340 k_339 k_5 ⟨by decide, by decide, by decide +kernel⟩ (by decide) dX6_bestGraft_14) (so_br (so_if_ne C dX6_bestGraft_17 (by decide)) (so_th (so_aload_n C dX6_bestGraft_26 rfl) (so_th (so_iload_n C dX6_bestGraft_27 rfl) (so_th (so_cv C m_X6_fallenFromNow rfl k_350 k_352 k_351 k_353 k_5 ⟨by decide, by decide, by decide +kernel⟩ (by decide) dX6_bestGraft_28) (so_th (so_istore_n C dX6_bestGraft_31 rfl (by decide)) (so_th (so_bipush C dX6_bestGraft_32 (by decide)) (so_th (so_istore_n C dX6_bestGraft_34 rfl (by decide)) (so_th (so_iconst C dX6_bestGraft_35 (by decide)) (so_th (so_istore C dX6_bestGraft_36 (by decide)) (so_sq (so_lp l38 5000) (so_th (so_aload_n C dX6_bestGraft_124 rfl) (so_th (so_iload_n C dX6_bestGraft_125 rfl) (so_th (so_cv C m_X6_answer rfl k_306 k_308 k_307 k_309 k_5 ⟨by decide, by decide, by decide +kernel⟩ (by decide) dX6_bestGraft_126) (so_ri C hr dX6_bestGraft_129))))))))))))) (so_th (so_aload_n C dX6_bestGraft_20 rfl) (so_th (so_iconst C dX6_bestGraft_21 (by decide)) (so_th (so_cv C m_X6_refuse rfl k_297 k_299 k_298 k_300 k_5 ⟨by decide, by decide, by decide +kernel⟩ (by decide) dX6_bestGraft_22) (so_ri C hr dX6_bestGraft_25))))))) (so_th (so_aload_n C dX6_bestGraft_7 rfl) (so_th (so_iconst C dX6_bestGraft_8 (by decide)) (so_th (so_cv C m_X6_refuse rfl k_297 k_299 k_298 k_300 k_5 ⟨by decide, by decide, by decide +kernel⟩ (by decide) dX6_bestGraft_9) (so_ri C hr dX6_bestGraft_12)))))))
theorem m_X6_bestGraft : am_M yX6_bestGraft cX6_bestGraft 7 (some .int) 7 155 d_X6_bestGraft := am_M_of (by decide +kernel) b_X6_bestGraft
theorem dX6_makePlan_0 : decode cX6_makePlan 0 = .ok (.aload_n 0, 1) := by decide +kernel
theorem dX6_makePlan_1 : decode cX6_makePlan 1 = .ok (.getfield 75, 3) := by decide +kernel
theorem dX6_makePlan_4 : decode cX6_makePlan 4 = .ok (.ifCond .ne 23, 3) := by decide +kernel
theorem dX6_makePlan_7 : decode cX6_makePlan 7 = .ok (.aload_n 0, 1) := by decide +kernel
theorem dX6_makePlan_8 : decode cX6_makePlan 8 = .ok (.getfield 71, 3) := by decide +kernel
theorem dX6_makePlan_11 : decode cX6_makePlan 11 = .ok (.aload_n 0, 1) := by decide +kernel
theorem dX6_makePlan_12 : decode cX6_makePlan 12 = .ok (.getfield 27, 3) := by decide +kernel
theorem dX6_makePlan_15 : decode cX6_makePlan 15 = .ok (.aload_n 0, 1) := by decide +kernel
theorem dX6_makePlan_16 : decode cX6_makePlan 16 = .ok (.getfield 41, 3) := by decide +kernel
theorem dX6_makePlan_19 : decode cX6_makePlan 19 = .ok (.invokevirtual 323, 3) := by decide +kernel
theorem dX6_makePlan_22 : decode cX6_makePlan 22 = .ok (.aload_n 0, 1) := by decide +kernel
theorem dX6_makePlan_23 : decode cX6_makePlan 23 = .ok (.iconst 1, 1) := by decide +kernel
theorem dX6_makePlan_24 : decode cX6_makePlan 24 = .ok (.putfield 75, 3) := by decide +kernel
theorem dX6_makePlan_27 : decode cX6_makePlan 27 = .ok (.return_, 1) := by decide +kernel
def f_X6_makePlan : am_F := am_th (i_al 0) (am_th (i_gi 6 14) (am_br (b_1 (fun x => decide (¬ x = 0))) (r_v) (am_th (i_al 0) (am_th (i_gr 6 13) (am_th (i_al 0) (am_th (i_gr 6 3) (am_th (i_al 0) (am_th (i_gr 6 6) (am_th (i_cv 3 2 d_X3_seek) (am_th (i_al 0) (am_th (i_ic (1)) (am_th (i_pz 6 14) (r_v)))))))))))))
def d_X6_makePlan : am_D := am_den 1 f_X6_makePlan
set_option maxHeartbeats 4000000 in
set_option maxRecDepth 100000 in
theorem b_X6_makePlan : am_Body yX6_makePlan cX6_makePlan 1 none 13 332 f_X6_makePlan := by
  intro p l e R s m args below meth c g n0 z0 r0 u0 C hr hn
  have C : am_Cx p l e R s m args below meth c g RX6 cX6_makePlan 1 n0 z0 (am_len u0) (am_wt u0) 13 332 := C
  unfold f_X6_makePlan
  exact (so_th (so_aload_n C dX6_makePlan_0 rfl) (so_th (so_geti C fl_RX6_75 (by decide) dX6_makePlan_1) (so_br (so_if_ne C dX6_makePlan_4 (by decide)) (so_rv C hr dX6_makePlan_27) (so_th (so_aload_n C dX6_makePlan_7 rfl) (so_th (so_getr C fl_RX6_71 dX6_makePlan_8) (so_th (so_aload_n C dX6_makePlan_11 rfl) (so_th (so_getr C fl_RX6_27 dX6_makePlan_12) (so_th (so_aload_n C dX6_makePlan_15 rfl) (so_th (so_getr C fl_RX6_41 dX6_makePlan_16) (so_th (so_cv C m_X3_seek rfl k_376 k_378 k_377 k_379 k_113 ⟨by decide, by decide, by decide +kernel⟩ (by decide) dX6_makePlan_19) (so_th (so_aload_n C dX6_makePlan_22 rfl) (so_th (so_iconst C dX6_makePlan_23 (by decide)) (so_th (so_putz C fl_RX6_75 fp_6 (Or.inl rfl) dX6_makePlan_24) (so_rv C hr dX6_makePlan_27))))))))))))))
theorem m_X6_makePlan : am_M yX6_makePlan cX6_makePlan 1 none 13 332 d_X6_makePlan := am_M_of (by decide +kernel) b_X6_makePlan
theorem dX6_left_0 : decode cX6_left 0 = .ok (.aload_n 0, 1) := by decide +kernel
theorem dX6_left_1 : decode cX6_left 1 = .ok (.getfield 34, 3) := by decide +kernel
theorem dX6_left_4 : decode cX6_left 4 = .ok (.ifCond .ne 9, 3) := by decide +kernel
theorem dX6_left_7 : decode cX6_left 7 = .ok (.aload_n 0, 1) := by decide +kernel
theorem dX6_left_8 : decode cX6_left 8 = .ok (.iconst 1, 1) := by decide +kernel
theorem dX6_left_9 : decode cX6_left 9 = .ok (.invokevirtual 92, 3) := by decide +kernel
theorem dX6_left_12 : decode cX6_left 12 = .ok (.ireturn, 1) := by decide +kernel
theorem dX6_left_13 : decode cX6_left 13 = .ok (.aload_n 0, 1) := by decide +kernel
theorem dX6_left_14 : decode cX6_left 14 = .ok (.invokevirtual 193, 3) := by decide +kernel
theorem dX6_left_17 : decode cX6_left 17 = .ok (.aload_n 0, 1) := by decide +kernel
theorem dX6_left_18 : decode cX6_left 18 = .ok (.aload_n 0, 1) := by decide +kernel
theorem dX6_left_19 : decode cX6_left 19 = .ok (.getfield 41, 3) := by decide +kernel
theorem dX6_left_22 : decode cX6_left 22 = .ok (.aload_n 0, 1) := by decide +kernel
theorem dX6_left_23 : decode cX6_left 23 = .ok (.getfield 27, 3) := by decide +kernel
theorem dX6_left_26 : decode cX6_left 26 = .ok (.invokevirtual 139, 3) := by decide +kernel
theorem dX6_left_29 : decode cX6_left 29 = .ok (.aload_n 0, 1) := by decide +kernel
theorem dX6_left_30 : decode cX6_left 30 = .ok (.getfield 71, 3) := by decide +kernel
theorem dX6_left_33 : decode cX6_left 33 = .ok (.getfield 196, 3) := by decide +kernel
theorem dX6_left_36 : decode cX6_left 36 = .ok (.isub, 1) := by decide +kernel
theorem dX6_left_37 : decode cX6_left 37 = .ok (.invokevirtual 107, 3) := by decide +kernel
theorem dX6_left_40 : decode cX6_left 40 = .ok (.ireturn, 1) := by decide +kernel
def f_X6_left : am_F := am_th (i_al 0) (am_th (i_gi 6 5) (am_br (b_1 (fun x => decide (¬ x = 0))) (am_th (i_al 0) (am_th (i_cv 6 0 d_X6_makePlan) (am_th (i_al 0) (am_th (i_al 0) (am_th (i_gr 6 6) (am_th (i_al 0) (am_th (i_gr 6 3) (am_th (i_cv 2 1 d_X2_standing) (am_th (i_al 0) (am_th (i_gr 6 13) (am_th (i_gi 3 8) (am_th (i_2 (fun x y => x - y)) (am_th (i_cv 6 1 d_X6_answer) (r_i)))))))))))))) (am_th (i_al 0) (am_th (i_ic (1)) (am_th (i_cv 6 1 d_X6_refuse) (r_i))))))
def d_X6_left : am_D := am_den 1 f_X6_left
set_option maxHeartbeats 4000000 in
set_option maxRecDepth 100000 in
theorem b_X6_left : am_Body yX6_left cX6_left 1 (some .int) 14 352 f_X6_left := by
  intro p l e R s m args below meth c g n0 z0 r0 u0 C hr hn
  have C : am_Cx p l e R s m args below meth c g RX6 cX6_left 1 n0 z0 (am_len u0) (am_wt u0) 14 352 := C
  unfold f_X6_left
  exact (so_th (so_aload_n C dX6_left_0 rfl) (so_th (so_geti C fl_RX6_34 (by decide) dX6_left_1) (so_br (so_if_ne C dX6_left_4 (by decide)) (so_th (so_aload_n C dX6_left_13 rfl) (so_th (so_cv C m_X6_makePlan rfl k_380 k_382 k_381 k_383 k_5 ⟨by decide, by decide, by decide +kernel⟩ (by decide) dX6_left_14) (so_th (so_aload_n C dX6_left_17 rfl) (so_th (so_aload_n C dX6_left_18 rfl) (so_th (so_getr C fl_RX6_41 dX6_left_19) (so_th (so_aload_n C dX6_left_22 rfl) (so_th (so_getr C fl_RX6_27 dX6_left_23) (so_th (so_cv C m_X2_standing rfl k_332 k_334 k_333 k_335 k_40 ⟨by decide, by decide, by decide +kernel⟩ (by decide) dX6_left_26) (so_th (so_aload_n C dX6_left_29 rfl) (so_th (so_getr C fl_RX6_71 dX6_left_30) (so_th (so_geti C fl_RX6_196 (by decide) dX6_left_33) (so_th (so_isub C dX6_left_36) (so_th (so_cv C m_X6_answer rfl k_306 k_308 k_307 k_309 k_5 ⟨by decide, by decide, by decide +kernel⟩ (by decide) dX6_left_37) (so_ri C hr dX6_left_40)))))))))))))) (so_th (so_aload_n C dX6_left_7 rfl) (so_th (so_iconst C dX6_left_8 (by decide)) (so_th (so_cv C m_X6_refuse rfl k_297 k_299 k_298 k_300 k_5 ⟨by decide, by decide, by decide +kernel⟩ (by decide) dX6_left_9) (so_ri C hr dX6_left_12)))))))
theorem m_X6_left : am_M yX6_left cX6_left 1 (some .int) 14 352 d_X6_left := am_M_of (by decide +kernel) b_X6_left
theorem dX6_surest_0 : decode cX6_surest 0 = .ok (.aload_n 0, 1) := by decide +kernel
theorem dX6_surest_1 : decode cX6_surest 1 = .ok (.getfield 34, 3) := by decide +kernel
theorem dX6_surest_4 : decode cX6_surest 4 = .ok (.ifCond .ne 10, 3) := by decide +kernel
theorem dX6_surest_7 : decode cX6_surest 7 = .ok (.aload_n 0, 1) := by decide +kernel
theorem dX6_surest_8 : decode cX6_surest 8 = .ok (.iconst 1, 1) := by decide +kernel
theorem dX6_surest_9 : decode cX6_surest 9 = .ok (.invokevirtual 92, 3) := by decide +kernel
theorem dX6_surest_12 : decode cX6_surest 12 = .ok (.i2l, 1) := by decide +kernel
theorem dX6_surest_13 : decode cX6_surest 13 = .ok (.lreturn, 1) := by decide +kernel
theorem dX6_surest_14 : decode cX6_surest 14 = .ok (.aload_n 0, 1) := by decide +kernel
theorem dX6_surest_15 : decode cX6_surest 15 = .ok (.invokevirtual 193, 3) := by decide +kernel
theorem dX6_surest_18 : decode cX6_surest 18 = .ok (.aload_n 0, 1) := by decide +kernel
theorem dX6_surest_19 : decode cX6_surest 19 = .ok (.iconst 0, 1) := by decide +kernel
theorem dX6_surest_20 : decode cX6_surest 20 = .ok (.invokevirtual 107, 3) := by decide +kernel
theorem dX6_surest_23 : decode cX6_surest 23 = .ok (.pop, 1) := by decide +kernel
theorem dX6_surest_24 : decode cX6_surest 24 = .ok (.aload_n 0, 1) := by decide +kernel
theorem dX6_surest_25 : decode cX6_surest 25 = .ok (.getfield 71, 3) := by decide +kernel
theorem dX6_surest_28 : decode cX6_surest 28 = .ok (.iload_n 1, 1) := by decide +kernel
theorem dX6_surest_29 : decode cX6_surest 29 = .ok (.invokevirtual 199, 3) := by decide +kernel
theorem dX6_surest_32 : decode cX6_surest 32 = .ok (.lreturn, 1) := by decide +kernel
def f_X6_surest : am_F := am_th (i_al 0) (am_th (i_gi 6 5) (am_br (b_1 (fun x => decide (¬ x = 0))) (am_th (i_al 0) (am_th (i_cv 6 0 d_X6_makePlan) (am_th (i_al 0) (am_th (i_ic (0)) (am_th (i_cv 6 1 d_X6_answer) (am_th (i_pop) (am_th (i_al 0) (am_th (i_gr 6 13) (am_th (i_il 1) (am_th (i_cv 3 1 d_X3_partOfLikelihood) (r_l))))))))))) (am_th (i_al 0) (am_th (i_ic (1)) (am_th (i_cv 6 1 d_X6_refuse) (am_th (i_i2l) (r_l)))))))
def d_X6_surest : am_D := am_den 2 f_X6_surest
set_option maxHeartbeats 4000000 in
set_option maxRecDepth 100000 in
theorem b_X6_surest : am_Body yX6_surest cX6_surest 2 (some .long) 14 352 f_X6_surest := by
  intro p l e R s m args below meth c g n0 z0 r0 u0 C hr hn
  have C : am_Cx p l e R s m args below meth c g RX6 cX6_surest 2 n0 z0 (am_len u0) (am_wt u0) 14 352 := C
  unfold f_X6_surest
  exact (so_th (so_aload_n C dX6_surest_0 rfl) (so_th (so_geti C fl_RX6_34 (by decide) dX6_surest_1) (so_br (so_if_ne C dX6_surest_4 (by decide)) (so_th (so_aload_n C dX6_surest_14 rfl) (so_th (so_cv C m_X6_makePlan rfl k_380 k_382 k_381 k_383 k_5 ⟨by decide, by decide, by decide +kernel⟩ (by decide) dX6_surest_15) (so_th (so_aload_n C dX6_surest_18 rfl) (so_th (so_iconst C dX6_surest_19 (by decide)) (so_th (so_cv C m_X6_answer rfl k_306 k_308 k_307 k_309 k_5 ⟨by decide, by decide, by decide +kernel⟩ (by decide) dX6_surest_20) (so_th (so_pop C dX6_surest_23) (so_th (so_aload_n C dX6_surest_24 rfl) (so_th (so_getr C fl_RX6_71 dX6_surest_25) (so_th (so_iload_n C dX6_surest_28 rfl) (so_th (so_cv C m_X3_partOfLikelihood rfl k_384 k_386 k_385 k_387 k_113 ⟨by decide, by decide, by decide +kernel⟩ (by decide) dX6_surest_29) (so_rl C hr dX6_surest_32))))))))))) (so_th (so_aload_n C dX6_surest_7 rfl) (so_th (so_iconst C dX6_surest_8 (by decide)) (so_th (so_cv C m_X6_refuse rfl k_297 k_299 k_298 k_300 k_5 ⟨by decide, by decide, by decide +kernel⟩ (by decide) dX6_surest_9) (so_th (so_i2l C dX6_surest_12) (so_rl C hr dX6_surest_13))))))))
theorem m_X6_surest : am_M yX6_surest cX6_surest 2 (some .long) 14 352 d_X6_surest := am_M_of (by decide +kernel) b_X6_surest
theorem dX6_takes_0 : decode cX6_takes 0 = .ok (.aload_n 0, 1) := by decide +kernel
theorem dX6_takes_1 : decode cX6_takes 1 = .ok (.getfield 34, 3) := by decide +kernel
theorem dX6_takes_4 : decode cX6_takes 4 = .ok (.ifCond .ne 10, 3) := by decide +kernel
theorem dX6_takes_7 : decode cX6_takes 7 = .ok (.aload_n 0, 1) := by decide +kernel
theorem dX6_takes_8 : decode cX6_takes 8 = .ok (.iconst 1, 1) := by decide +kernel
theorem dX6_takes_9 : decode cX6_takes 9 = .ok (.invokevirtual 92, 3) := by decide +kernel
theorem dX6_takes_12 : decode cX6_takes 12 = .ok (.i2l, 1) := by decide +kernel
theorem dX6_takes_13 : decode cX6_takes 13 = .ok (.lreturn, 1) := by decide +kernel
theorem dX6_takes_14 : decode cX6_takes 14 = .ok (.aload_n 0, 1) := by decide +kernel
theorem dX6_takes_15 : decode cX6_takes 15 = .ok (.invokevirtual 193, 3) := by decide +kernel
theorem dX6_takes_18 : decode cX6_takes 18 = .ok (.aload_n 0, 1) := by decide +kernel
theorem dX6_takes_19 : decode cX6_takes 19 = .ok (.iconst 0, 1) := by decide +kernel
theorem dX6_takes_20 : decode cX6_takes 20 = .ok (.invokevirtual 107, 3) := by decide +kernel
theorem dX6_takes_23 : decode cX6_takes 23 = .ok (.pop, 1) := by decide +kernel
theorem dX6_takes_24 : decode cX6_takes 24 = .ok (.aload_n 0, 1) := by decide +kernel
theorem dX6_takes_25 : decode cX6_takes 25 = .ok (.getfield 71, 3) := by decide +kernel
theorem dX6_takes_28 : decode cX6_takes 28 = .ok (.iload_n 1, 1) := by decide +kernel
theorem dX6_takes_29 : decode cX6_takes 29 = .ok (.invokevirtual 203, 3) := by decide +kernel
theorem dX6_takes_32 : decode cX6_takes 32 = .ok (.lreturn, 1) := by decide +kernel
def f_X6_takes : am_F := am_th (i_al 0) (am_th (i_gi 6 5) (am_br (b_1 (fun x => decide (¬ x = 0))) (am_th (i_al 0) (am_th (i_cv 6 0 d_X6_makePlan) (am_th (i_al 0) (am_th (i_ic (0)) (am_th (i_cv 6 1 d_X6_answer) (am_th (i_pop) (am_th (i_al 0) (am_th (i_gr 6 13) (am_th (i_il 1) (am_th (i_cv 3 1 d_X3_partOfMean) (r_l))))))))))) (am_th (i_al 0) (am_th (i_ic (1)) (am_th (i_cv 6 1 d_X6_refuse) (am_th (i_i2l) (r_l)))))))
def d_X6_takes : am_D := am_den 2 f_X6_takes
set_option maxHeartbeats 4000000 in
set_option maxRecDepth 100000 in
theorem b_X6_takes : am_Body yX6_takes cX6_takes 2 (some .long) 14 352 f_X6_takes := by
  intro p l e R s m args below meth c g n0 z0 r0 u0 C hr hn
  have C : am_Cx p l e R s m args below meth c g RX6 cX6_takes 2 n0 z0 (am_len u0) (am_wt u0) 14 352 := C
  unfold f_X6_takes
  exact (so_th (so_aload_n C dX6_takes_0 rfl) (so_th (so_geti C fl_RX6_34 (by decide) dX6_takes_1) (so_br (so_if_ne C dX6_takes_4 (by decide)) (so_th (so_aload_n C dX6_takes_14 rfl) (so_th (so_cv C m_X6_makePlan rfl k_380 k_382 k_381 k_383 k_5 ⟨by decide, by decide, by decide +kernel⟩ (by decide) dX6_takes_15) (so_th (so_aload_n C dX6_takes_18 rfl) (so_th (so_iconst C dX6_takes_19 (by decide)) (so_th (so_cv C m_X6_answer rfl k_306 k_308 k_307 k_309 k_5 ⟨by decide, by decide, by decide +kernel⟩ (by decide) dX6_takes_20) (so_th (so_pop C dX6_takes_23) (so_th (so_aload_n C dX6_takes_24 rfl) (so_th (so_getr C fl_RX6_71 dX6_takes_25) (so_th (so_iload_n C dX6_takes_28 rfl) (so_th (so_cv C m_X3_partOfMean rfl k_388 k_390 k_389 k_391 k_113 ⟨by decide, by decide, by decide +kernel⟩ (by decide) dX6_takes_29) (so_rl C hr dX6_takes_32))))))))))) (so_th (so_aload_n C dX6_takes_7 rfl) (so_th (so_iconst C dX6_takes_8 (by decide)) (so_th (so_cv C m_X6_refuse rfl k_297 k_299 k_298 k_300 k_5 ⟨by decide, by decide, by decide +kernel⟩ (by decide) dX6_takes_9) (so_th (so_i2l C dX6_takes_12) (so_rl C hr dX6_takes_13))))))))
theorem m_X6_takes : am_M yX6_takes cX6_takes 2 (some .long) 14 352 d_X6_takes := am_M_of (by decide +kernel) b_X6_takes
theorem dX6_surestAt_0 : decode cX6_surestAt 0 = .ok (.aload_n 0, 1) := by decide +kernel
theorem dX6_surestAt_1 : decode cX6_surestAt 1 = .ok (.getfield 34, 3) := by decide +kernel
theorem dX6_surestAt_4 : decode cX6_surestAt 4 = .ok (.ifCond .ne 9, 3) := by decide +kernel
theorem dX6_surestAt_7 : decode cX6_surestAt 7 = .ok (.aload_n 0, 1) := by decide +kernel
theorem dX6_surestAt_8 : decode cX6_surestAt 8 = .ok (.iconst 1, 1) := by decide +kernel
theorem dX6_surestAt_9 : decode cX6_surestAt 9 = .ok (.invokevirtual 92, 3) := by decide +kernel
theorem dX6_surestAt_12 : decode cX6_surestAt 12 = .ok (.ireturn, 1) := by decide +kernel
theorem dX6_surestAt_13 : decode cX6_surestAt 13 = .ok (.aload_n 0, 1) := by decide +kernel
theorem dX6_surestAt_14 : decode cX6_surestAt 14 = .ok (.invokevirtual 193, 3) := by decide +kernel
theorem dX6_surestAt_17 : decode cX6_surestAt 17 = .ok (.iload_n 1, 1) := by decide +kernel
theorem dX6_surestAt_18 : decode cX6_surestAt 18 = .ok (.ifCond .lt 14, 3) := by decide +kernel
theorem dX6_surestAt_21 : decode cX6_surestAt 21 = .ok (.iload_n 1, 1) := by decide +kernel
theorem dX6_surestAt_22 : decode cX6_surestAt 22 = .ok (.aload_n 0, 1) := by decide +kernel
theorem dX6_surestAt_23 : decode cX6_surestAt 23 = .ok (.getfield 71, 3) := by decide +kernel
theorem dX6_surestAt_26 : decode cX6_surestAt 26 = .ok (.getfield 196, 3) := by decide +kernel
theorem dX6_surestAt_29 : decode cX6_surestAt 29 = .ok (.if_icmp .lt 9, 3) := by decide +kernel
theorem dX6_surestAt_32 : decode cX6_surestAt 32 = .ok (.aload_n 0, 1) := by decide +kernel
theorem dX6_surestAt_33 : decode cX6_surestAt 33 = .ok (.iconst 1, 1) := by decide +kernel
theorem dX6_surestAt_34 : decode cX6_surestAt 34 = .ok (.invokevirtual 92, 3) := by decide +kernel
theorem dX6_surestAt_37 : decode cX6_surestAt 37 = .ok (.ireturn, 1) := by decide +kernel
theorem dX6_surestAt_38 : decode cX6_surestAt 38 = .ok (.aload_n 0, 1) := by decide +kernel
theorem dX6_surestAt_39 : decode cX6_surestAt 39 = .ok (.aload_n 0, 1) := by decide +kernel
theorem dX6_surestAt_40 : decode cX6_surestAt 40 = .ok (.getfield 71, 3) := by decide +kernel
theorem dX6_surestAt_43 : decode cX6_surestAt 43 = .ok (.getfield 206, 3) := by decide +kernel
theorem dX6_surestAt_46 : decode cX6_surestAt 46 = .ok (.iload_n 1, 1) := by decide +kernel
theorem dX6_surestAt_47 : decode cX6_surestAt 47 = .ok (.iaload, 1) := by decide +kernel
theorem dX6_surestAt_48 : decode cX6_surestAt 48 = .ok (.invokevirtual 107, 3) := by decide +kernel
theorem dX6_surestAt_51 : decode cX6_surestAt 51 = .ok (.ireturn, 1) := by decide +kernel
def f_X6_surestAt : am_F := am_th (i_al 0) (am_th (i_gi 6 5) (am_br (b_1 (fun x => decide (¬ x = 0))) (am_th (i_al 0) (am_th (i_cv 6 0 d_X6_makePlan) (am_th (i_il 1) (am_br (b_1 (fun x => decide (x < 0))) (am_th (i_al 0) (am_th (i_ic (1)) (am_th (i_cv 6 1 d_X6_refuse) (r_i)))) (am_th (i_il 1) (am_th (i_al 0) (am_th (i_gr 6 13) (am_th (i_gi 3 8) (am_br (b_2 (fun x y => decide (x < y))) (am_th (i_al 0) (am_th (i_al 0) (am_th (i_gr 6 13) (am_th (i_gr 3 9) (am_th (i_il 1) (am_th (i_ia 0) (am_th (i_cv 6 1 d_X6_answer) (r_i)))))))) (am_th (i_al 0) (am_th (i_ic (1)) (am_th (i_cv 6 1 d_X6_refuse) (r_i))))))))))))) (am_th (i_al 0) (am_th (i_ic (1)) (am_th (i_cv 6 1 d_X6_refuse) (r_i))))))
def d_X6_surestAt : am_D := am_den 2 f_X6_surestAt
set_option maxHeartbeats 4000000 in
set_option maxRecDepth 100000 in
theorem b_X6_surestAt : am_Body yX6_surestAt cX6_surestAt 2 (some .int) 14 352 f_X6_surestAt := by
  intro p l e R s m args below meth c g n0 z0 r0 u0 C hr hn
  have C : am_Cx p l e R s m args below meth c g RX6 cX6_surestAt 2 n0 z0 (am_len u0) (am_wt u0) 14 352 := C
  unfold f_X6_surestAt
  exact (so_th (so_aload_n C dX6_surestAt_0 rfl) (so_th (so_geti C fl_RX6_34 (by decide) dX6_surestAt_1) (so_br (so_if_ne C dX6_surestAt_4 (by decide)) (so_th (so_aload_n C dX6_surestAt_13 rfl) (so_th (so_cv C m_X6_makePlan rfl k_380 k_382 k_381 k_383 k_5 ⟨by decide, by decide, by decide +kernel⟩ (by decide) dX6_surestAt_14) (so_th (so_iload_n C dX6_surestAt_17 rfl) (so_br (so_if_lt C dX6_surestAt_18 (by decide)) (so_th (so_aload_n C dX6_surestAt_32 rfl) (so_th (so_iconst C dX6_surestAt_33 (by decide)) (so_th (so_cv C m_X6_refuse rfl k_297 k_299 k_298 k_300 k_5 ⟨by decide, by decide, by decide +kernel⟩ (by decide) dX6_surestAt_34) (so_ri C hr dX6_surestAt_37)))) (so_th (so_iload_n C dX6_surestAt_21 rfl) (so_th (so_aload_n C dX6_surestAt_22 rfl) (so_th (so_getr C fl_RX6_71 dX6_surestAt_23) (so_th (so_geti C fl_RX6_196 (by decide) dX6_surestAt_26) (so_br (so_icmp_lt C dX6_surestAt_29 (by decide)) (so_th (so_aload_n C dX6_surestAt_38 rfl) (so_th (so_aload_n C dX6_surestAt_39 rfl) (so_th (so_getr C fl_RX6_71 dX6_surestAt_40) (so_th (so_getr C fl_RX6_206 dX6_surestAt_43) (so_th (so_iload_n C dX6_surestAt_46 rfl) (so_th (so_iald C dX6_surestAt_47) (so_th (so_cv C m_X6_answer rfl k_306 k_308 k_307 k_309 k_5 ⟨by decide, by decide, by decide +kernel⟩ (by decide) dX6_surestAt_48) (so_ri C hr dX6_surestAt_51)))))))) (so_th (so_aload_n C dX6_surestAt_32 rfl) (so_th (so_iconst C dX6_surestAt_33 (by decide)) (so_th (so_cv C m_X6_refuse rfl k_297 k_299 k_298 k_300 k_5 ⟨by decide, by decide, by decide +kernel⟩ (by decide) dX6_surestAt_34) (so_ri C hr dX6_surestAt_37))))))))))))) (so_th (so_aload_n C dX6_surestAt_7 rfl) (so_th (so_iconst C dX6_surestAt_8 (by decide)) (so_th (so_cv C m_X6_refuse rfl k_297 k_299 k_298 k_300 k_5 ⟨by decide, by decide, by decide +kernel⟩ (by decide) dX6_surestAt_9) (so_ri C hr dX6_surestAt_12)))))))
theorem m_X6_surestAt : am_M yX6_surestAt cX6_surestAt 2 (some .int) 14 352 d_X6_surestAt := am_M_of (by decide +kernel) b_X6_surestAt
theorem dX6_prune_0 : decode cX6_prune 0 = .ok (.aload_n 0, 1) := by decide +kernel
theorem dX6_prune_1 : decode cX6_prune 1 = .ok (.iload_n 1, 1) := by decide +kernel
theorem dX6_prune_2 : decode cX6_prune 2 = .ok (.invokevirtual 173, 3) := by decide +kernel
theorem dX6_prune_5 : decode cX6_prune 5 = .ok (.ifCond .ne 9, 3) := by decide +kernel
theorem dX6_prune_8 : decode cX6_prune 8 = .ok (.aload_n 0, 1) := by decide +kernel
theorem dX6_prune_9 : decode cX6_prune 9 = .ok (.iconst 1, 1) := by decide +kernel
theorem dX6_prune_10 : decode cX6_prune 10 = .ok (.invokevirtual 92, 3) := by decide +kernel
theorem dX6_prune_13 : decode cX6_prune 13 = .ok (.ireturn, 1) := by decide +kernel
theorem dX6_prune_14 : decode cX6_prune 14 = .ok (.iload_n 2, 1) := by decide +kernel
theorem dX6_prune_15 : decode cX6_prune 15 = .ok (.ifCond .lt 9, 3) := by decide +kernel
theorem dX6_prune_18 : decode cX6_prune 18 = .ok (.iload_n 2, 1) := by decide +kernel
theorem dX6_prune_19 : decode cX6_prune 19 = .ok (.bipush 12, 2) := by decide +kernel
theorem dX6_prune_21 : decode cX6_prune 21 = .ok (.if_icmp .le 9, 3) := by decide +kernel
theorem dX6_prune_24 : decode cX6_prune 24 = .ok (.aload_n 0, 1) := by decide +kernel
theorem dX6_prune_25 : decode cX6_prune 25 = .ok (.iconst 2, 1) := by decide +kernel
theorem dX6_prune_26 : decode cX6_prune 26 = .ok (.invokevirtual 92, 3) := by decide +kernel
theorem dX6_prune_29 : decode cX6_prune 29 = .ok (.ireturn, 1) := by decide +kernel
theorem dX6_prune_30 : decode cX6_prune 30 = .ok (.aload_n 0, 1) := by decide +kernel
theorem dX6_prune_31 : decode cX6_prune 31 = .ok (.getfield 64, 3) := by decide +kernel
theorem dX6_prune_34 : decode cX6_prune 34 = .ok (.aload_n 0, 1) := by decide +kernel
theorem dX6_prune_35 : decode cX6_prune 35 = .ok (.getfield 27, 3) := by decide +kernel
theorem dX6_prune_38 : decode cX6_prune 38 = .ok (.aload_n 0, 1) := by decide +kernel
theorem dX6_prune_39 : decode cX6_prune 39 = .ok (.getfield 41, 3) := by decide +kernel
theorem dX6_prune_42 : decode cX6_prune 42 = .ok (.iload_n 1, 1) := by decide +kernel
theorem dX6_prune_43 : decode cX6_prune 43 = .ok (.invokevirtual 209, 3) := by decide +kernel
theorem dX6_prune_46 : decode cX6_prune 46 = .ok (.aload_n 0, 1) := by decide +kernel
theorem dX6_prune_47 : decode cX6_prune 47 = .ok (.getfield 64, 3) := by decide +kernel
theorem dX6_prune_50 : decode cX6_prune 50 = .ok (.iload_n 2, 1) := by decide +kernel
theorem dX6_prune_51 : decode cX6_prune 51 = .ok (.invokevirtual 213, 3) := by decide +kernel
theorem dX6_prune_54 : decode cX6_prune 54 = .ok (.aload_n 0, 1) := by decide +kernel
theorem dX6_prune_55 : decode cX6_prune 55 = .ok (.aload_n 0, 1) := by decide +kernel
theorem dX6_prune_56 : decode cX6_prune 56 = .ok (.getfield 64, 3) := by decide +kernel
theorem dX6_prune_59 : decode cX6_prune 59 = .ok (.invokevirtual 216, 3) := by decide +kernel
theorem dX6_prune_62 : decode cX6_prune 62 = .ok (.ifCond .eq 13, 3) := by decide +kernel
theorem dX6_prune_65 : decode cX6_prune 65 = .ok (.aload_n 0, 1) := by decide +kernel
theorem dX6_prune_66 : decode cX6_prune 66 = .ok (.getfield 64, 3) := by decide +kernel
theorem dX6_prune_69 : decode cX6_prune 69 = .ok (.invokevirtual 220, 3) := by decide +kernel
theorem dX6_prune_72 : decode cX6_prune 72 = .ok (.goto 5, 3) := by decide +kernel
theorem dX6_prune_75 : decode cX6_prune 75 = .ok (.bipush (-2), 2) := by decide +kernel
theorem dX6_prune_77 : decode cX6_prune 77 = .ok (.invokevirtual 107, 3) := by decide +kernel
theorem dX6_prune_80 : decode cX6_prune 80 = .ok (.ireturn, 1) := by decide +kernel
def f_X6_prune : am_F := am_th (i_al 0) (am_th (i_il 1) (am_th (i_cv 6 1 d_X6_isStanding) (am_br (b_1 (fun x => decide (¬ x = 0))) (am_th (i_il 2) (am_br (b_1 (fun x => decide (x < 0))) (am_th (i_al 0) (am_th (i_ic (2)) (am_th (i_cv 6 1 d_X6_refuse) (r_i)))) (am_th (i_il 2) (am_th (i_ic (12)) (am_br (b_2 (fun x y => decide (x ≤ y))) (am_th (i_al 0) (am_th (i_gr 6 12) (am_th (i_al 0) (am_th (i_gr 6 3) (am_th (i_al 0) (am_th (i_gr 6 6) (am_th (i_il 1) (am_th (i_cv 0 3 d_X0_begin) (am_th (i_al 0) (am_th (i_gr 6 12) (am_th (i_il 2) (am_th (i_cv 0 1 d_X0_planCuts) (am_th (i_al 0) (am_th (i_al 0) (am_th (i_gr 6 12) (am_th (i_cv 0 0 d_X0_canPrune) (am_br (b_1 (fun x => decide (x = 0))) (am_th (i_ic (-2)) (am_th (i_cv 6 1 d_X6_answer) (r_i))) (am_th (i_al 0) (am_th (i_gr 6 12) (am_th (i_cv 0 0 d_X0_coinsToPrune) (am_th (i_cv 6 1 d_X6_answer) (r_i)))))))))))))))))))))) (am_th (i_al 0) (am_th (i_ic (2)) (am_th (i_cv 6 1 d_X6_refuse) (r_i))))))))) (am_th (i_al 0) (am_th (i_ic (1)) (am_th (i_cv 6 1 d_X6_refuse) (r_i)))))))
def d_X6_prune : am_D := am_den 3 f_X6_prune
set_option maxHeartbeats 4000000 in
set_option maxRecDepth 100000 in
theorem b_X6_prune : am_Body yX6_prune cX6_prune 3 (some .int) 4 89 f_X6_prune := by
  intro p l e R s m args below meth c g n0 z0 r0 u0 C hr hn
  have C : am_Cx p l e R s m args below meth c g RX6 cX6_prune 3 n0 z0 (am_len u0) (am_wt u0) 4 89 := C
  unfold f_X6_prune
  exact (so_th (so_aload_n C dX6_prune_0 rfl) (so_th (so_iload_n C dX6_prune_1 rfl) (so_th (so_cv C m_X6_isStanding rfl k_362 k_364 k_363 k_365 k_5 ⟨by decide, by decide, by decide +kernel⟩ (by decide) dX6_prune_2) (so_br (so_if_ne C dX6_prune_5 (by decide)) (so_th (so_iload_n C dX6_prune_14 rfl) (so_br (so_if_lt C dX6_prune_15 (by decide)) (so_th (so_aload_n C dX6_prune_24 rfl) (so_th (so_iconst C dX6_prune_25 (by decide)) (so_th (so_cv C m_X6_refuse rfl k_297 k_299 k_298 k_300 k_5 ⟨by decide, by decide, by decide +kernel⟩ (by decide) dX6_prune_26) (so_ri C hr dX6_prune_29)))) (so_th (so_iload_n C dX6_prune_18 rfl) (so_th (so_bipush C dX6_prune_19 (by decide)) (so_br (so_icmp_le C dX6_prune_21 (by decide)) (so_th (so_aload_n C dX6_prune_30 rfl) (so_th (so_getr C fl_RX6_64 dX6_prune_31) (so_th (so_aload_n C dX6_prune_34 rfl) (so_th (so_getr C fl_RX6_27 dX6_prune_35) (so_th (so_aload_n C dX6_prune_38 rfl) (so_th (so_getr C fl_RX6_41 dX6_prune_39) (so_th (so_iload_n C dX6_prune_42 rfl) (so_th (so_cv C m_X0_begin rfl k_392 k_394 k_393 k_395 k_21 ⟨by decide, by decide, by decide +kernel⟩ (by decide) dX6_prune_43) (so_th (so_aload_n C dX6_prune_46 rfl) (so_th (so_getr C fl_RX6_64 dX6_prune_47) (so_th (so_iload_n C dX6_prune_50 rfl) (so_th (so_cv C m_X0_planCuts rfl k_396 k_398 k_397 k_399 k_21 ⟨by decide, by decide, by decide +kernel⟩ (by decide) dX6_prune_51) (so_th (so_aload_n C dX6_prune_54 rfl) (so_th (so_aload_n C dX6_prune_55 rfl) (so_th (so_getr C fl_RX6_64 dX6_prune_56) (so_th (so_cv C m_X0_canPrune rfl k_400 k_402 k_401 k_403 k_21 ⟨by decide, by decide, by decide +kernel⟩ (by decide) dX6_prune_59) (so_br (so_if_eq C dX6_prune_62 (by decide)) (so_th (so_bipush C dX6_prune_75 (by decide)) (so_th (so_cv C m_X6_answer rfl k_306 k_308 k_307 k_309 k_5 ⟨by decide, by decide, by decide +kernel⟩ (by decide) dX6_prune_77) (so_ri C hr dX6_prune_80))) (so_th (so_aload_n C dX6_prune_65 rfl) (so_th (so_getr C fl_RX6_64 dX6_prune_66) (so_th (so_cv C m_X0_coinsToPrune rfl k_404 k_406 k_405 k_407 k_21 ⟨by decide, by decide, by decide +kernel⟩ (by decide) dX6_prune_69) (so_goto C dX6_prune_72 (by decide) (so_th (so_cv C m_X6_answer rfl k_306 k_308 k_307 k_309 k_5 ⟨by decide, by decide, by decide +kernel⟩ (by decide) dX6_prune_77) (so_ri C hr dX6_prune_80))))))))))))))))))))))) (so_th (so_aload_n C dX6_prune_24 rfl) (so_th (so_iconst C dX6_prune_25 (by decide)) (so_th (so_cv C m_X6_refuse rfl k_297 k_299 k_298 k_300 k_5 ⟨by decide, by decide, by decide +kernel⟩ (by decide) dX6_prune_26) (so_ri C hr dX6_prune_29))))))))) (so_th (so_aload_n C dX6_prune_8 rfl) (so_th (so_iconst C dX6_prune_9 (by decide)) (so_th (so_cv C m_X6_refuse rfl k_297 k_299 k_298 k_300 k_5 ⟨by decide, by decide, by decide +kernel⟩ (by decide) dX6_prune_10) (so_ri C hr dX6_prune_13))))))))
theorem m_X6_prune : am_M yX6_prune cX6_prune 3 (some .int) 4 89 d_X6_prune := am_M_of (by decide +kernel) b_X6_prune
theorem dX6_pruneAt_0 : decode cX6_pruneAt 0 = .ok (.aload_n 0, 1) := by decide +kernel
theorem dX6_pruneAt_1 : decode cX6_pruneAt 1 = .ok (.iload_n 1, 1) := by decide +kernel
theorem dX6_pruneAt_2 : decode cX6_pruneAt 2 = .ok (.invokevirtual 173, 3) := by decide +kernel
theorem dX6_pruneAt_5 : decode cX6_pruneAt 5 = .ok (.ifCond .ne 9, 3) := by decide +kernel
theorem dX6_pruneAt_8 : decode cX6_pruneAt 8 = .ok (.aload_n 0, 1) := by decide +kernel
theorem dX6_pruneAt_9 : decode cX6_pruneAt 9 = .ok (.iconst 1, 1) := by decide +kernel
theorem dX6_pruneAt_10 : decode cX6_pruneAt 10 = .ok (.invokevirtual 92, 3) := by decide +kernel
theorem dX6_pruneAt_13 : decode cX6_pruneAt 13 = .ok (.ireturn, 1) := by decide +kernel
theorem dX6_pruneAt_14 : decode cX6_pruneAt 14 = .ok (.iload_n 2, 1) := by decide +kernel
theorem dX6_pruneAt_15 : decode cX6_pruneAt 15 = .ok (.ifCond .lt 9, 3) := by decide +kernel
theorem dX6_pruneAt_18 : decode cX6_pruneAt 18 = .ok (.iload_n 2, 1) := by decide +kernel
theorem dX6_pruneAt_19 : decode cX6_pruneAt 19 = .ok (.bipush 12, 2) := by decide +kernel
theorem dX6_pruneAt_21 : decode cX6_pruneAt 21 = .ok (.if_icmp .le 9, 3) := by decide +kernel
theorem dX6_pruneAt_24 : decode cX6_pruneAt 24 = .ok (.aload_n 0, 1) := by decide +kernel
theorem dX6_pruneAt_25 : decode cX6_pruneAt 25 = .ok (.iconst 2, 1) := by decide +kernel
theorem dX6_pruneAt_26 : decode cX6_pruneAt 26 = .ok (.invokevirtual 92, 3) := by decide +kernel
theorem dX6_pruneAt_29 : decode cX6_pruneAt 29 = .ok (.ireturn, 1) := by decide +kernel
theorem dX6_pruneAt_30 : decode cX6_pruneAt 30 = .ok (.iload_n 3, 1) := by decide +kernel
theorem dX6_pruneAt_31 : decode cX6_pruneAt 31 = .ok (.ifCond .lt 8, 3) := by decide +kernel
theorem dX6_pruneAt_34 : decode cX6_pruneAt 34 = .ok (.iload_n 3, 1) := by decide +kernel
theorem dX6_pruneAt_35 : decode cX6_pruneAt 35 = .ok (.iload_n 2, 1) := by decide +kernel
theorem dX6_pruneAt_36 : decode cX6_pruneAt 36 = .ok (.if_icmp .lt 9, 3) := by decide +kernel
theorem dX6_pruneAt_39 : decode cX6_pruneAt 39 = .ok (.aload_n 0, 1) := by decide +kernel
theorem dX6_pruneAt_40 : decode cX6_pruneAt 40 = .ok (.iconst 1, 1) := by decide +kernel
theorem dX6_pruneAt_41 : decode cX6_pruneAt 41 = .ok (.invokevirtual 92, 3) := by decide +kernel
theorem dX6_pruneAt_44 : decode cX6_pruneAt 44 = .ok (.ireturn, 1) := by decide +kernel
theorem dX6_pruneAt_45 : decode cX6_pruneAt 45 = .ok (.aload_n 0, 1) := by decide +kernel
theorem dX6_pruneAt_46 : decode cX6_pruneAt 46 = .ok (.getfield 64, 3) := by decide +kernel
theorem dX6_pruneAt_49 : decode cX6_pruneAt 49 = .ok (.aload_n 0, 1) := by decide +kernel
theorem dX6_pruneAt_50 : decode cX6_pruneAt 50 = .ok (.getfield 27, 3) := by decide +kernel
theorem dX6_pruneAt_53 : decode cX6_pruneAt 53 = .ok (.aload_n 0, 1) := by decide +kernel
theorem dX6_pruneAt_54 : decode cX6_pruneAt 54 = .ok (.getfield 41, 3) := by decide +kernel
theorem dX6_pruneAt_57 : decode cX6_pruneAt 57 = .ok (.iload_n 1, 1) := by decide +kernel
theorem dX6_pruneAt_58 : decode cX6_pruneAt 58 = .ok (.invokevirtual 209, 3) := by decide +kernel
theorem dX6_pruneAt_61 : decode cX6_pruneAt 61 = .ok (.aload_n 0, 1) := by decide +kernel
theorem dX6_pruneAt_62 : decode cX6_pruneAt 62 = .ok (.getfield 64, 3) := by decide +kernel
theorem dX6_pruneAt_65 : decode cX6_pruneAt 65 = .ok (.iload_n 2, 1) := by decide +kernel
theorem dX6_pruneAt_66 : decode cX6_pruneAt 66 = .ok (.invokevirtual 213, 3) := by decide +kernel
theorem dX6_pruneAt_69 : decode cX6_pruneAt 69 = .ok (.aload_n 0, 1) := by decide +kernel
theorem dX6_pruneAt_70 : decode cX6_pruneAt 70 = .ok (.getfield 64, 3) := by decide +kernel
theorem dX6_pruneAt_73 : decode cX6_pruneAt 73 = .ok (.invokevirtual 216, 3) := by decide +kernel
theorem dX6_pruneAt_76 : decode cX6_pruneAt 76 = .ok (.ifCond .ne 10, 3) := by decide +kernel
theorem dX6_pruneAt_79 : decode cX6_pruneAt 79 = .ok (.aload_n 0, 1) := by decide +kernel
theorem dX6_pruneAt_80 : decode cX6_pruneAt 80 = .ok (.bipush 6, 2) := by decide +kernel
theorem dX6_pruneAt_82 : decode cX6_pruneAt 82 = .ok (.invokevirtual 92, 3) := by decide +kernel
theorem dX6_pruneAt_85 : decode cX6_pruneAt 85 = .ok (.ireturn, 1) := by decide +kernel
theorem dX6_pruneAt_86 : decode cX6_pruneAt 86 = .ok (.aload_n 0, 1) := by decide +kernel
theorem dX6_pruneAt_87 : decode cX6_pruneAt 87 = .ok (.aload_n 0, 1) := by decide +kernel
theorem dX6_pruneAt_88 : decode cX6_pruneAt 88 = .ok (.getfield 64, 3) := by decide +kernel
theorem dX6_pruneAt_91 : decode cX6_pruneAt 91 = .ok (.iload_n 3, 1) := by decide +kernel
theorem dX6_pruneAt_92 : decode cX6_pruneAt 92 = .ok (.invokevirtual 223, 3) := by decide +kernel
theorem dX6_pruneAt_95 : decode cX6_pruneAt 95 = .ok (.invokevirtual 107, 3) := by decide +kernel
theorem dX6_pruneAt_98 : decode cX6_pruneAt 98 = .ok (.ireturn, 1) := by decide +kernel
def f_X6_pruneAt : am_F := am_th (i_al 0) (am_th (i_il 1) (am_th (i_cv 6 1 d_X6_isStanding) (am_br (b_1 (fun x => decide (¬ x = 0))) (am_th (i_il 2) (am_br (b_1 (fun x => decide (x < 0))) (am_th (i_al 0) (am_th (i_ic (2)) (am_th (i_cv 6 1 d_X6_refuse) (r_i)))) (am_th (i_il 2) (am_th (i_ic (12)) (am_br (b_2 (fun x y => decide (x ≤ y))) (am_th (i_il 3) (am_br (b_1 (fun x => decide (x < 0))) (am_th (i_al 0) (am_th (i_ic (1)) (am_th (i_cv 6 1 d_X6_refuse) (r_i)))) (am_th (i_il 3) (am_th (i_il 2) (am_br (b_2 (fun x y => decide (x < y))) (am_th (i_al 0) (am_th (i_gr 6 12) (am_th (i_al 0) (am_th (i_gr 6 3) (am_th (i_al 0) (am_th (i_gr 6 6) (am_th (i_il 1) (am_th (i_cv 0 3 d_X0_begin) (am_th (i_al 0) (am_th (i_gr 6 12) (am_th (i_il 2) (am_th (i_cv 0 1 d_X0_planCuts) (am_th (i_al 0) (am_th (i_gr 6 12) (am_th (i_cv 0 0 d_X0_canPrune) (am_br (b_1 (fun x => decide (¬ x = 0))) (am_th (i_al 0) (am_th (i_al 0) (am_th (i_gr 6 12) (am_th (i_il 3) (am_th (i_cv 0 1 d_X0_cutIn) (am_th (i_cv 6 1 d_X6_answer) (r_i))))))) (am_th (i_al 0) (am_th (i_ic (6)) (am_th (i_cv 6 1 d_X6_refuse) (r_i)))))))))))))))))))) (am_th (i_al 0) (am_th (i_ic (1)) (am_th (i_cv 6 1 d_X6_refuse) (r_i))))))))) (am_th (i_al 0) (am_th (i_ic (2)) (am_th (i_cv 6 1 d_X6_refuse) (r_i))))))))) (am_th (i_al 0) (am_th (i_ic (1)) (am_th (i_cv 6 1 d_X6_refuse) (r_i)))))))
def d_X6_pruneAt : am_D := am_den 4 f_X6_pruneAt
set_option maxHeartbeats 4000000 in
set_option maxRecDepth 100000 in
theorem b_X6_pruneAt : am_Body yX6_pruneAt cX6_pruneAt 4 (some .int) 4 89 f_X6_pruneAt := by
  intro p l e R s m args below meth c g n0 z0 r0 u0 C hr hn
  have C : am_Cx p l e R s m args below meth c g RX6 cX6_pruneAt 4 n0 z0 (am_len u0) (am_wt u0) 4 89 := C
  unfold f_X6_pruneAt
  exact (so_th (so_aload_n C dX6_pruneAt_0 rfl) (so_th (so_iload_n C dX6_pruneAt_1 rfl) (so_th (so_cv C m_X6_isStanding rfl k_362 k_364 k_363 k_365 k_5 ⟨by decide, by decide, by decide +kernel⟩ (by decide) dX6_pruneAt_2) (so_br (so_if_ne C dX6_pruneAt_5 (by decide)) (so_th (so_iload_n C dX6_pruneAt_14 rfl) (so_br (so_if_lt C dX6_pruneAt_15 (by decide)) (so_th (so_aload_n C dX6_pruneAt_24 rfl) (so_th (so_iconst C dX6_pruneAt_25 (by decide)) (so_th (so_cv C m_X6_refuse rfl k_297 k_299 k_298 k_300 k_5 ⟨by decide, by decide, by decide +kernel⟩ (by decide) dX6_pruneAt_26) (so_ri C hr dX6_pruneAt_29)))) (so_th (so_iload_n C dX6_pruneAt_18 rfl) (so_th (so_bipush C dX6_pruneAt_19 (by decide)) (so_br (so_icmp_le C dX6_pruneAt_21 (by decide)) (so_th (so_iload_n C dX6_pruneAt_30 rfl) (so_br (so_if_lt C dX6_pruneAt_31 (by decide)) (so_th (so_aload_n C dX6_pruneAt_39 rfl) (so_th (so_iconst C dX6_pruneAt_40 (by decide)) (so_th (so_cv C m_X6_refuse rfl k_297 k_299 k_298 k_300 k_5 ⟨by decide, by decide, by decide +kernel⟩ (by decide) dX6_pruneAt_41) (so_ri C hr dX6_pruneAt_44)))) (so_th (so_iload_n C dX6_pruneAt_34 rfl) (so_th (so_iload_n C dX6_pruneAt_35 rfl) (so_br (so_icmp_lt C dX6_pruneAt_36 (by decide)) (so_th (so_aload_n C dX6_pruneAt_45 rfl) (so_th (so_getr C fl_RX6_64 dX6_pruneAt_46) (so_th (so_aload_n C dX6_pruneAt_49 rfl) (so_th (so_getr C fl_RX6_27 dX6_pruneAt_50) (so_th (so_aload_n C dX6_pruneAt_53 rfl) (so_th (so_getr C fl_RX6_41 dX6_pruneAt_54) (so_th (so_iload_n C dX6_pruneAt_57 rfl) (so_th (so_cv C m_X0_begin rfl k_392 k_394 k_393 k_395 k_21 ⟨by decide, by decide, by decide +kernel⟩ (by decide) dX6_pruneAt_58) (so_th (so_aload_n C dX6_pruneAt_61 rfl) (so_th (so_getr C fl_RX6_64 dX6_pruneAt_62) (so_th (so_iload_n C dX6_pruneAt_65 rfl) (so_th (so_cv C m_X0_planCuts rfl k_396 k_398 k_397 k_399 k_21 ⟨by decide, by decide, by decide +kernel⟩ (by decide) dX6_pruneAt_66) (so_th (so_aload_n C dX6_pruneAt_69 rfl) (so_th (so_getr C fl_RX6_64 dX6_pruneAt_70) (so_th (so_cv C m_X0_canPrune rfl k_400 k_402 k_401 k_403 k_21 ⟨by decide, by decide, by decide +kernel⟩ (by decide) dX6_pruneAt_73) (so_br (so_if_ne C dX6_pruneAt_76 (by decide)) (so_th (so_aload_n C dX6_pruneAt_86 rfl) (so_th (so_aload_n C dX6_pruneAt_87 rfl) (so_th (so_getr C fl_RX6_64 dX6_pruneAt_88) (so_th (so_iload_n C dX6_pruneAt_91 rfl) (so_th (so_cv C m_X0_cutIn rfl k_408 k_410 k_409 k_411 k_21 ⟨by decide, by decide, by decide +kernel⟩ (by decide) dX6_pruneAt_92) (so_th (so_cv C m_X6_answer rfl k_306 k_308 k_307 k_309 k_5 ⟨by decide, by decide, by decide +kernel⟩ (by decide) dX6_pruneAt_95) (so_ri C hr dX6_pruneAt_98))))))) (so_th (so_aload_n C dX6_pruneAt_79 rfl) (so_th (so_bipush C dX6_pruneAt_80 (by decide)) (so_th (so_cv C m_X6_refuse rfl k_297 k_299 k_298 k_300 k_5 ⟨by decide, by decide, by decide +kernel⟩ (by decide) dX6_pruneAt_82) (so_ri C hr dX6_pruneAt_85)))))))))))))))))))) (so_th (so_aload_n C dX6_pruneAt_39 rfl) (so_th (so_iconst C dX6_pruneAt_40 (by decide)) (so_th (so_cv C m_X6_refuse rfl k_297 k_299 k_298 k_300 k_5 ⟨by decide, by decide, by decide +kernel⟩ (by decide) dX6_pruneAt_41) (so_ri C hr dX6_pruneAt_44))))))))) (so_th (so_aload_n C dX6_pruneAt_24 rfl) (so_th (so_iconst C dX6_pruneAt_25 (by decide)) (so_th (so_cv C m_X6_refuse rfl k_297 k_299 k_298 k_300 k_5 ⟨by decide, by decide, by decide +kernel⟩ (by decide) dX6_pruneAt_26) (so_ri C hr dX6_pruneAt_29))))))))) (so_th (so_aload_n C dX6_pruneAt_8 rfl) (so_th (so_iconst C dX6_pruneAt_9 (by decide)) (so_th (so_cv C m_X6_refuse rfl k_297 k_299 k_298 k_300 k_5 ⟨by decide, by decide, by decide +kernel⟩ (by decide) dX6_pruneAt_10) (so_ri C hr dX6_pruneAt_13))))))))
theorem m_X6_pruneAt : am_M yX6_pruneAt cX6_pruneAt 4 (some .int) 4 89 d_X6_pruneAt := am_M_of (by decide +kernel) b_X6_pruneAt
theorem dX6_isAhead_0 : decode cX6_isAhead 0 = .ok (.iload_n 0, 1) := by decide +kernel
theorem dX6_isAhead_1 : decode cX6_isAhead 1 = .ok (.ifCond .lt 13, 3) := by decide +kernel
theorem dX6_isAhead_4 : decode cX6_isAhead 4 = .ok (.iload_n 0, 1) := by decide +kernel
theorem dX6_isAhead_5 : decode cX6_isAhead 5 = .ok (.bipush 24, 2) := by decide +kernel
theorem dX6_isAhead_7 : decode cX6_isAhead 7 = .ok (.if_icmp .ge 7, 3) := by decide +kernel
theorem dX6_isAhead_10 : decode cX6_isAhead 10 = .ok (.iconst 1, 1) := by decide +kernel
theorem dX6_isAhead_11 : decode cX6_isAhead 11 = .ok (.goto 4, 3) := by decide +kernel
theorem dX6_isAhead_14 : decode cX6_isAhead 14 = .ok (.iconst 0, 1) := by decide +kernel
theorem dX6_isAhead_15 : decode cX6_isAhead 15 = .ok (.ireturn, 1) := by decide +kernel
def f_X6_isAhead : am_F := am_th (i_il 0) (am_br (b_1 (fun x => decide (x < 0))) (am_th (i_ic (0)) (r_z)) (am_th (i_il 0) (am_th (i_ic (24)) (am_br (b_2 (fun x y => decide (y ≤ x))) (am_th (i_ic (0)) (r_z)) (am_th (i_ic (1)) (r_z))))))
def d_X6_isAhead : am_D := am_den 1 f_X6_isAhead
set_option maxHeartbeats 4000000 in
set_option maxRecDepth 100000 in
theorem b_X6_isAhead : am_Body yX6_isAhead cX6_isAhead 1 (some .boolean) 0 0 f_X6_isAhead := by
  intro p l e R s m args below meth c g n0 z0 r0 u0 C hr hn
  have C : am_Cx p l e R s m args below meth c g RX6 cX6_isAhead 1 n0 z0 (am_len u0) (am_wt u0) 0 0 := C
  unfold f_X6_isAhead
  exact (so_th (so_iload_n C dX6_isAhead_0 rfl) (so_br (so_if_lt C dX6_isAhead_1 (by decide)) (so_th (so_iconst C dX6_isAhead_14 (by decide)) (so_rz C hr dX6_isAhead_15)) (so_th (so_iload_n C dX6_isAhead_4 rfl) (so_th (so_bipush C dX6_isAhead_5 (by decide)) (so_br (so_icmp_ge C dX6_isAhead_7 (by decide)) (so_th (so_iconst C dX6_isAhead_14 (by decide)) (so_rz C hr dX6_isAhead_15)) (so_th (so_iconst C dX6_isAhead_10 (by decide)) (so_goto C dX6_isAhead_11 (by decide) (so_rz C hr dX6_isAhead_15))))))))
theorem m_X6_isAhead : am_M yX6_isAhead cX6_isAhead 1 (some .boolean) 0 0 d_X6_isAhead := am_M_of (by decide +kernel) b_X6_isAhead
theorem dX6_feedFor_0 : decode cX6_feedFor 0 = .ok (.aload_n 0, 1) := by decide +kernel
theorem dX6_feedFor_1 : decode cX6_feedFor 1 = .ok (.iload_n 1, 1) := by decide +kernel
theorem dX6_feedFor_2 : decode cX6_feedFor 2 = .ok (.invokevirtual 173, 3) := by decide +kernel
theorem dX6_feedFor_5 : decode cX6_feedFor 5 = .ok (.ifCond .ne 9, 3) := by decide +kernel
theorem dX6_feedFor_8 : decode cX6_feedFor 8 = .ok (.aload_n 0, 1) := by decide +kernel
theorem dX6_feedFor_9 : decode cX6_feedFor 9 = .ok (.iconst 1, 1) := by decide +kernel
theorem dX6_feedFor_10 : decode cX6_feedFor 10 = .ok (.invokevirtual 92, 3) := by decide +kernel
theorem dX6_feedFor_13 : decode cX6_feedFor 13 = .ok (.ireturn, 1) := by decide +kernel
theorem dX6_feedFor_14 : decode cX6_feedFor 14 = .ok (.iload_n 2, 1) := by decide +kernel
theorem dX6_feedFor_15 : decode cX6_feedFor 15 = .ok (.invokestatic 226, 3) := by decide +kernel
theorem dX6_feedFor_18 : decode cX6_feedFor 18 = .ok (.ifCond .ne 9, 3) := by decide +kernel
theorem dX6_feedFor_21 : decode cX6_feedFor 21 = .ok (.aload_n 0, 1) := by decide +kernel
theorem dX6_feedFor_22 : decode cX6_feedFor 22 = .ok (.iconst 2, 1) := by decide +kernel
theorem dX6_feedFor_23 : decode cX6_feedFor 23 = .ok (.invokevirtual 92, 3) := by decide +kernel
theorem dX6_feedFor_26 : decode cX6_feedFor 26 = .ok (.ireturn, 1) := by decide +kernel
theorem dX6_feedFor_27 : decode cX6_feedFor 27 = .ok (.aload_n 0, 1) := by decide +kernel
theorem dX6_feedFor_28 : decode cX6_feedFor 28 = .ok (.getfield 64, 3) := by decide +kernel
theorem dX6_feedFor_31 : decode cX6_feedFor 31 = .ok (.aload_n 0, 1) := by decide +kernel
theorem dX6_feedFor_32 : decode cX6_feedFor 32 = .ok (.getfield 27, 3) := by decide +kernel
theorem dX6_feedFor_35 : decode cX6_feedFor 35 = .ok (.aload_n 0, 1) := by decide +kernel
theorem dX6_feedFor_36 : decode cX6_feedFor 36 = .ok (.getfield 41, 3) := by decide +kernel
theorem dX6_feedFor_39 : decode cX6_feedFor 39 = .ok (.iload_n 1, 1) := by decide +kernel
theorem dX6_feedFor_40 : decode cX6_feedFor 40 = .ok (.invokevirtual 209, 3) := by decide +kernel
theorem dX6_feedFor_43 : decode cX6_feedFor 43 = .ok (.iconst 0, 1) := by decide +kernel
theorem dX6_feedFor_44 : decode cX6_feedFor 44 = .ok (.istore_n 3, 1) := by decide +kernel
theorem dX6_feedFor_45 : decode cX6_feedFor 45 = .ok (.iload_n 3, 1) := by decide +kernel
theorem dX6_feedFor_46 : decode cX6_feedFor 46 = .ok (.bipush 60, 2) := by decide +kernel
theorem dX6_feedFor_48 : decode cX6_feedFor 48 = .ok (.if_icmp .gt 29, 3) := by decide +kernel
theorem dX6_feedFor_51 : decode cX6_feedFor 51 = .ok (.aload_n 0, 1) := by decide +kernel
theorem dX6_feedFor_52 : decode cX6_feedFor 52 = .ok (.getfield 64, 3) := by decide +kernel
theorem dX6_feedFor_55 : decode cX6_feedFor 55 = .ok (.iload_n 2, 1) := by decide +kernel
theorem dX6_feedFor_56 : decode cX6_feedFor 56 = .ok (.iload_n 3, 1) := by decide +kernel
theorem dX6_feedFor_57 : decode cX6_feedFor 57 = .ok (.iconst 0, 1) := by decide +kernel
theorem dX6_feedFor_58 : decode cX6_feedFor 58 = .ok (.iconst 0, 1) := by decide +kernel
theorem dX6_feedFor_59 : decode cX6_feedFor 59 = .ok (.invokevirtual 229, 3) := by decide +kernel
theorem dX6_feedFor_62 : decode cX6_feedFor 62 = .ok (.ifCond .eq 9, 3) := by decide +kernel
theorem dX6_feedFor_65 : decode cX6_feedFor 65 = .ok (.aload_n 0, 1) := by decide +kernel
theorem dX6_feedFor_66 : decode cX6_feedFor 66 = .ok (.iload_n 3, 1) := by decide +kernel
theorem dX6_feedFor_67 : decode cX6_feedFor 67 = .ok (.invokevirtual 107, 3) := by decide +kernel
theorem dX6_feedFor_70 : decode cX6_feedFor 70 = .ok (.ireturn, 1) := by decide +kernel
theorem dX6_feedFor_71 : decode cX6_feedFor 71 = .ok (.iinc 3 1, 3) := by decide +kernel
theorem dX6_feedFor_74 : decode cX6_feedFor 74 = .ok (.goto (-29), 3) := by decide +kernel
theorem dX6_feedFor_77 : decode cX6_feedFor 77 = .ok (.aload_n 0, 1) := by decide +kernel
theorem dX6_feedFor_78 : decode cX6_feedFor 78 = .ok (.bipush (-2), 2) := by decide +kernel
theorem dX6_feedFor_80 : decode cX6_feedFor 80 = .ok (.invokevirtual 107, 3) := by decide +kernel
theorem dX6_feedFor_83 : decode cX6_feedFor 83 = .ok (.ireturn, 1) := by decide +kernel
def f_X6_feedFor_l45 : am_F := am_th (i_il 3) (am_th (i_ic (60)) (am_br (b_2 (fun x y => decide (y < x))) (am_to 77) (am_th (i_al 0) (am_th (i_gr 6 12) (am_th (i_il 2) (am_th (i_il 3) (am_th (i_ic (0)) (am_th (i_ic (0)) (am_th (i_cv 0 4 d_X0_fallsIn) (am_br (b_1 (fun x => decide (x = 0))) (am_th (i_inc 3 (1)) (am_to 45)) (am_th (i_al 0) (am_th (i_il 3) (am_th (i_cv 6 1 d_X6_answer) (r_i))))))))))))))
def f_X6_feedFor : am_F := am_th (i_al 0) (am_th (i_il 1) (am_th (i_cv 6 1 d_X6_isStanding) (am_br (b_1 (fun x => decide (¬ x = 0))) (am_th (i_il 2) (am_th (i_cs 1 d_X6_isAhead) (am_br (b_1 (fun x => decide (¬ x = 0))) (am_th (i_al 0) (am_th (i_gr 6 12) (am_th (i_al 0) (am_th (i_gr 6 3) (am_th (i_al 0) (am_th (i_gr 6 6) (am_th (i_il 1) (am_th (i_cv 0 3 d_X0_begin) (am_th (i_ic (0)) (am_th (i_is 3) (am_sq 77 (am_lp 5000 45 f_X6_feedFor_l45) (am_th (i_al 0) (am_th (i_ic (-2)) (am_th (i_cv 6 1 d_X6_answer) (r_i))))))))))))))) (am_th (i_al 0) (am_th (i_ic (2)) (am_th (i_cv 6 1 d_X6_refuse) (r_i))))))) (am_th (i_al 0) (am_th (i_ic (1)) (am_th (i_cv 6 1 d_X6_refuse) (r_i)))))))
def d_X6_feedFor : am_D := am_den 4 f_X6_feedFor
set_option maxHeartbeats 4000000 in
set_option maxRecDepth 100000 in
theorem b_X6_feedFor : am_Body yX6_feedFor cX6_feedFor 4 (some .int) 3 71 f_X6_feedFor := by
  intro p l e R s m args below meth c g n0 z0 r0 u0 C hr hn
  have C : am_Cx p l e R s m args below meth c g RX6 cX6_feedFor 4 n0 z0 (am_len u0) (am_wt u0) 3 71 := C
  have l45 : am_Snd (am_GM p l e R s m args below meth c g 4 n0 z0 r0 u0) (am_Rt r0 u0) 45 (f_X6_feedFor_l45) := by
    unfold f_X6_feedFor_l45
    exact (so_th (so_iload_n C dX6_feedFor_45 rfl) (so_th (so_bipush C dX6_feedFor_46 (by decide)) (so_br (so_icmp_gt C dX6_feedFor_48 (by decide)) (so_to) (so_th (so_aload_n C dX6_feedFor_51 rfl) (so_th (so_getr C fl_RX6_64 dX6_feedFor_52) (so_th (so_iload_n C dX6_feedFor_55 rfl) (so_th (so_iload_n C dX6_feedFor_56 rfl) (so_th (so_iconst C dX6_feedFor_57 (by decide)) (so_th (so_iconst C dX6_feedFor_58 (by decide)) (so_th (so_cv C m_X0_fallsIn rfl k_415 k_417 k_416 k_418 k_21 ⟨by decide, by decide, by decide +kernel⟩ (by decide) dX6_feedFor_59) (so_br (so_if_eq C dX6_feedFor_62 (by decide)) (so_th (so_iinc C dX6_feedFor_71 (by decide) (by decide)) (so_goto C dX6_feedFor_74 (by decide) (so_to))) (so_th (so_aload_n C dX6_feedFor_65 rfl) (so_th (so_iload_n C dX6_feedFor_66 rfl) (so_th (so_cv C m_X6_answer rfl k_306 k_308 k_307 k_309 k_5 ⟨by decide, by decide, by decide +kernel⟩ (by decide) dX6_feedFor_67) (so_ri C hr dX6_feedFor_70)))))))))))))))
  unfold f_X6_feedFor
  exact (so_th (so_aload_n C dX6_feedFor_0 rfl) (so_th (so_iload_n C dX6_feedFor_1 rfl) (so_th (so_cv C m_X6_isStanding rfl k_362 k_364 k_363 k_365 k_5 ⟨by decide, by decide, by decide +kernel⟩ (by decide) dX6_feedFor_2) (so_br (so_if_ne C dX6_feedFor_5 (by decide)) (so_th (so_iload_n C dX6_feedFor_14 rfl) (so_th (so_cs C m_X6_isAhead k_412 k_414 k_413 k_5 ⟨by decide, by decide, by decide +kernel⟩ (by decide) dX6_feedFor_15) (so_br (so_if_ne C dX6_feedFor_18 (by decide)) (so_th (so_aload_n C dX6_feedFor_27 rfl) (so_th (so_getr C fl_RX6_64 dX6_feedFor_28) (so_th (so_aload_n C dX6_feedFor_31 rfl) (so_th (so_getr C fl_RX6_27 dX6_feedFor_32) (so_th (so_aload_n C dX6_feedFor_35 rfl) (so_th (so_getr C fl_RX6_41 dX6_feedFor_36) (so_th (so_iload_n C dX6_feedFor_39 rfl) (so_th (so_cv C m_X0_begin rfl k_392 k_394 k_393 k_395 k_21 ⟨by decide, by decide, by decide +kernel⟩ (by decide) dX6_feedFor_40) (so_th (so_iconst C dX6_feedFor_43 (by decide)) (so_th (so_istore_n C dX6_feedFor_44 rfl (by decide)) (so_sq (so_lp l45 5000) (so_th (so_aload_n C dX6_feedFor_77 rfl) (so_th (so_bipush C dX6_feedFor_78 (by decide)) (so_th (so_cv C m_X6_answer rfl k_306 k_308 k_307 k_309 k_5 ⟨by decide, by decide, by decide +kernel⟩ (by decide) dX6_feedFor_80) (so_ri C hr dX6_feedFor_83))))))))))))))) (so_th (so_aload_n C dX6_feedFor_21 rfl) (so_th (so_iconst C dX6_feedFor_22 (by decide)) (so_th (so_cv C m_X6_refuse rfl k_297 k_299 k_298 k_300 k_5 ⟨by decide, by decide, by decide +kernel⟩ (by decide) dX6_feedFor_23) (so_ri C hr dX6_feedFor_26))))))) (so_th (so_aload_n C dX6_feedFor_8 rfl) (so_th (so_iconst C dX6_feedFor_9 (by decide)) (so_th (so_cv C m_X6_refuse rfl k_297 k_299 k_298 k_300 k_5 ⟨by decide, by decide, by decide +kernel⟩ (by decide) dX6_feedFor_10) (so_ri C hr dX6_feedFor_13))))))))
theorem m_X6_feedFor : am_M yX6_feedFor cX6_feedFor 4 (some .int) 3 71 d_X6_feedFor := am_M_of (by decide +kernel) b_X6_feedFor
theorem dX6_feedAgainst_0 : decode cX6_feedAgainst 0 = .ok (.aload_n 0, 1) := by decide +kernel
theorem dX6_feedAgainst_1 : decode cX6_feedAgainst 1 = .ok (.iload_n 1, 1) := by decide +kernel
theorem dX6_feedAgainst_2 : decode cX6_feedAgainst 2 = .ok (.invokevirtual 173, 3) := by decide +kernel
theorem dX6_feedAgainst_5 : decode cX6_feedAgainst 5 = .ok (.ifCond .ne 9, 3) := by decide +kernel
theorem dX6_feedAgainst_8 : decode cX6_feedAgainst 8 = .ok (.aload_n 0, 1) := by decide +kernel
theorem dX6_feedAgainst_9 : decode cX6_feedAgainst 9 = .ok (.iconst 1, 1) := by decide +kernel
theorem dX6_feedAgainst_10 : decode cX6_feedAgainst 10 = .ok (.invokevirtual 92, 3) := by decide +kernel
theorem dX6_feedAgainst_13 : decode cX6_feedAgainst 13 = .ok (.ireturn, 1) := by decide +kernel
theorem dX6_feedAgainst_14 : decode cX6_feedAgainst 14 = .ok (.iload_n 2, 1) := by decide +kernel
theorem dX6_feedAgainst_15 : decode cX6_feedAgainst 15 = .ok (.invokestatic 226, 3) := by decide +kernel
theorem dX6_feedAgainst_18 : decode cX6_feedAgainst 18 = .ok (.ifCond .eq 13, 3) := by decide +kernel
theorem dX6_feedAgainst_21 : decode cX6_feedAgainst 21 = .ok (.iload_n 3, 1) := by decide +kernel
theorem dX6_feedAgainst_22 : decode cX6_feedAgainst 22 = .ok (.ifCond .lt 9, 3) := by decide +kernel
theorem dX6_feedAgainst_25 : decode cX6_feedAgainst 25 = .ok (.iload_n 3, 1) := by decide +kernel
theorem dX6_feedAgainst_26 : decode cX6_feedAgainst 26 = .ok (.bipush 9, 2) := by decide +kernel
theorem dX6_feedAgainst_28 : decode cX6_feedAgainst 28 = .ok (.if_icmp .le 9, 3) := by decide +kernel
theorem dX6_feedAgainst_31 : decode cX6_feedAgainst 31 = .ok (.aload_n 0, 1) := by decide +kernel
theorem dX6_feedAgainst_32 : decode cX6_feedAgainst 32 = .ok (.iconst 2, 1) := by decide +kernel
theorem dX6_feedAgainst_33 : decode cX6_feedAgainst 33 = .ok (.invokevirtual 92, 3) := by decide +kernel
theorem dX6_feedAgainst_36 : decode cX6_feedAgainst 36 = .ok (.ireturn, 1) := by decide +kernel
theorem dX6_feedAgainst_37 : decode cX6_feedAgainst 37 = .ok (.aload_n 0, 1) := by decide +kernel
theorem dX6_feedAgainst_38 : decode cX6_feedAgainst 38 = .ok (.getfield 64, 3) := by decide +kernel
theorem dX6_feedAgainst_41 : decode cX6_feedAgainst 41 = .ok (.aload_n 0, 1) := by decide +kernel
theorem dX6_feedAgainst_42 : decode cX6_feedAgainst 42 = .ok (.getfield 27, 3) := by decide +kernel
theorem dX6_feedAgainst_45 : decode cX6_feedAgainst 45 = .ok (.aload_n 0, 1) := by decide +kernel
theorem dX6_feedAgainst_46 : decode cX6_feedAgainst 46 = .ok (.getfield 41, 3) := by decide +kernel
theorem dX6_feedAgainst_49 : decode cX6_feedAgainst 49 = .ok (.iload_n 1, 1) := by decide +kernel
theorem dX6_feedAgainst_50 : decode cX6_feedAgainst 50 = .ok (.invokevirtual 209, 3) := by decide +kernel
theorem dX6_feedAgainst_53 : decode cX6_feedAgainst 53 = .ok (.iconst 0, 1) := by decide +kernel
theorem dX6_feedAgainst_54 : decode cX6_feedAgainst 54 = .ok (.istore 4, 2) := by decide +kernel
theorem dX6_feedAgainst_56 : decode cX6_feedAgainst 56 = .ok (.iload 4, 2) := by decide +kernel
theorem dX6_feedAgainst_58 : decode cX6_feedAgainst 58 = .ok (.bipush 60, 2) := by decide +kernel
theorem dX6_feedAgainst_60 : decode cX6_feedAgainst 60 = .ok (.if_icmp .gt 31, 3) := by decide +kernel
theorem dX6_feedAgainst_63 : decode cX6_feedAgainst 63 = .ok (.aload_n 0, 1) := by decide +kernel
theorem dX6_feedAgainst_64 : decode cX6_feedAgainst 64 = .ok (.getfield 64, 3) := by decide +kernel
theorem dX6_feedAgainst_67 : decode cX6_feedAgainst 67 = .ok (.iload_n 2, 1) := by decide +kernel
theorem dX6_feedAgainst_68 : decode cX6_feedAgainst 68 = .ok (.iconst 0, 1) := by decide +kernel
theorem dX6_feedAgainst_69 : decode cX6_feedAgainst 69 = .ok (.iload 4, 2) := by decide +kernel
theorem dX6_feedAgainst_71 : decode cX6_feedAgainst 71 = .ok (.iload_n 3, 1) := by decide +kernel
theorem dX6_feedAgainst_72 : decode cX6_feedAgainst 72 = .ok (.invokevirtual 229, 3) := by decide +kernel
theorem dX6_feedAgainst_75 : decode cX6_feedAgainst 75 = .ok (.ifCond .eq 10, 3) := by decide +kernel
theorem dX6_feedAgainst_78 : decode cX6_feedAgainst 78 = .ok (.aload_n 0, 1) := by decide +kernel
theorem dX6_feedAgainst_79 : decode cX6_feedAgainst 79 = .ok (.iload 4, 2) := by decide +kernel
theorem dX6_feedAgainst_81 : decode cX6_feedAgainst 81 = .ok (.invokevirtual 107, 3) := by decide +kernel
theorem dX6_feedAgainst_84 : decode cX6_feedAgainst 84 = .ok (.ireturn, 1) := by decide +kernel
theorem dX6_feedAgainst_85 : decode cX6_feedAgainst 85 = .ok (.iinc 4 1, 3) := by decide +kernel
theorem dX6_feedAgainst_88 : decode cX6_feedAgainst 88 = .ok (.goto (-32), 3) := by decide +kernel
theorem dX6_feedAgainst_91 : decode cX6_feedAgainst 91 = .ok (.aload_n 0, 1) := by decide +kernel
theorem dX6_feedAgainst_92 : decode cX6_feedAgainst 92 = .ok (.bipush (-2), 2) := by decide +kernel
theorem dX6_feedAgainst_94 : decode cX6_feedAgainst 94 = .ok (.invokevirtual 107, 3) := by decide +kernel
theorem dX6_feedAgainst_97 : decode cX6_feedAgainst 97 = .ok (.ireturn, 1) := by decide +kernel
def f_X6_feedAgainst_l56 : am_F := am_th (i_il 4) (am_th (i_ic (60)) (am_br (b_2 (fun x y => decide (y < x))) (am_to 91) (am_th (i_al 0) (am_th (i_gr 6 12) (am_th (i_il 2) (am_th (i_ic (0)) (am_th (i_il 4) (am_th (i_il 3) (am_th (i_cv 0 4 d_X0_fallsIn) (am_br (b_1 (fun x => decide (x = 0))) (am_th (i_inc 4 (1)) (am_to 56)) (am_th (i_al 0) (am_th (i_il 4) (am_th (i_cv 6 1 d_X6_answer) (r_i))))))))))))))
def f_X6_feedAgainst : am_F := am_th (i_al 0) (am_th (i_il 1) (am_th (i_cv 6 1 d_X6_isStanding) (am_br (b_1 (fun x => decide (¬ x = 0))) (am_th (i_il 2) (am_th (i_cs 1 d_X6_isAhead) (am_br (b_1 (fun x => decide (x = 0))) (am_th (i_al 0) (am_th (i_ic (2)) (am_th (i_cv 6 1 d_X6_refuse) (r_i)))) (am_th (i_il 3) (am_br (b_1 (fun x => decide (x < 0))) (am_th (i_al 0) (am_th (i_ic (2)) (am_th (i_cv 6 1 d_X6_refuse) (r_i)))) (am_th (i_il 3) (am_th (i_ic (9)) (am_br (b_2 (fun x y => decide (x ≤ y))) (am_th (i_al 0) (am_th (i_gr 6 12) (am_th (i_al 0) (am_th (i_gr 6 3) (am_th (i_al 0) (am_th (i_gr 6 6) (am_th (i_il 1) (am_th (i_cv 0 3 d_X0_begin) (am_th (i_ic (0)) (am_th (i_is 4) (am_sq 91 (am_lp 5000 56 f_X6_feedAgainst_l56) (am_th (i_al 0) (am_th (i_ic (-2)) (am_th (i_cv 6 1 d_X6_answer) (r_i))))))))))))))) (am_th (i_al 0) (am_th (i_ic (2)) (am_th (i_cv 6 1 d_X6_refuse) (r_i)))))))))))) (am_th (i_al 0) (am_th (i_ic (1)) (am_th (i_cv 6 1 d_X6_refuse) (r_i)))))))
def d_X6_feedAgainst : am_D := am_den 5 f_X6_feedAgainst
set_option maxHeartbeats 4000000 in
set_option maxRecDepth 100000 in
theorem b_X6_feedAgainst : am_Body yX6_feedAgainst cX6_feedAgainst 5 (some .int) 3 71 f_X6_feedAgainst := by
  intro p l e R s m args below meth c g n0 z0 r0 u0 C hr hn
  have C : am_Cx p l e R s m args below meth c g RX6 cX6_feedAgainst 5 n0 z0 (am_len u0) (am_wt u0) 3 71 := C
  have l56 : am_Snd (am_GM p l e R s m args below meth c g 5 n0 z0 r0 u0) (am_Rt r0 u0) 56 (f_X6_feedAgainst_l56) := by
    unfold f_X6_feedAgainst_l56
    exact (so_th (so_iload C dX6_feedAgainst_56) (so_th (so_bipush C dX6_feedAgainst_58 (by decide)) (so_br (so_icmp_gt C dX6_feedAgainst_60 (by decide)) (so_to) (so_th (so_aload_n C dX6_feedAgainst_63 rfl) (so_th (so_getr C fl_RX6_64 dX6_feedAgainst_64) (so_th (so_iload_n C dX6_feedAgainst_67 rfl) (so_th (so_iconst C dX6_feedAgainst_68 (by decide)) (so_th (so_iload C dX6_feedAgainst_69) (so_th (so_iload_n C dX6_feedAgainst_71 rfl) (so_th (so_cv C m_X0_fallsIn rfl k_415 k_417 k_416 k_418 k_21 ⟨by decide, by decide, by decide +kernel⟩ (by decide) dX6_feedAgainst_72) (so_br (so_if_eq C dX6_feedAgainst_75 (by decide)) (so_th (so_iinc C dX6_feedAgainst_85 (by decide) (by decide)) (so_goto C dX6_feedAgainst_88 (by decide) (so_to))) (so_th (so_aload_n C dX6_feedAgainst_78 rfl) (so_th (so_iload C dX6_feedAgainst_79) (so_th (so_cv C m_X6_answer rfl k_306 k_308 k_307 k_309 k_5 ⟨by decide, by decide, by decide +kernel⟩ (by decide) dX6_feedAgainst_81) (so_ri C hr dX6_feedAgainst_84)))))))))))))))
  unfold f_X6_feedAgainst
  exact (so_th (so_aload_n C dX6_feedAgainst_0 rfl) (so_th (so_iload_n C dX6_feedAgainst_1 rfl) (so_th (so_cv C m_X6_isStanding rfl k_362 k_364 k_363 k_365 k_5 ⟨by decide, by decide, by decide +kernel⟩ (by decide) dX6_feedAgainst_2) (so_br (so_if_ne C dX6_feedAgainst_5 (by decide)) (so_th (so_iload_n C dX6_feedAgainst_14 rfl) (so_th (so_cs C m_X6_isAhead k_412 k_414 k_413 k_5 ⟨by decide, by decide, by decide +kernel⟩ (by decide) dX6_feedAgainst_15) (so_br (so_if_eq C dX6_feedAgainst_18 (by decide)) (so_th (so_aload_n C dX6_feedAgainst_31 rfl) (so_th (so_iconst C dX6_feedAgainst_32 (by decide)) (so_th (so_cv C m_X6_refuse rfl k_297 k_299 k_298 k_300 k_5 ⟨by decide, by decide, by decide +kernel⟩ (by decide) dX6_feedAgainst_33) (so_ri C hr dX6_feedAgainst_36)))) (so_th (so_iload_n C dX6_feedAgainst_21 rfl) (so_br (so_if_lt C dX6_feedAgainst_22 (by decide)) (so_th (so_aload_n C dX6_feedAgainst_31 rfl) (so_th (so_iconst C dX6_feedAgainst_32 (by decide)) (so_th (so_cv C m_X6_refuse rfl k_297 k_299 k_298 k_300 k_5 ⟨by decide, by decide, by decide +kernel⟩ (by decide) dX6_feedAgainst_33) (so_ri C hr dX6_feedAgainst_36)))) (so_th (so_iload_n C dX6_feedAgainst_25 rfl) (so_th (so_bipush C dX6_feedAgainst_26 (by decide)) (so_br (so_icmp_le C dX6_feedAgainst_28 (by decide)) (so_th (so_aload_n C dX6_feedAgainst_37 rfl) (so_th (so_getr C fl_RX6_64 dX6_feedAgainst_38) (so_th (so_aload_n C dX6_feedAgainst_41 rfl) (so_th (so_getr C fl_RX6_27 dX6_feedAgainst_42) (so_th (so_aload_n C dX6_feedAgainst_45 rfl) (so_th (so_getr C fl_RX6_41 dX6_feedAgainst_46) (so_th (so_iload_n C dX6_feedAgainst_49 rfl) (so_th (so_cv C m_X0_begin rfl k_392 k_394 k_393 k_395 k_21 ⟨by decide, by decide, by decide +kernel⟩ (by decide) dX6_feedAgainst_50) (so_th (so_iconst C dX6_feedAgainst_53 (by decide)) (so_th (so_istore C dX6_feedAgainst_54 (by decide)) (so_sq (so_lp l56 5000) (so_th (so_aload_n C dX6_feedAgainst_91 rfl) (so_th (so_bipush C dX6_feedAgainst_92 (by decide)) (so_th (so_cv C m_X6_answer rfl k_306 k_308 k_307 k_309 k_5 ⟨by decide, by decide, by decide +kernel⟩ (by decide) dX6_feedAgainst_94) (so_ri C hr dX6_feedAgainst_97))))))))))))))) (so_th (so_aload_n C dX6_feedAgainst_31 rfl) (so_th (so_iconst C dX6_feedAgainst_32 (by decide)) (so_th (so_cv C m_X6_refuse rfl k_297 k_299 k_298 k_300 k_5 ⟨by decide, by decide, by decide +kernel⟩ (by decide) dX6_feedAgainst_33) (so_ri C hr dX6_feedAgainst_36)))))))))))) (so_th (so_aload_n C dX6_feedAgainst_8 rfl) (so_th (so_iconst C dX6_feedAgainst_9 (by decide)) (so_th (so_cv C m_X6_refuse rfl k_297 k_299 k_298 k_300 k_5 ⟨by decide, by decide, by decide +kernel⟩ (by decide) dX6_feedAgainst_10) (so_ri C hr dX6_feedAgainst_13))))))))
theorem m_X6_feedAgainst : am_M yX6_feedAgainst cX6_feedAgainst 5 (some .int) 3 71 d_X6_feedAgainst := am_M_of (by decide +kernel) b_X6_feedAgainst
theorem dX6_share_0 : decode cX6_share 0 = .ok (.aload_n 0, 1) := by decide +kernel
theorem dX6_share_1 : decode cX6_share 1 = .ok (.iload_n 1, 1) := by decide +kernel
theorem dX6_share_2 : decode cX6_share 2 = .ok (.invokevirtual 173, 3) := by decide +kernel
theorem dX6_share_5 : decode cX6_share 5 = .ok (.ifCond .eq 11, 3) := by decide +kernel
theorem dX6_share_8 : decode cX6_share 8 = .ok (.aload_n 0, 1) := by decide +kernel
theorem dX6_share_9 : decode cX6_share 9 = .ok (.iload_n 2, 1) := by decide +kernel
theorem dX6_share_10 : decode cX6_share 10 = .ok (.invokevirtual 128, 3) := by decide +kernel
theorem dX6_share_13 : decode cX6_share 13 = .ok (.ifCond .ne 9, 3) := by decide +kernel
theorem dX6_share_16 : decode cX6_share 16 = .ok (.aload_n 0, 1) := by decide +kernel
theorem dX6_share_17 : decode cX6_share 17 = .ok (.iconst 1, 1) := by decide +kernel
theorem dX6_share_18 : decode cX6_share 18 = .ok (.invokevirtual 92, 3) := by decide +kernel
theorem dX6_share_21 : decode cX6_share 21 = .ok (.ireturn, 1) := by decide +kernel
theorem dX6_share_22 : decode cX6_share 22 = .ok (.iload_n 3, 1) := by decide +kernel
theorem dX6_share_23 : decode cX6_share 23 = .ok (.ifCond .lt 10, 3) := by decide +kernel
theorem dX6_share_26 : decode cX6_share 26 = .ok (.iload_n 3, 1) := by decide +kernel
theorem dX6_share_27 : decode cX6_share 27 = .ok (.sipush 999, 3) := by decide +kernel
theorem dX6_share_30 : decode cX6_share 30 = .ok (.if_icmp .le 9, 3) := by decide +kernel
theorem dX6_share_33 : decode cX6_share 33 = .ok (.aload_n 0, 1) := by decide +kernel
theorem dX6_share_34 : decode cX6_share 34 = .ok (.iconst 2, 1) := by decide +kernel
theorem dX6_share_35 : decode cX6_share 35 = .ok (.invokevirtual 92, 3) := by decide +kernel
theorem dX6_share_38 : decode cX6_share 38 = .ok (.ireturn, 1) := by decide +kernel
theorem dX6_share_39 : decode cX6_share 39 = .ok (.aload_n 0, 1) := by decide +kernel
theorem dX6_share_40 : decode cX6_share 40 = .ok (.aload_n 0, 1) := by decide +kernel
theorem dX6_share_41 : decode cX6_share 41 = .ok (.getfield 27, 3) := by decide +kernel
theorem dX6_share_44 : decode cX6_share 44 = .ok (.aload_n 0, 1) := by decide +kernel
theorem dX6_share_45 : decode cX6_share 45 = .ok (.getfield 41, 3) := by decide +kernel
theorem dX6_share_48 : decode cX6_share 48 = .ok (.aload_n 0, 1) := by decide +kernel
theorem dX6_share_49 : decode cX6_share 49 = .ok (.getfield 27, 3) := by decide +kernel
theorem dX6_share_52 : decode cX6_share 52 = .ok (.iload_n 1, 1) := by decide +kernel
theorem dX6_share_53 : decode cX6_share 53 = .ok (.invokevirtual 124, 3) := by decide +kernel
theorem dX6_share_56 : decode cX6_share 56 = .ok (.iload_n 2, 1) := by decide +kernel
theorem dX6_share_57 : decode cX6_share 57 = .ok (.iload_n 3, 1) := by decide +kernel
theorem dX6_share_58 : decode cX6_share 58 = .ok (.invokevirtual 233, 3) := by decide +kernel
theorem dX6_share_61 : decode cX6_share 61 = .ok (.invokevirtual 107, 3) := by decide +kernel
theorem dX6_share_64 : decode cX6_share 64 = .ok (.ireturn, 1) := by decide +kernel
def f_X6_share : am_F := am_th (i_al 0) (am_th (i_il 1) (am_th (i_cv 6 1 d_X6_isStanding) (am_br (b_1 (fun x => decide (x = 0))) (am_th (i_al 0) (am_th (i_ic (1)) (am_th (i_cv 6 1 d_X6_refuse) (r_i)))) (am_th (i_al 0) (am_th (i_il 2) (am_th (i_cv 6 1 d_X6_isFamily) (am_br (b_1 (fun x => decide (¬ x = 0))) (am_th (i_il 3) (am_br (b_1 (fun x => decide (x < 0))) (am_th (i_al 0) (am_th (i_ic (2)) (am_th (i_cv 6 1 d_X6_refuse) (r_i)))) (am_th (i_il 3) (am_th (i_ic (999)) (am_br (b_2 (fun x y => decide (x ≤ y))) (am_th (i_al 0) (am_th (i_al 0) (am_th (i_gr 6 3) (am_th (i_al 0) (am_th (i_gr 6 6) (am_th (i_al 0) (am_th (i_gr 6 3) (am_th (i_il 1) (am_th (i_cv 2 2 d_X2_partiesOf) (am_th (i_il 2) (am_th (i_il 3) (am_th (i_cv 5 3 d_X5_shareOf) (am_th (i_cv 6 1 d_X6_answer) (r_i)))))))))))))) (am_th (i_al 0) (am_th (i_ic (2)) (am_th (i_cv 6 1 d_X6_refuse) (r_i))))))))) (am_th (i_al 0) (am_th (i_ic (1)) (am_th (i_cv 6 1 d_X6_refuse) (r_i)))))))))))
def d_X6_share : am_D := am_den 4 f_X6_share
set_option maxHeartbeats 4000000 in
set_option maxRecDepth 100000 in
theorem b_X6_share : am_Body yX6_share cX6_share 4 (some .int) 3 73 f_X6_share := by
  intro p l e R s m args below meth c g n0 z0 r0 u0 C hr hn
  have C : am_Cx p l e R s m args below meth c g RX6 cX6_share 4 n0 z0 (am_len u0) (am_wt u0) 3 73 := C
  unfold f_X6_share
  exact (so_th (so_aload_n C dX6_share_0 rfl) (so_th (so_iload_n C dX6_share_1 rfl) (so_th (so_cv C m_X6_isStanding rfl k_362 k_364 k_363 k_365 k_5 ⟨by decide, by decide, by decide +kernel⟩ (by decide) dX6_share_2) (so_br (so_if_eq C dX6_share_5 (by decide)) (so_th (so_aload_n C dX6_share_16 rfl) (so_th (so_iconst C dX6_share_17 (by decide)) (so_th (so_cv C m_X6_refuse rfl k_297 k_299 k_298 k_300 k_5 ⟨by decide, by decide, by decide +kernel⟩ (by decide) dX6_share_18) (so_ri C hr dX6_share_21)))) (so_th (so_aload_n C dX6_share_8 rfl) (so_th (so_iload_n C dX6_share_9 rfl) (so_th (so_cv C m_X6_isFamily rfl k_326 k_328 k_327 k_329 k_5 ⟨by decide, by decide, by decide +kernel⟩ (by decide) dX6_share_10) (so_br (so_if_ne C dX6_share_13 (by decide)) (so_th (so_iload_n C dX6_share_22 rfl) (so_br (so_if_lt C dX6_share_23 (by decide)) (so_th (so_aload_n C dX6_share_33 rfl) (so_th (so_iconst C dX6_share_34 (by decide)) (so_th (so_cv C m_X6_refuse rfl k_297 k_299 k_298 k_300 k_5 ⟨by decide, by decide, by decide +kernel⟩ (by decide) dX6_share_35) (so_ri C hr dX6_share_38)))) (so_th (so_iload_n C dX6_share_26 rfl) (so_th (so_sipush C dX6_share_27 (by decide)) (so_br (so_icmp_le C dX6_share_30 (by decide)) (so_th (so_aload_n C dX6_share_39 rfl) (so_th (so_aload_n C dX6_share_40 rfl) (so_th (so_getr C fl_RX6_27 dX6_share_41) (so_th (so_aload_n C dX6_share_44 rfl) (so_th (so_getr C fl_RX6_41 dX6_share_45) (so_th (so_aload_n C dX6_share_48 rfl) (so_th (so_getr C fl_RX6_27 dX6_share_49) (so_th (so_iload_n C dX6_share_52 rfl) (so_th (so_cv C m_X2_partiesOf rfl k_67 k_325 k_68 k_70 k_40 ⟨by decide, by decide, by decide +kernel⟩ (by decide) dX6_share_53) (so_th (so_iload_n C dX6_share_56 rfl) (so_th (so_iload_n C dX6_share_57 rfl) (so_th (so_cv C m_X5_shareOf rfl k_419 k_421 k_420 k_422 k_8 ⟨by decide, by decide, by decide +kernel⟩ (by decide) dX6_share_58) (so_th (so_cv C m_X6_answer rfl k_306 k_308 k_307 k_309 k_5 ⟨by decide, by decide, by decide +kernel⟩ (by decide) dX6_share_61) (so_ri C hr dX6_share_64)))))))))))))) (so_th (so_aload_n C dX6_share_33 rfl) (so_th (so_iconst C dX6_share_34 (by decide)) (so_th (so_cv C m_X6_refuse rfl k_297 k_299 k_298 k_300 k_5 ⟨by decide, by decide, by decide +kernel⟩ (by decide) dX6_share_35) (so_ri C hr dX6_share_38))))))))) (so_th (so_aload_n C dX6_share_16 rfl) (so_th (so_iconst C dX6_share_17 (by decide)) (so_th (so_cv C m_X6_refuse rfl k_297 k_299 k_298 k_300 k_5 ⟨by decide, by decide, by decide +kernel⟩ (by decide) dX6_share_18) (so_ri C hr dX6_share_21))))))))))))
theorem m_X6_share : am_M yX6_share cX6_share 4 (some .int) 3 73 d_X6_share := am_M_of (by decide +kernel) b_X6_share
theorem dX6_fruitByGame_0 : decode cX6_fruitByGame 0 = .ok (.iconst 0, 1) := by decide +kernel
theorem dX6_fruitByGame_1 : decode cX6_fruitByGame 1 = .ok (.aload_n 0, 1) := by decide +kernel
theorem dX6_fruitByGame_2 : decode cX6_fruitByGame 2 = .ok (.getfield 41, 3) := by decide +kernel
theorem dX6_fruitByGame_5 : decode cX6_fruitByGame 5 = .ok (.getfield 179, 3) := by decide +kernel
theorem dX6_fruitByGame_8 : decode cX6_fruitByGame 8 = .ok (.iload_n 1, 1) := by decide +kernel
theorem dX6_fruitByGame_9 : decode cX6_fruitByGame 9 = .ok (.iaload, 1) := by decide +kernel
theorem dX6_fruitByGame_10 : decode cX6_fruitByGame 10 = .ok (.iload_n 2, 1) := by decide +kernel
theorem dX6_fruitByGame_11 : decode cX6_fruitByGame 11 = .ok (.iadd, 1) := by decide +kernel
theorem dX6_fruitByGame_12 : decode cX6_fruitByGame 12 = .ok (.iload_n 3, 1) := by decide +kernel
theorem dX6_fruitByGame_13 : decode cX6_fruitByGame 13 = .ok (.isub, 1) := by decide +kernel
theorem dX6_fruitByGame_14 : decode cX6_fruitByGame 14 = .ok (.invokestatic 327, 3) := by decide +kernel
theorem dX6_fruitByGame_17 : decode cX6_fruitByGame 17 = .ok (.aload_n 0, 1) := by decide +kernel
theorem dX6_fruitByGame_18 : decode cX6_fruitByGame 18 = .ok (.getfield 27, 3) := by decide +kernel
theorem dX6_fruitByGame_21 : decode cX6_fruitByGame 21 = .ok (.getfield 332, 3) := by decide +kernel
theorem dX6_fruitByGame_24 : decode cX6_fruitByGame 24 = .ok (.if_icmp .lt 7, 3) := by decide +kernel
theorem dX6_fruitByGame_27 : decode cX6_fruitByGame 27 = .ok (.iconst 1, 1) := by decide +kernel
theorem dX6_fruitByGame_28 : decode cX6_fruitByGame 28 = .ok (.goto 4, 3) := by decide +kernel
theorem dX6_fruitByGame_31 : decode cX6_fruitByGame 31 = .ok (.iconst 0, 1) := by decide +kernel
theorem dX6_fruitByGame_32 : decode cX6_fruitByGame 32 = .ok (.ireturn, 1) := by decide +kernel
def f_X6_fruitByGame : am_F := am_th (i_ic (0)) (am_th (i_al 0) (am_th (i_gr 6 6) (am_th (i_gr 2 2) (am_th (i_il 1) (am_th (i_ia 0) (am_th (i_il 2) (am_th (i_2 (fun x y => x + y)) (am_th (i_il 3) (am_th (i_2 (fun x y => x - y)) (am_th (i_mx (fun x y => if x < y then y else x)) (am_th (i_al 0) (am_th (i_gr 6 3) (am_th (i_gi 5 1) (am_br (b_2 (fun x y => decide (x < y))) (am_th (i_ic (0)) (r_z)) (am_th (i_ic (1)) (r_z))))))))))))))))
def d_X6_fruitByGame : am_D := am_den 4 f_X6_fruitByGame
set_option maxHeartbeats 4000000 in
set_option maxRecDepth 100000 in
theorem b_X6_fruitByGame : am_Body yX6_fruitByGame cX6_fruitByGame 4 (some .boolean) 1 21 f_X6_fruitByGame := by
  intro p l e R s m args below meth c g n0 z0 r0 u0 C hr hn
  have C : am_Cx p l e R s m args below meth c g RX6 cX6_fruitByGame 4 n0 z0 (am_len u0) (am_wt u0) 1 21 := C
  unfold f_X6_fruitByGame
  exact (so_th (so_iconst C dX6_fruitByGame_0 (by decide)) (so_th (so_aload_n C dX6_fruitByGame_1 rfl) (so_th (so_getr C fl_RX6_41 dX6_fruitByGame_2) (so_th (so_getr C fl_RX6_179 dX6_fruitByGame_5) (so_th (so_iload_n C dX6_fruitByGame_8 rfl) (so_th (so_iald C dX6_fruitByGame_9) (so_th (so_iload_n C dX6_fruitByGame_10 rfl) (so_th (so_iadd C dX6_fruitByGame_11) (so_th (so_iload_n C dX6_fruitByGame_12 rfl) (so_th (so_isub C dX6_fruitByGame_13) (so_th (so_max C k_423 k_17 k_18 k_19 (by decide) dX6_fruitByGame_14) (so_th (so_aload_n C dX6_fruitByGame_17 rfl) (so_th (so_getr C fl_RX6_27 dX6_fruitByGame_18) (so_th (so_geti C fl_RX6_332 (by decide) dX6_fruitByGame_21) (so_br (so_icmp_lt C dX6_fruitByGame_24 (by decide)) (so_th (so_iconst C dX6_fruitByGame_31 (by decide)) (so_rz C hr dX6_fruitByGame_32)) (so_th (so_iconst C dX6_fruitByGame_27 (by decide)) (so_goto C dX6_fruitByGame_28 (by decide) (so_rz C hr dX6_fruitByGame_32))))))))))))))))))
theorem m_X6_fruitByGame : am_M yX6_fruitByGame cX6_fruitByGame 4 (some .boolean) 1 21 d_X6_fruitByGame := am_M_of (by decide +kernel) b_X6_fruitByGame
theorem dX6_guardHas_0 : decode cX6_guardHas 0 = .ok (.aload_n 0, 1) := by decide +kernel
theorem dX6_guardHas_1 : decode cX6_guardHas 1 = .ok (.iload_n 1, 1) := by decide +kernel
theorem dX6_guardHas_2 : decode cX6_guardHas 2 = .ok (.iload_n 2, 1) := by decide +kernel
theorem dX6_guardHas_3 : decode cX6_guardHas 3 = .ok (.iload_n 3, 1) := by decide +kernel
theorem dX6_guardHas_4 : decode cX6_guardHas 4 = .ok (.invokevirtual 335, 3) := by decide +kernel
theorem dX6_guardHas_7 : decode cX6_guardHas 7 = .ok (.ifCond .eq 8, 3) := by decide +kernel
theorem dX6_guardHas_10 : decode cX6_guardHas 10 = .ok (.bipush (-9), 2) := by decide +kernel
theorem dX6_guardHas_12 : decode cX6_guardHas 12 = .ok (.goto 4, 3) := by decide +kernel
theorem dX6_guardHas_15 : decode cX6_guardHas 15 = .ok (.iconst 0, 1) := by decide +kernel
theorem dX6_guardHas_16 : decode cX6_guardHas 16 = .ok (.iload_n 3, 1) := by decide +kernel
theorem dX6_guardHas_17 : decode cX6_guardHas 17 = .ok (.isub, 1) := by decide +kernel
theorem dX6_guardHas_18 : decode cX6_guardHas 18 = .ok (.ireturn, 1) := by decide +kernel
def f_X6_guardHas : am_F := am_th (i_al 0) (am_th (i_il 1) (am_th (i_il 2) (am_th (i_il 3) (am_th (i_cv 6 3 d_X6_fruitByGame) (am_br (b_1 (fun x => decide (x = 0))) (am_th (i_ic (0)) (am_th (i_il 3) (am_th (i_2 (fun x y => x - y)) (r_i)))) (am_th (i_ic (-9)) (am_th (i_il 3) (am_th (i_2 (fun x y => x - y)) (r_i)))))))))
def d_X6_guardHas : am_D := am_den 4 f_X6_guardHas
set_option maxHeartbeats 4000000 in
set_option maxRecDepth 100000 in
theorem b_X6_guardHas : am_Body yX6_guardHas cX6_guardHas 4 (some .int) 2 44 f_X6_guardHas := by
  intro p l e R s m args below meth c g n0 z0 r0 u0 C hr hn
  have C : am_Cx p l e R s m args below meth c g RX6 cX6_guardHas 4 n0 z0 (am_len u0) (am_wt u0) 2 44 := C
  unfold f_X6_guardHas
  exact (so_th (so_aload_n C dX6_guardHas_0 rfl) (so_th (so_iload_n C dX6_guardHas_1 rfl) (so_th (so_iload_n C dX6_guardHas_2 rfl) (so_th (so_iload_n C dX6_guardHas_3 rfl) (so_th (so_cv C m_X6_fruitByGame rfl k_424 k_426 k_425 k_427 k_5 ⟨by decide, by decide, by decide +kernel⟩ (by decide) dX6_guardHas_4) (so_br (so_if_eq C dX6_guardHas_7 (by decide)) (so_th (so_iconst C dX6_guardHas_15 (by decide)) (so_th (so_iload_n C dX6_guardHas_16 rfl) (so_th (so_isub C dX6_guardHas_17) (so_ri C hr dX6_guardHas_18)))) (so_th (so_bipush C dX6_guardHas_10 (by decide)) (so_goto C dX6_guardHas_12 (by decide) (so_th (so_iload_n C dX6_guardHas_16 rfl) (so_th (so_isub C dX6_guardHas_17) (so_ri C hr dX6_guardHas_18)))))))))))
theorem m_X6_guardHas : am_M yX6_guardHas cX6_guardHas 4 (some .int) 2 44 d_X6_guardHas := am_M_of (by decide +kernel) b_X6_guardHas
theorem dX6_feederHas_0 : decode cX6_feederHas 0 = .ok (.aload_n 0, 1) := by decide +kernel
theorem dX6_feederHas_1 : decode cX6_feederHas 1 = .ok (.iload_n 1, 1) := by decide +kernel
theorem dX6_feederHas_2 : decode cX6_feederHas 2 = .ok (.iload_n 2, 1) := by decide +kernel
theorem dX6_feederHas_3 : decode cX6_feederHas 3 = .ok (.iload_n 3, 1) := by decide +kernel
theorem dX6_feederHas_4 : decode cX6_feederHas 4 = .ok (.invokevirtual 335, 3) := by decide +kernel
theorem dX6_feederHas_7 : decode cX6_feederHas 7 = .ok (.ifCond .eq 8, 3) := by decide +kernel
theorem dX6_feederHas_10 : decode cX6_feederHas 10 = .ok (.bipush 9, 2) := by decide +kernel
theorem dX6_feederHas_12 : decode cX6_feederHas 12 = .ok (.goto 4, 3) := by decide +kernel
theorem dX6_feederHas_15 : decode cX6_feederHas 15 = .ok (.iconst 0, 1) := by decide +kernel
theorem dX6_feederHas_16 : decode cX6_feederHas 16 = .ok (.iload_n 2, 1) := by decide +kernel
theorem dX6_feederHas_17 : decode cX6_feederHas 17 = .ok (.isub, 1) := by decide +kernel
theorem dX6_feederHas_18 : decode cX6_feederHas 18 = .ok (.ireturn, 1) := by decide +kernel
def f_X6_feederHas : am_F := am_th (i_al 0) (am_th (i_il 1) (am_th (i_il 2) (am_th (i_il 3) (am_th (i_cv 6 3 d_X6_fruitByGame) (am_br (b_1 (fun x => decide (x = 0))) (am_th (i_ic (0)) (am_th (i_il 2) (am_th (i_2 (fun x y => x - y)) (r_i)))) (am_th (i_ic (9)) (am_th (i_il 2) (am_th (i_2 (fun x y => x - y)) (r_i)))))))))
def d_X6_feederHas : am_D := am_den 4 f_X6_feederHas
set_option maxHeartbeats 4000000 in
set_option maxRecDepth 100000 in
theorem b_X6_feederHas : am_Body yX6_feederHas cX6_feederHas 4 (some .int) 2 44 f_X6_feederHas := by
  intro p l e R s m args below meth c g n0 z0 r0 u0 C hr hn
  have C : am_Cx p l e R s m args below meth c g RX6 cX6_feederHas 4 n0 z0 (am_len u0) (am_wt u0) 2 44 := C
  unfold f_X6_feederHas
  exact (so_th (so_aload_n C dX6_feederHas_0 rfl) (so_th (so_iload_n C dX6_feederHas_1 rfl) (so_th (so_iload_n C dX6_feederHas_2 rfl) (so_th (so_iload_n C dX6_feederHas_3 rfl) (so_th (so_cv C m_X6_fruitByGame rfl k_424 k_426 k_425 k_427 k_5 ⟨by decide, by decide, by decide +kernel⟩ (by decide) dX6_feederHas_4) (so_br (so_if_eq C dX6_feederHas_7 (by decide)) (so_th (so_iconst C dX6_feederHas_15 (by decide)) (so_th (so_iload_n C dX6_feederHas_16 rfl) (so_th (so_isub C dX6_feederHas_17) (so_ri C hr dX6_feederHas_18)))) (so_th (so_bipush C dX6_feederHas_10 (by decide)) (so_goto C dX6_feederHas_12 (by decide) (so_th (so_iload_n C dX6_feederHas_16 rfl) (so_th (so_isub C dX6_feederHas_17) (so_ri C hr dX6_feederHas_18)))))))))))
theorem m_X6_feederHas : am_M yX6_feederHas cX6_feederHas 4 (some .int) 2 44 d_X6_feederHas := am_M_of (by decide +kernel) b_X6_feederHas
theorem dX6_game_0 : decode cX6_game 0 = .ok (.aload_n 0, 1) := by decide +kernel
theorem dX6_game_1 : decode cX6_game 1 = .ok (.iload_n 1, 1) := by decide +kernel
theorem dX6_game_2 : decode cX6_game 2 = .ok (.invokevirtual 173, 3) := by decide +kernel
theorem dX6_game_5 : decode cX6_game 5 = .ok (.ifCond .ne 9, 3) := by decide +kernel
theorem dX6_game_8 : decode cX6_game 8 = .ok (.aload_n 0, 1) := by decide +kernel
theorem dX6_game_9 : decode cX6_game 9 = .ok (.iconst 1, 1) := by decide +kernel
theorem dX6_game_10 : decode cX6_game 10 = .ok (.invokevirtual 176, 3) := by decide +kernel
theorem dX6_game_13 : decode cX6_game 13 = .ok (.ireturn, 1) := by decide +kernel
theorem dX6_game_14 : decode cX6_game 14 = .ok (.iload_n 2, 1) := by decide +kernel
theorem dX6_game_15 : decode cX6_game 15 = .ok (.ifCond .lt 17, 3) := by decide +kernel
theorem dX6_game_18 : decode cX6_game 18 = .ok (.iload_n 2, 1) := by decide +kernel
theorem dX6_game_19 : decode cX6_game 19 = .ok (.iconst 4, 1) := by decide +kernel
theorem dX6_game_20 : decode cX6_game 20 = .ok (.if_icmp .gt 12, 3) := by decide +kernel
theorem dX6_game_23 : decode cX6_game 23 = .ok (.iload_n 3, 1) := by decide +kernel
theorem dX6_game_24 : decode cX6_game 24 = .ok (.ifCond .lt 8, 3) := by decide +kernel
theorem dX6_game_27 : decode cX6_game 27 = .ok (.iload_n 3, 1) := by decide +kernel
theorem dX6_game_28 : decode cX6_game 28 = .ok (.iconst 4, 1) := by decide +kernel
theorem dX6_game_29 : decode cX6_game 29 = .ok (.if_icmp .le 9, 3) := by decide +kernel
theorem dX6_game_32 : decode cX6_game 32 = .ok (.aload_n 0, 1) := by decide +kernel
theorem dX6_game_33 : decode cX6_game 33 = .ok (.iconst 2, 1) := by decide +kernel
theorem dX6_game_34 : decode cX6_game 34 = .ok (.invokevirtual 176, 3) := by decide +kernel
theorem dX6_game_37 : decode cX6_game 37 = .ok (.ireturn, 1) := by decide +kernel
theorem dX6_game_38 : decode cX6_game 38 = .ok (.aload_n 0, 1) := by decide +kernel
theorem dX6_game_39 : decode cX6_game 39 = .ok (.iload 4, 2) := by decide +kernel
theorem dX6_game_41 : decode cX6_game 41 = .ok (.ifCond .eq 13, 3) := by decide +kernel
theorem dX6_game_44 : decode cX6_game 44 = .ok (.aload_n 0, 1) := by decide +kernel
theorem dX6_game_45 : decode cX6_game 45 = .ok (.iload_n 1, 1) := by decide +kernel
theorem dX6_game_46 : decode cX6_game 46 = .ok (.iload_n 2, 1) := by decide +kernel
theorem dX6_game_47 : decode cX6_game 47 = .ok (.iload_n 3, 1) := by decide +kernel
theorem dX6_game_48 : decode cX6_game 48 = .ok (.invokevirtual 236, 3) := by decide +kernel
theorem dX6_game_51 : decode cX6_game 51 = .ok (.goto 10, 3) := by decide +kernel
theorem dX6_game_54 : decode cX6_game 54 = .ok (.aload_n 0, 1) := by decide +kernel
theorem dX6_game_55 : decode cX6_game 55 = .ok (.iload_n 1, 1) := by decide +kernel
theorem dX6_game_56 : decode cX6_game 56 = .ok (.iload_n 2, 1) := by decide +kernel
theorem dX6_game_57 : decode cX6_game 57 = .ok (.iload_n 3, 1) := by decide +kernel
theorem dX6_game_58 : decode cX6_game 58 = .ok (.invokevirtual 239, 3) := by decide +kernel
theorem dX6_game_61 : decode cX6_game 61 = .ok (.invokevirtual 107, 3) := by decide +kernel
theorem dX6_game_64 : decode cX6_game 64 = .ok (.ireturn, 1) := by decide +kernel
def f_X6_game : am_F := am_th (i_al 0) (am_th (i_il 1) (am_th (i_cv 6 1 d_X6_isStanding) (am_br (b_1 (fun x => decide (¬ x = 0))) (am_th (i_il 2) (am_br (b_1 (fun x => decide (x < 0))) (am_th (i_al 0) (am_th (i_ic (2)) (am_th (i_cv 6 1 d_X6_refuseFarBelow) (r_i)))) (am_th (i_il 2) (am_th (i_ic (4)) (am_br (b_2 (fun x y => decide (y < x))) (am_th (i_al 0) (am_th (i_ic (2)) (am_th (i_cv 6 1 d_X6_refuseFarBelow) (r_i)))) (am_th (i_il 3) (am_br (b_1 (fun x => decide (x < 0))) (am_th (i_al 0) (am_th (i_ic (2)) (am_th (i_cv 6 1 d_X6_refuseFarBelow) (r_i)))) (am_th (i_il 3) (am_th (i_ic (4)) (am_br (b_2 (fun x y => decide (x ≤ y))) (am_th (i_al 0) (am_th (i_il 4) (am_br (b_1 (fun x => decide (x = 0))) (am_th (i_al 0) (am_th (i_il 1) (am_th (i_il 2) (am_th (i_il 3) (am_th (i_cv 6 3 d_X6_feederHas) (am_th (i_cv 6 1 d_X6_answer) (r_i))))))) (am_th (i_al 0) (am_th (i_il 1) (am_th (i_il 2) (am_th (i_il 3) (am_th (i_cv 6 3 d_X6_guardHas) (am_th (i_cv 6 1 d_X6_answer) (r_i)))))))))) (am_th (i_al 0) (am_th (i_ic (2)) (am_th (i_cv 6 1 d_X6_refuseFarBelow) (r_i)))))))))))))) (am_th (i_al 0) (am_th (i_ic (1)) (am_th (i_cv 6 1 d_X6_refuseFarBelow) (r_i)))))))
def d_X6_game : am_D := am_den 5 f_X6_game
set_option maxHeartbeats 4000000 in
set_option maxRecDepth 100000 in
theorem b_X6_game : am_Body yX6_game cX6_game 5 (some .int) 3 67 f_X6_game := by
  intro p l e R s m args below meth c g n0 z0 r0 u0 C hr hn
  have C : am_Cx p l e R s m args below meth c g RX6 cX6_game 5 n0 z0 (am_len u0) (am_wt u0) 3 67 := C
  unfold f_X6_game
  exact (so_th (so_aload_n C dX6_game_0 rfl) (so_th (so_iload_n C dX6_game_1 rfl) (so_th (so_cv C m_X6_isStanding rfl k_362 k_364 k_363 k_365 k_5 ⟨by decide, by decide, by decide +kernel⟩ (by decide) dX6_game_2) (so_br (so_if_ne C dX6_game_5 (by decide)) (so_th (so_iload_n C dX6_game_14 rfl) (so_br (so_if_lt C dX6_game_15 (by decide)) (so_th (so_aload_n C dX6_game_32 rfl) (so_th (so_iconst C dX6_game_33 (by decide)) (so_th (so_cv C m_X6_refuseFarBelow rfl k_366 k_368 k_367 k_369 k_5 ⟨by decide, by decide, by decide +kernel⟩ (by decide) dX6_game_34) (so_ri C hr dX6_game_37)))) (so_th (so_iload_n C dX6_game_18 rfl) (so_th (so_iconst C dX6_game_19 (by decide)) (so_br (so_icmp_gt C dX6_game_20 (by decide)) (so_th (so_aload_n C dX6_game_32 rfl) (so_th (so_iconst C dX6_game_33 (by decide)) (so_th (so_cv C m_X6_refuseFarBelow rfl k_366 k_368 k_367 k_369 k_5 ⟨by decide, by decide, by decide +kernel⟩ (by decide) dX6_game_34) (so_ri C hr dX6_game_37)))) (so_th (so_iload_n C dX6_game_23 rfl) (so_br (so_if_lt C dX6_game_24 (by decide)) (so_th (so_aload_n C dX6_game_32 rfl) (so_th (so_iconst C dX6_game_33 (by decide)) (so_th (so_cv C m_X6_refuseFarBelow rfl k_366 k_368 k_367 k_369 k_5 ⟨by decide, by decide, by decide +kernel⟩ (by decide) dX6_game_34) (so_ri C hr dX6_game_37)))) (so_th (so_iload_n C dX6_game_27 rfl) (so_th (so_iconst C dX6_game_28 (by decide)) (so_br (so_icmp_le C dX6_game_29 (by decide)) (so_th (so_aload_n C dX6_game_38 rfl) (so_th (so_iload C dX6_game_39) (so_br (so_if_eq C dX6_game_41 (by decide)) (so_th (so_aload_n C dX6_game_54 rfl) (so_th (so_iload_n C dX6_game_55 rfl) (so_th (so_iload_n C dX6_game_56 rfl) (so_th (so_iload_n C dX6_game_57 rfl) (so_th (so_cv C m_X6_feederHas rfl k_428 k_430 k_429 k_431 k_5 ⟨by decide, by decide, by decide +kernel⟩ (by decide) dX6_game_58) (so_th (so_cv C m_X6_answer rfl k_306 k_308 k_307 k_309 k_5 ⟨by decide, by decide, by decide +kernel⟩ (by decide) dX6_game_61) (so_ri C hr dX6_game_64))))))) (so_th (so_aload_n C dX6_game_44 rfl) (so_th (so_iload_n C dX6_game_45 rfl) (so_th (so_iload_n C dX6_game_46 rfl) (so_th (so_iload_n C dX6_game_47 rfl) (so_th (so_cv C m_X6_guardHas rfl k_432 k_434 k_433 k_435 k_5 ⟨by decide, by decide, by decide +kernel⟩ (by decide) dX6_game_48) (so_goto C dX6_game_51 (by decide) (so_th (so_cv C m_X6_answer rfl k_306 k_308 k_307 k_309 k_5 ⟨by decide, by decide, by decide +kernel⟩ (by decide) dX6_game_61) (so_ri C hr dX6_game_64))))))))))) (so_th (so_aload_n C dX6_game_32 rfl) (so_th (so_iconst C dX6_game_33 (by decide)) (so_th (so_cv C m_X6_refuseFarBelow rfl k_366 k_368 k_367 k_369 k_5 ⟨by decide, by decide, by decide +kernel⟩ (by decide) dX6_game_34) (so_ri C hr dX6_game_37)))))))))))))) (so_th (so_aload_n C dX6_game_8 rfl) (so_th (so_iconst C dX6_game_9 (by decide)) (so_th (so_cv C m_X6_refuseFarBelow rfl k_366 k_368 k_367 k_369 k_5 ⟨by decide, by decide, by decide +kernel⟩ (by decide) dX6_game_10) (so_ri C hr dX6_game_13))))))))
theorem m_X6_game : am_M yX6_game cX6_game 5 (some .int) 3 67 d_X6_game := am_M_of (by decide +kernel) b_X6_game
