theorem dX6_isRest_0 : decode cX6_isRest 0 = .ok (.aload_n 0, 1) := by decide +kernel
theorem dX6_isRest_1 : decode cX6_isRest 1 = .ok (.iload_n 1, 1) := by decide +kernel
theorem dX6_isRest_2 : decode cX6_isRest 2 = .ok (.iload_n 2, 1) := by decide +kernel
theorem dX6_isRest_3 : decode cX6_isRest 3 = .ok (.iload_n 3, 1) := by decide +kernel
theorem dX6_isRest_4 : decode cX6_isRest 4 = .ok (.invokevirtual 239, 3) := by decide +kernel
theorem dX6_isRest_7 : decode cX6_isRest 7 = .ok (.istore 4, 2) := by decide +kernel
theorem dX6_isRest_9 : decode cX6_isRest 9 = .ok (.aload_n 0, 1) := by decide +kernel
theorem dX6_isRest_10 : decode cX6_isRest 10 = .ok (.iload_n 1, 1) := by decide +kernel
theorem dX6_isRest_11 : decode cX6_isRest 11 = .ok (.iload_n 2, 1) := by decide +kernel
theorem dX6_isRest_12 : decode cX6_isRest 12 = .ok (.iload_n 3, 1) := by decide +kernel
theorem dX6_isRest_13 : decode cX6_isRest 13 = .ok (.invokevirtual 236, 3) := by decide +kernel
theorem dX6_isRest_16 : decode cX6_isRest 16 = .ok (.istore 5, 2) := by decide +kernel
theorem dX6_isRest_18 : decode cX6_isRest 18 = .ok (.iconst 0, 1) := by decide +kernel
theorem dX6_isRest_19 : decode cX6_isRest 19 = .ok (.istore 6, 2) := by decide +kernel
theorem dX6_isRest_21 : decode cX6_isRest 21 = .ok (.iload 6, 2) := by decide +kernel
theorem dX6_isRest_23 : decode cX6_isRest 23 = .ok (.iconst 4, 1) := by decide +kernel
theorem dX6_isRest_24 : decode cX6_isRest 24 = .ok (.if_icmp .gt 37, 3) := by decide +kernel
theorem dX6_isRest_27 : decode cX6_isRest 27 = .ok (.aload_n 0, 1) := by decide +kernel
theorem dX6_isRest_28 : decode cX6_isRest 28 = .ok (.iload_n 1, 1) := by decide +kernel
theorem dX6_isRest_29 : decode cX6_isRest 29 = .ok (.iload 6, 2) := by decide +kernel
theorem dX6_isRest_31 : decode cX6_isRest 31 = .ok (.iload_n 3, 1) := by decide +kernel
theorem dX6_isRest_32 : decode cX6_isRest 32 = .ok (.invokevirtual 239, 3) := by decide +kernel
theorem dX6_isRest_35 : decode cX6_isRest 35 = .ok (.iload 4, 2) := by decide +kernel
theorem dX6_isRest_37 : decode cX6_isRest 37 = .ok (.if_icmp .gt 16, 3) := by decide +kernel
theorem dX6_isRest_40 : decode cX6_isRest 40 = .ok (.aload_n 0, 1) := by decide +kernel
theorem dX6_isRest_41 : decode cX6_isRest 41 = .ok (.iload_n 1, 1) := by decide +kernel
theorem dX6_isRest_42 : decode cX6_isRest 42 = .ok (.iload_n 2, 1) := by decide +kernel
theorem dX6_isRest_43 : decode cX6_isRest 43 = .ok (.iload 6, 2) := by decide +kernel
theorem dX6_isRest_45 : decode cX6_isRest 45 = .ok (.invokevirtual 236, 3) := by decide +kernel
theorem dX6_isRest_48 : decode cX6_isRest 48 = .ok (.iload 5, 2) := by decide +kernel
theorem dX6_isRest_50 : decode cX6_isRest 50 = .ok (.if_icmp .le 5, 3) := by decide +kernel
theorem dX6_isRest_53 : decode cX6_isRest 53 = .ok (.iconst 0, 1) := by decide +kernel
theorem dX6_isRest_54 : decode cX6_isRest 54 = .ok (.ireturn, 1) := by decide +kernel
theorem dX6_isRest_55 : decode cX6_isRest 55 = .ok (.iinc 6 1, 3) := by decide +kernel
theorem dX6_isRest_58 : decode cX6_isRest 58 = .ok (.goto (-37), 3) := by decide +kernel
theorem dX6_isRest_61 : decode cX6_isRest 61 = .ok (.iconst 1, 1) := by decide +kernel
theorem dX6_isRest_62 : decode cX6_isRest 62 = .ok (.ireturn, 1) := by decide +kernel
def f_X6_isRest_l21 : am_F := am_th (i_il 6) (am_th (i_ic (4)) (am_br (b_2 (fun x y => decide (y < x))) (am_to 61) (am_th (i_al 0) (am_th (i_il 1) (am_th (i_il 6) (am_th (i_il 3) (am_th (i_cv 6 3 d_X6_feederHas) (am_th (i_il 4) (am_br (b_2 (fun x y => decide (y < x))) (am_th (i_ic (0)) (r_z)) (am_th (i_al 0) (am_th (i_il 1) (am_th (i_il 2) (am_th (i_il 6) (am_th (i_cv 6 3 d_X6_guardHas) (am_th (i_il 5) (am_br (b_2 (fun x y => decide (x ≤ y))) (am_th (i_inc 6 (1)) (am_to 21)) (am_th (i_ic (0)) (r_z))))))))))))))))))
def f_X6_isRest : am_F := am_th (i_al 0) (am_th (i_il 1) (am_th (i_il 2) (am_th (i_il 3) (am_th (i_cv 6 3 d_X6_feederHas) (am_th (i_is 4) (am_th (i_al 0) (am_th (i_il 1) (am_th (i_il 2) (am_th (i_il 3) (am_th (i_cv 6 3 d_X6_guardHas) (am_th (i_is 5) (am_th (i_ic (0)) (am_th (i_is 6) (am_sq 61 (am_lp 5000 21 f_X6_isRest_l21) (am_th (i_ic (1)) (r_z))))))))))))))))
def d_X6_isRest : am_D := am_den 7 f_X6_isRest
set_option maxHeartbeats 4000000 in
set_option maxRecDepth 100000 in
theorem b_X6_isRest : am_Body yX6_isRest cX6_isRest 7 (some .boolean) 3 67 f_X6_isRest := by
  intro p l e R s m args below meth c g n0 z0 r0 u0 C hr hn
  have C : am_Cx p l e R s m args below meth c g RX6 cX6_isRest 7 n0 z0 (am_len u0) (am_wt u0) 3 67 := C
  have l21 : am_Snd (am_GM p l e R s m args below meth c g 7 n0 z0 r0 u0) (am_Rt r0 u0) 21 (f_X6_isRest_l21) := by
    unfold f_X6_isRest_l21
    exact (so_th (so_iload C dX6_isRest_21) (so_th (so_iconst C dX6_isRest_23 (by decide)) (so_br (so_icmp_gt C dX6_isRest_24 (by decide)) (so_to) (so_th (so_aload_n C dX6_isRest_27 rfl) (so_th (so_iload_n C dX6_isRest_28 rfl) (so_th (so_iload C dX6_isRest_29) (so_th (so_iload_n C dX6_isRest_31 rfl) (so_th (so_cv C m_X6_feederHas rfl k_428 k_430 k_429 k_431 k_5 ⟨by decide, by decide, by decide +kernel⟩ (by decide) dX6_isRest_32) (so_th (so_iload C dX6_isRest_35) (so_br (so_icmp_gt C dX6_isRest_37 (by decide)) (so_th (so_iconst C dX6_isRest_53 (by decide)) (so_rz C hr dX6_isRest_54)) (so_th (so_aload_n C dX6_isRest_40 rfl) (so_th (so_iload_n C dX6_isRest_41 rfl) (so_th (so_iload_n C dX6_isRest_42 rfl) (so_th (so_iload C dX6_isRest_43) (so_th (so_cv C m_X6_guardHas rfl k_432 k_434 k_433 k_435 k_5 ⟨by decide, by decide, by decide +kernel⟩ (by decide) dX6_isRest_45) (so_th (so_iload C dX6_isRest_48) (so_br (so_icmp_le C dX6_isRest_50 (by decide)) (so_th (so_iinc C dX6_isRest_55 (by decide) (by decide)) (so_goto C dX6_isRest_58 (by decide) (so_to))) (so_th (so_iconst C dX6_isRest_53 (by decide)) (so_rz C hr dX6_isRest_54)))))))))))))))))))
  unfold f_X6_isRest
  exact (so_th (so_aload_n C dX6_isRest_0 rfl) (so_th (so_iload_n C dX6_isRest_1 rfl) (so_th (so_iload_n C dX6_isRest_2 rfl) (so_th (so_iload_n C dX6_isRest_3 rfl) (so_th (so_cv C m_X6_feederHas rfl k_428 k_430 k_429 k_431 k_5 ⟨by decide, by decide, by decide +kernel⟩ (by decide) dX6_isRest_4) (so_th (so_istore C dX6_isRest_7 (by decide)) (so_th (so_aload_n C dX6_isRest_9 rfl) (so_th (so_iload_n C dX6_isRest_10 rfl) (so_th (so_iload_n C dX6_isRest_11 rfl) (so_th (so_iload_n C dX6_isRest_12 rfl) (so_th (so_cv C m_X6_guardHas rfl k_432 k_434 k_433 k_435 k_5 ⟨by decide, by decide, by decide +kernel⟩ (by decide) dX6_isRest_13) (so_th (so_istore C dX6_isRest_16 (by decide)) (so_th (so_iconst C dX6_isRest_18 (by decide)) (so_th (so_istore C dX6_isRest_19 (by decide)) (so_sq (so_lp l21 5000) (so_th (so_iconst C dX6_isRest_61 (by decide)) (so_rz C hr dX6_isRest_62)))))))))))))))))
theorem m_X6_isRest : am_M yX6_isRest cX6_isRest 7 (some .boolean) 3 67 d_X6_isRest := am_M_of (by decide +kernel) b_X6_isRest
theorem dX6_rests_0 : decode cX6_rests 0 = .ok (.aload_n 0, 1) := by decide +kernel
theorem dX6_rests_1 : decode cX6_rests 1 = .ok (.iload_n 1, 1) := by decide +kernel
theorem dX6_rests_2 : decode cX6_rests 2 = .ok (.invokevirtual 173, 3) := by decide +kernel
theorem dX6_rests_5 : decode cX6_rests 5 = .ok (.ifCond .ne 9, 3) := by decide +kernel
theorem dX6_rests_8 : decode cX6_rests 8 = .ok (.aload_n 0, 1) := by decide +kernel
theorem dX6_rests_9 : decode cX6_rests 9 = .ok (.iconst 1, 1) := by decide +kernel
theorem dX6_rests_10 : decode cX6_rests 10 = .ok (.invokevirtual 92, 3) := by decide +kernel
theorem dX6_rests_13 : decode cX6_rests 13 = .ok (.ireturn, 1) := by decide +kernel
theorem dX6_rests_14 : decode cX6_rests 14 = .ok (.iconst 0, 1) := by decide +kernel
theorem dX6_rests_15 : decode cX6_rests 15 = .ok (.istore_n 2, 1) := by decide +kernel
theorem dX6_rests_16 : decode cX6_rests 16 = .ok (.iconst 0, 1) := by decide +kernel
theorem dX6_rests_17 : decode cX6_rests 17 = .ok (.istore_n 3, 1) := by decide +kernel
theorem dX6_rests_18 : decode cX6_rests 18 = .ok (.iload_n 3, 1) := by decide +kernel
theorem dX6_rests_19 : decode cX6_rests 19 = .ok (.iconst 4, 1) := by decide +kernel
theorem dX6_rests_20 : decode cX6_rests 20 = .ok (.if_icmp .gt 38, 3) := by decide +kernel
theorem dX6_rests_23 : decode cX6_rests 23 = .ok (.iconst 0, 1) := by decide +kernel
theorem dX6_rests_24 : decode cX6_rests 24 = .ok (.istore 4, 2) := by decide +kernel
theorem dX6_rests_26 : decode cX6_rests 26 = .ok (.iload 4, 2) := by decide +kernel
theorem dX6_rests_28 : decode cX6_rests 28 = .ok (.iconst 4, 1) := by decide +kernel
theorem dX6_rests_29 : decode cX6_rests 29 = .ok (.if_icmp .gt 23, 3) := by decide +kernel
theorem dX6_rests_32 : decode cX6_rests 32 = .ok (.aload_n 0, 1) := by decide +kernel
theorem dX6_rests_33 : decode cX6_rests 33 = .ok (.iload_n 1, 1) := by decide +kernel
theorem dX6_rests_34 : decode cX6_rests 34 = .ok (.iload_n 3, 1) := by decide +kernel
theorem dX6_rests_35 : decode cX6_rests 35 = .ok (.iload 4, 2) := by decide +kernel
theorem dX6_rests_37 : decode cX6_rests 37 = .ok (.invokevirtual 242, 3) := by decide +kernel
theorem dX6_rests_40 : decode cX6_rests 40 = .ok (.ifCond .eq 6, 3) := by decide +kernel
theorem dX6_rests_43 : decode cX6_rests 43 = .ok (.iinc 2 1, 3) := by decide +kernel
theorem dX6_rests_46 : decode cX6_rests 46 = .ok (.iinc 4 1, 3) := by decide +kernel
theorem dX6_rests_49 : decode cX6_rests 49 = .ok (.goto (-23), 3) := by decide +kernel
theorem dX6_rests_52 : decode cX6_rests 52 = .ok (.iinc 3 1, 3) := by decide +kernel
theorem dX6_rests_55 : decode cX6_rests 55 = .ok (.goto (-37), 3) := by decide +kernel
theorem dX6_rests_58 : decode cX6_rests 58 = .ok (.aload_n 0, 1) := by decide +kernel
theorem dX6_rests_59 : decode cX6_rests 59 = .ok (.iload_n 2, 1) := by decide +kernel
theorem dX6_rests_60 : decode cX6_rests 60 = .ok (.invokevirtual 107, 3) := by decide +kernel
theorem dX6_rests_63 : decode cX6_rests 63 = .ok (.ireturn, 1) := by decide +kernel
def f_X6_rests_l26 : am_F := am_th (i_il 4) (am_th (i_ic (4)) (am_br (b_2 (fun x y => decide (y < x))) (am_th (i_inc 3 (1)) (am_to 18)) (am_th (i_al 0) (am_th (i_il 1) (am_th (i_il 3) (am_th (i_il 4) (am_th (i_cv 6 3 d_X6_isRest) (am_sq 46 (am_br (b_1 (fun x => decide (x = 0))) (am_to 46) (am_th (i_inc 2 (1)) (am_to 46))) (am_th (i_inc 4 (1)) (am_to 26))))))))))
def f_X6_rests_l18 : am_F := am_th (i_il 3) (am_th (i_ic (4)) (am_br (b_2 (fun x y => decide (y < x))) (am_to 58) (am_th (i_ic (0)) (am_th (i_is 4) (am_lp 5000 26 f_X6_rests_l26)))))
def f_X6_rests : am_F := am_th (i_al 0) (am_th (i_il 1) (am_th (i_cv 6 1 d_X6_isStanding) (am_br (b_1 (fun x => decide (¬ x = 0))) (am_th (i_ic (0)) (am_th (i_is 2) (am_th (i_ic (0)) (am_th (i_is 3) (am_sq 58 (am_lp 5000 18 f_X6_rests_l18) (am_th (i_al 0) (am_th (i_il 2) (am_th (i_cv 6 1 d_X6_answer) (r_i))))))))) (am_th (i_al 0) (am_th (i_ic (1)) (am_th (i_cv 6 1 d_X6_refuse) (r_i)))))))
def d_X6_rests : am_D := am_den 5 f_X6_rests
set_option maxHeartbeats 4000000 in
set_option maxRecDepth 100000 in
theorem b_X6_rests : am_Body yX6_rests cX6_rests 5 (some .int) 4 93 f_X6_rests := by
  intro p l e R s m args below meth c g n0 z0 r0 u0 C hr hn
  have C : am_Cx p l e R s m args below meth c g RX6 cX6_rests 5 n0 z0 (am_len u0) (am_wt u0) 4 93 := C
  have l26 : am_Snd (am_GM p l e R s m args below meth c g 5 n0 z0 r0 u0) (am_Rt r0 u0) 26 (f_X6_rests_l26) := by
    unfold f_X6_rests_l26
    exact (so_th (so_iload C dX6_rests_26) (so_th (so_iconst C dX6_rests_28 (by decide)) (so_br (so_icmp_gt C dX6_rests_29 (by decide)) (so_th (so_iinc C dX6_rests_52 (by decide) (by decide)) (so_goto C dX6_rests_55 (by decide) (so_to))) (so_th (so_aload_n C dX6_rests_32 rfl) (so_th (so_iload_n C dX6_rests_33 rfl) (so_th (so_iload_n C dX6_rests_34 rfl) (so_th (so_iload C dX6_rests_35) (so_th (so_cv C m_X6_isRest rfl k_436 k_438 k_437 k_439 k_5 ⟨by decide, by decide, by decide +kernel⟩ (by decide) dX6_rests_37) (so_sq (so_br (so_if_eq C dX6_rests_40 (by decide)) (so_to) (so_th (so_iinc C dX6_rests_43 (by decide) (by decide)) (so_to))) (so_th (so_iinc C dX6_rests_46 (by decide) (by decide)) (so_goto C dX6_rests_49 (by decide) (so_to))))))))))))
  have l18 : am_Snd (am_GM p l e R s m args below meth c g 5 n0 z0 r0 u0) (am_Rt r0 u0) 18 (f_X6_rests_l18) := by
    unfold f_X6_rests_l18
    exact (so_th (so_iload_n C dX6_rests_18 rfl) (so_th (so_iconst C dX6_rests_19 (by decide)) (so_br (so_icmp_gt C dX6_rests_20 (by decide)) (so_to) (so_th (so_iconst C dX6_rests_23 (by decide)) (so_th (so_istore C dX6_rests_24 (by decide)) (so_lp l26 5000))))))
  unfold f_X6_rests
  exact (so_th (so_aload_n C dX6_rests_0 rfl) (so_th (so_iload_n C dX6_rests_1 rfl) (so_th (so_cv C m_X6_isStanding rfl k_362 k_364 k_363 k_365 k_5 ⟨by decide, by decide, by decide +kernel⟩ (by decide) dX6_rests_2) (so_br (so_if_ne C dX6_rests_5 (by decide)) (so_th (so_iconst C dX6_rests_14 (by decide)) (so_th (so_istore_n C dX6_rests_15 rfl (by decide)) (so_th (so_iconst C dX6_rests_16 (by decide)) (so_th (so_istore_n C dX6_rests_17 rfl (by decide)) (so_sq (so_lp l18 5000) (so_th (so_aload_n C dX6_rests_58 rfl) (so_th (so_iload_n C dX6_rests_59 rfl) (so_th (so_cv C m_X6_answer rfl k_306 k_308 k_307 k_309 k_5 ⟨by decide, by decide, by decide +kernel⟩ (by decide) dX6_rests_60) (so_ri C hr dX6_rests_63))))))))) (so_th (so_aload_n C dX6_rests_8 rfl) (so_th (so_iconst C dX6_rests_9 (by decide)) (so_th (so_cv C m_X6_refuse rfl k_297 k_299 k_298 k_300 k_5 ⟨by decide, by decide, by decide +kernel⟩ (by decide) dX6_rests_10) (so_ri C hr dX6_rests_13))))))))
theorem m_X6_rests : am_M yX6_rests cX6_rests 5 (some .int) 4 93 d_X6_rests := am_M_of (by decide +kernel) b_X6_rests
theorem dX6_rest_0 : decode cX6_rest 0 = .ok (.aload_n 0, 1) := by decide +kernel
theorem dX6_rest_1 : decode cX6_rest 1 = .ok (.iload_n 1, 1) := by decide +kernel
theorem dX6_rest_2 : decode cX6_rest 2 = .ok (.invokevirtual 173, 3) := by decide +kernel
theorem dX6_rest_5 : decode cX6_rest 5 = .ok (.ifCond .ne 9, 3) := by decide +kernel
theorem dX6_rest_8 : decode cX6_rest 8 = .ok (.aload_n 0, 1) := by decide +kernel
theorem dX6_rest_9 : decode cX6_rest 9 = .ok (.iconst 1, 1) := by decide +kernel
theorem dX6_rest_10 : decode cX6_rest 10 = .ok (.invokevirtual 92, 3) := by decide +kernel
theorem dX6_rest_13 : decode cX6_rest 13 = .ok (.ireturn, 1) := by decide +kernel
theorem dX6_rest_14 : decode cX6_rest 14 = .ok (.iconst 0, 1) := by decide +kernel
theorem dX6_rest_15 : decode cX6_rest 15 = .ok (.istore_n 2, 1) := by decide +kernel
theorem dX6_rest_16 : decode cX6_rest 16 = .ok (.iload_n 2, 1) := by decide +kernel
theorem dX6_rest_17 : decode cX6_rest 17 = .ok (.iconst 4, 1) := by decide +kernel
theorem dX6_rest_18 : decode cX6_rest 18 = .ok (.if_icmp .gt 43, 3) := by decide +kernel
theorem dX6_rest_21 : decode cX6_rest 21 = .ok (.iconst 0, 1) := by decide +kernel
theorem dX6_rest_22 : decode cX6_rest 22 = .ok (.istore_n 3, 1) := by decide +kernel
theorem dX6_rest_23 : decode cX6_rest 23 = .ok (.iload_n 3, 1) := by decide +kernel
theorem dX6_rest_24 : decode cX6_rest 24 = .ok (.iconst 4, 1) := by decide +kernel
theorem dX6_rest_25 : decode cX6_rest 25 = .ok (.if_icmp .gt 30, 3) := by decide +kernel
theorem dX6_rest_28 : decode cX6_rest 28 = .ok (.aload_n 0, 1) := by decide +kernel
theorem dX6_rest_29 : decode cX6_rest 29 = .ok (.iload_n 1, 1) := by decide +kernel
theorem dX6_rest_30 : decode cX6_rest 30 = .ok (.iload_n 2, 1) := by decide +kernel
theorem dX6_rest_31 : decode cX6_rest 31 = .ok (.iload_n 3, 1) := by decide +kernel
theorem dX6_rest_32 : decode cX6_rest 32 = .ok (.invokevirtual 242, 3) := by decide +kernel
theorem dX6_rest_35 : decode cX6_rest 35 = .ok (.ifCond .eq 14, 3) := by decide +kernel
theorem dX6_rest_38 : decode cX6_rest 38 = .ok (.aload_n 0, 1) := by decide +kernel
theorem dX6_rest_39 : decode cX6_rest 39 = .ok (.bipush 10, 2) := by decide +kernel
theorem dX6_rest_41 : decode cX6_rest 41 = .ok (.iload_n 2, 1) := by decide +kernel
theorem dX6_rest_42 : decode cX6_rest 42 = .ok (.imul, 1) := by decide +kernel
theorem dX6_rest_43 : decode cX6_rest 43 = .ok (.iload_n 3, 1) := by decide +kernel
theorem dX6_rest_44 : decode cX6_rest 44 = .ok (.iadd, 1) := by decide +kernel
theorem dX6_rest_45 : decode cX6_rest 45 = .ok (.invokevirtual 107, 3) := by decide +kernel
theorem dX6_rest_48 : decode cX6_rest 48 = .ok (.ireturn, 1) := by decide +kernel
theorem dX6_rest_49 : decode cX6_rest 49 = .ok (.iinc 3 1, 3) := by decide +kernel
theorem dX6_rest_52 : decode cX6_rest 52 = .ok (.goto (-29), 3) := by decide +kernel
theorem dX6_rest_55 : decode cX6_rest 55 = .ok (.iinc 2 1, 3) := by decide +kernel
theorem dX6_rest_58 : decode cX6_rest 58 = .ok (.goto (-42), 3) := by decide +kernel
theorem dX6_rest_61 : decode cX6_rest 61 = .ok (.aload_n 0, 1) := by decide +kernel
theorem dX6_rest_62 : decode cX6_rest 62 = .ok (.bipush (-2), 2) := by decide +kernel
theorem dX6_rest_64 : decode cX6_rest 64 = .ok (.invokevirtual 107, 3) := by decide +kernel
theorem dX6_rest_67 : decode cX6_rest 67 = .ok (.ireturn, 1) := by decide +kernel
def f_X6_rest_l23 : am_F := am_th (i_il 3) (am_th (i_ic (4)) (am_br (b_2 (fun x y => decide (y < x))) (am_th (i_inc 2 (1)) (am_to 16)) (am_th (i_al 0) (am_th (i_il 1) (am_th (i_il 2) (am_th (i_il 3) (am_th (i_cv 6 3 d_X6_isRest) (am_br (b_1 (fun x => decide (x = 0))) (am_th (i_inc 3 (1)) (am_to 23)) (am_th (i_al 0) (am_th (i_ic (10)) (am_th (i_il 2) (am_th (i_2 (fun x y => x * y)) (am_th (i_il 3) (am_th (i_2 (fun x y => x + y)) (am_th (i_cv 6 1 d_X6_answer) (r_i))))))))))))))))
def f_X6_rest_l16 : am_F := am_th (i_il 2) (am_th (i_ic (4)) (am_br (b_2 (fun x y => decide (y < x))) (am_to 61) (am_th (i_ic (0)) (am_th (i_is 3) (am_lp 5000 23 f_X6_rest_l23)))))
def f_X6_rest : am_F := am_th (i_al 0) (am_th (i_il 1) (am_th (i_cv 6 1 d_X6_isStanding) (am_br (b_1 (fun x => decide (¬ x = 0))) (am_th (i_ic (0)) (am_th (i_is 2) (am_sq 61 (am_lp 5000 16 f_X6_rest_l16) (am_th (i_al 0) (am_th (i_ic (-2)) (am_th (i_cv 6 1 d_X6_answer) (r_i))))))) (am_th (i_al 0) (am_th (i_ic (1)) (am_th (i_cv 6 1 d_X6_refuse) (r_i)))))))
def d_X6_rest : am_D := am_den 4 f_X6_rest
set_option maxHeartbeats 4000000 in
set_option maxRecDepth 100000 in
theorem b_X6_rest : am_Body yX6_rest cX6_rest 4 (some .int) 4 93 f_X6_rest := by
  intro p l e R s m args below meth c g n0 z0 r0 u0 C hr hn
  have C : am_Cx p l e R s m args below meth c g RX6 cX6_rest 4 n0 z0 (am_len u0) (am_wt u0) 4 93 := C
  have l23 : am_Snd (am_GM p l e R s m args below meth c g 4 n0 z0 r0 u0) (am_Rt r0 u0) 23 (f_X6_rest_l23) := by
    unfold f_X6_rest_l23
    exact (so_th (so_iload_n C dX6_rest_23 rfl) (so_th (so_iconst C dX6_rest_24 (by decide)) (so_br (so_icmp_gt C dX6_rest_25 (by decide)) (so_th (so_iinc C dX6_rest_55 (by decide) (by decide)) (so_goto C dX6_rest_58 (by decide) (so_to))) (so_th (so_aload_n C dX6_rest_28 rfl) (so_th (so_iload_n C dX6_rest_29 rfl) (so_th (so_iload_n C dX6_rest_30 rfl) (so_th (so_iload_n C dX6_rest_31 rfl) (so_th (so_cv C m_X6_isRest rfl k_436 k_438 k_437 k_439 k_5 ⟨by decide, by decide, by decide +kernel⟩ (by decide) dX6_rest_32) (so_br (so_if_eq C dX6_rest_35 (by decide)) (so_th (so_iinc C dX6_rest_49 (by decide) (by decide)) (so_goto C dX6_rest_52 (by decide) (so_to))) (so_th (so_aload_n C dX6_rest_38 rfl) (so_th (so_bipush C dX6_rest_39 (by decide)) (so_th (so_iload_n C dX6_rest_41 rfl) (so_th (so_imul C dX6_rest_42) (so_th (so_iload_n C dX6_rest_43 rfl) (so_th (so_iadd C dX6_rest_44) (so_th (so_cv C m_X6_answer rfl k_306 k_308 k_307 k_309 k_5 ⟨by decide, by decide, by decide +kernel⟩ (by decide) dX6_rest_45) (so_ri C hr dX6_rest_48)))))))))))))))))
  have l16 : am_Snd (am_GM p l e R s m args below meth c g 4 n0 z0 r0 u0) (am_Rt r0 u0) 16 (f_X6_rest_l16) := by
    unfold f_X6_rest_l16
    exact (so_th (so_iload_n C dX6_rest_16 rfl) (so_th (so_iconst C dX6_rest_17 (by decide)) (so_br (so_icmp_gt C dX6_rest_18 (by decide)) (so_to) (so_th (so_iconst C dX6_rest_21 (by decide)) (so_th (so_istore_n C dX6_rest_22 rfl (by decide)) (so_lp l23 5000))))))
  unfold f_X6_rest
  exact (so_th (so_aload_n C dX6_rest_0 rfl) (so_th (so_iload_n C dX6_rest_1 rfl) (so_th (so_cv C m_X6_isStanding rfl k_362 k_364 k_363 k_365 k_5 ⟨by decide, by decide, by decide +kernel⟩ (by decide) dX6_rest_2) (so_br (so_if_ne C dX6_rest_5 (by decide)) (so_th (so_iconst C dX6_rest_14 (by decide)) (so_th (so_istore_n C dX6_rest_15 rfl (by decide)) (so_sq (so_lp l16 5000) (so_th (so_aload_n C dX6_rest_61 rfl) (so_th (so_bipush C dX6_rest_62 (by decide)) (so_th (so_cv C m_X6_answer rfl k_306 k_308 k_307 k_309 k_5 ⟨by decide, by decide, by decide +kernel⟩ (by decide) dX6_rest_64) (so_ri C hr dX6_rest_67))))))) (so_th (so_aload_n C dX6_rest_8 rfl) (so_th (so_iconst C dX6_rest_9 (by decide)) (so_th (so_cv C m_X6_refuse rfl k_297 k_299 k_298 k_300 k_5 ⟨by decide, by decide, by decide +kernel⟩ (by decide) dX6_rest_10) (so_ri C hr dX6_rest_13))))))))
theorem m_X6_rest : am_M yX6_rest cX6_rest 4 (some .int) 4 93 d_X6_rest := am_M_of (by decide +kernel) b_X6_rest
theorem dX6_ways_0 : decode cX6_ways 0 = .ok (.aload_n 0, 1) := by decide +kernel
theorem dX6_ways_1 : decode cX6_ways 1 = .ok (.getfield 34, 3) := by decide +kernel
theorem dX6_ways_4 : decode cX6_ways 4 = .ok (.ifCond .ne 9, 3) := by decide +kernel
theorem dX6_ways_7 : decode cX6_ways 7 = .ok (.aload_n 0, 1) := by decide +kernel
theorem dX6_ways_8 : decode cX6_ways 8 = .ok (.iconst 1, 1) := by decide +kernel
theorem dX6_ways_9 : decode cX6_ways 9 = .ok (.invokevirtual 92, 3) := by decide +kernel
theorem dX6_ways_12 : decode cX6_ways 12 = .ok (.ireturn, 1) := by decide +kernel
theorem dX6_ways_13 : decode cX6_ways 13 = .ok (.aload_n 0, 1) := by decide +kernel
theorem dX6_ways_14 : decode cX6_ways 14 = .ok (.getfield 81, 3) := by decide +kernel
theorem dX6_ways_17 : decode cX6_ways 17 = .ok (.aload_n 0, 1) := by decide +kernel
theorem dX6_ways_18 : decode cX6_ways 18 = .ok (.getfield 27, 3) := by decide +kernel
theorem dX6_ways_21 : decode cX6_ways 21 = .ok (.invokevirtual 246, 3) := by decide +kernel
theorem dX6_ways_24 : decode cX6_ways 24 = .ok (.aload_n 0, 1) := by decide +kernel
theorem dX6_ways_25 : decode cX6_ways 25 = .ok (.aload_n 0, 1) := by decide +kernel
theorem dX6_ways_26 : decode cX6_ways 26 = .ok (.getfield 81, 3) := by decide +kernel
theorem dX6_ways_29 : decode cX6_ways 29 = .ok (.getfield 249, 3) := by decide +kernel
theorem dX6_ways_32 : decode cX6_ways 32 = .ok (.invokevirtual 107, 3) := by decide +kernel
theorem dX6_ways_35 : decode cX6_ways 35 = .ok (.ireturn, 1) := by decide +kernel
def f_X6_ways : am_F := am_th (i_al 0) (am_th (i_gi 6 5) (am_br (b_1 (fun x => decide (¬ x = 0))) (am_th (i_al 0) (am_th (i_gr 6 15) (am_th (i_al 0) (am_th (i_gr 6 3) (am_th (i_cv 1 1 d_X1_findAll) (am_th (i_al 0) (am_th (i_al 0) (am_th (i_gr 6 15) (am_th (i_gi 1 3) (am_th (i_cv 6 1 d_X6_answer) (r_i))))))))))) (am_th (i_al 0) (am_th (i_ic (1)) (am_th (i_cv 6 1 d_X6_refuse) (r_i))))))
def d_X6_ways : am_D := am_den 1 f_X6_ways
set_option maxHeartbeats 4000000 in
set_option maxRecDepth 100000 in
theorem b_X6_ways : am_Body yX6_ways cX6_ways 1 (some .int) 7 156 f_X6_ways := by
  intro p l e R s m args below meth c g n0 z0 r0 u0 C hr hn
  have C : am_Cx p l e R s m args below meth c g RX6 cX6_ways 1 n0 z0 (am_len u0) (am_wt u0) 7 156 := C
  unfold f_X6_ways
  exact (so_th (so_aload_n C dX6_ways_0 rfl) (so_th (so_geti C fl_RX6_34 (by decide) dX6_ways_1) (so_br (so_if_ne C dX6_ways_4 (by decide)) (so_th (so_aload_n C dX6_ways_13 rfl) (so_th (so_getr C fl_RX6_81 dX6_ways_14) (so_th (so_aload_n C dX6_ways_17 rfl) (so_th (so_getr C fl_RX6_27 dX6_ways_18) (so_th (so_cv C m_X1_findAll rfl k_440 k_442 k_441 k_443 k_59 ⟨by decide, by decide, by decide +kernel⟩ (by decide) dX6_ways_21) (so_th (so_aload_n C dX6_ways_24 rfl) (so_th (so_aload_n C dX6_ways_25 rfl) (so_th (so_getr C fl_RX6_81 dX6_ways_26) (so_th (so_geti C fl_RX6_249 (by decide) dX6_ways_29) (so_th (so_cv C m_X6_answer rfl k_306 k_308 k_307 k_309 k_5 ⟨by decide, by decide, by decide +kernel⟩ (by decide) dX6_ways_32) (so_ri C hr dX6_ways_35))))))))))) (so_th (so_aload_n C dX6_ways_7 rfl) (so_th (so_iconst C dX6_ways_8 (by decide)) (so_th (so_cv C m_X6_refuse rfl k_297 k_299 k_298 k_300 k_5 ⟨by decide, by decide, by decide +kernel⟩ (by decide) dX6_ways_9) (so_ri C hr dX6_ways_12)))))))
theorem m_X6_ways : am_M yX6_ways cX6_ways 1 (some .int) 7 156 d_X6_ways := am_M_of (by decide +kernel) b_X6_ways
theorem dX6_wayAt_0 : decode cX6_wayAt 0 = .ok (.aload_n 0, 1) := by decide +kernel
theorem dX6_wayAt_1 : decode cX6_wayAt 1 = .ok (.getfield 34, 3) := by decide +kernel
theorem dX6_wayAt_4 : decode cX6_wayAt 4 = .ok (.ifCond .ne 9, 3) := by decide +kernel
theorem dX6_wayAt_7 : decode cX6_wayAt 7 = .ok (.aload_n 0, 1) := by decide +kernel
theorem dX6_wayAt_8 : decode cX6_wayAt 8 = .ok (.iconst 1, 1) := by decide +kernel
theorem dX6_wayAt_9 : decode cX6_wayAt 9 = .ok (.invokevirtual 92, 3) := by decide +kernel
theorem dX6_wayAt_12 : decode cX6_wayAt 12 = .ok (.ireturn, 1) := by decide +kernel
theorem dX6_wayAt_13 : decode cX6_wayAt 13 = .ok (.aload_n 0, 1) := by decide +kernel
theorem dX6_wayAt_14 : decode cX6_wayAt 14 = .ok (.getfield 81, 3) := by decide +kernel
theorem dX6_wayAt_17 : decode cX6_wayAt 17 = .ok (.aload_n 0, 1) := by decide +kernel
theorem dX6_wayAt_18 : decode cX6_wayAt 18 = .ok (.getfield 27, 3) := by decide +kernel
theorem dX6_wayAt_21 : decode cX6_wayAt 21 = .ok (.invokevirtual 246, 3) := by decide +kernel
theorem dX6_wayAt_24 : decode cX6_wayAt 24 = .ok (.iload_n 1, 1) := by decide +kernel
theorem dX6_wayAt_25 : decode cX6_wayAt 25 = .ok (.ifCond .lt 14, 3) := by decide +kernel
theorem dX6_wayAt_28 : decode cX6_wayAt 28 = .ok (.iload_n 1, 1) := by decide +kernel
theorem dX6_wayAt_29 : decode cX6_wayAt 29 = .ok (.aload_n 0, 1) := by decide +kernel
theorem dX6_wayAt_30 : decode cX6_wayAt 30 = .ok (.getfield 81, 3) := by decide +kernel
theorem dX6_wayAt_33 : decode cX6_wayAt 33 = .ok (.getfield 249, 3) := by decide +kernel
theorem dX6_wayAt_36 : decode cX6_wayAt 36 = .ok (.if_icmp .lt 9, 3) := by decide +kernel
theorem dX6_wayAt_39 : decode cX6_wayAt 39 = .ok (.aload_n 0, 1) := by decide +kernel
theorem dX6_wayAt_40 : decode cX6_wayAt 40 = .ok (.iconst 1, 1) := by decide +kernel
theorem dX6_wayAt_41 : decode cX6_wayAt 41 = .ok (.invokevirtual 92, 3) := by decide +kernel
theorem dX6_wayAt_44 : decode cX6_wayAt 44 = .ok (.ireturn, 1) := by decide +kernel
theorem dX6_wayAt_45 : decode cX6_wayAt 45 = .ok (.aload_n 0, 1) := by decide +kernel
theorem dX6_wayAt_46 : decode cX6_wayAt 46 = .ok (.aload_n 0, 1) := by decide +kernel
theorem dX6_wayAt_47 : decode cX6_wayAt 47 = .ok (.getfield 81, 3) := by decide +kernel
theorem dX6_wayAt_50 : decode cX6_wayAt 50 = .ok (.getfield 252, 3) := by decide +kernel
theorem dX6_wayAt_53 : decode cX6_wayAt 53 = .ok (.iload_n 1, 1) := by decide +kernel
theorem dX6_wayAt_54 : decode cX6_wayAt 54 = .ok (.iaload, 1) := by decide +kernel
theorem dX6_wayAt_55 : decode cX6_wayAt 55 = .ok (.invokevirtual 107, 3) := by decide +kernel
theorem dX6_wayAt_58 : decode cX6_wayAt 58 = .ok (.ireturn, 1) := by decide +kernel
def f_X6_wayAt : am_F := am_th (i_al 0) (am_th (i_gi 6 5) (am_br (b_1 (fun x => decide (¬ x = 0))) (am_th (i_al 0) (am_th (i_gr 6 15) (am_th (i_al 0) (am_th (i_gr 6 3) (am_th (i_cv 1 1 d_X1_findAll) (am_th (i_il 1) (am_br (b_1 (fun x => decide (x < 0))) (am_th (i_al 0) (am_th (i_ic (1)) (am_th (i_cv 6 1 d_X6_refuse) (r_i)))) (am_th (i_il 1) (am_th (i_al 0) (am_th (i_gr 6 15) (am_th (i_gi 1 3) (am_br (b_2 (fun x y => decide (x < y))) (am_th (i_al 0) (am_th (i_al 0) (am_th (i_gr 6 15) (am_th (i_gr 1 2) (am_th (i_il 1) (am_th (i_ia 0) (am_th (i_cv 6 1 d_X6_answer) (r_i)))))))) (am_th (i_al 0) (am_th (i_ic (1)) (am_th (i_cv 6 1 d_X6_refuse) (r_i)))))))))))))))) (am_th (i_al 0) (am_th (i_ic (1)) (am_th (i_cv 6 1 d_X6_refuse) (r_i))))))
def d_X6_wayAt : am_D := am_den 2 f_X6_wayAt
set_option maxHeartbeats 4000000 in
set_option maxRecDepth 100000 in
theorem b_X6_wayAt : am_Body yX6_wayAt cX6_wayAt 2 (some .int) 7 156 f_X6_wayAt := by
  intro p l e R s m args below meth c g n0 z0 r0 u0 C hr hn
  have C : am_Cx p l e R s m args below meth c g RX6 cX6_wayAt 2 n0 z0 (am_len u0) (am_wt u0) 7 156 := C
  unfold f_X6_wayAt
  exact (so_th (so_aload_n C dX6_wayAt_0 rfl) (so_th (so_geti C fl_RX6_34 (by decide) dX6_wayAt_1) (so_br (so_if_ne C dX6_wayAt_4 (by decide)) (so_th (so_aload_n C dX6_wayAt_13 rfl) (so_th (so_getr C fl_RX6_81 dX6_wayAt_14) (so_th (so_aload_n C dX6_wayAt_17 rfl) (so_th (so_getr C fl_RX6_27 dX6_wayAt_18) (so_th (so_cv C m_X1_findAll rfl k_440 k_442 k_441 k_443 k_59 ⟨by decide, by decide, by decide +kernel⟩ (by decide) dX6_wayAt_21) (so_th (so_iload_n C dX6_wayAt_24 rfl) (so_br (so_if_lt C dX6_wayAt_25 (by decide)) (so_th (so_aload_n C dX6_wayAt_39 rfl) (so_th (so_iconst C dX6_wayAt_40 (by decide)) (so_th (so_cv C m_X6_refuse rfl k_297 k_299 k_298 k_300 k_5 ⟨by decide, by decide, by decide +kernel⟩ (by decide) dX6_wayAt_41) (so_ri C hr dX6_wayAt_44)))) (so_th (so_iload_n C dX6_wayAt_28 rfl) (so_th (so_aload_n C dX6_wayAt_29 rfl) (so_th (so_getr C fl_RX6_81 dX6_wayAt_30) (so_th (so_geti C fl_RX6_249 (by decide) dX6_wayAt_33) (so_br (so_icmp_lt C dX6_wayAt_36 (by decide)) (so_th (so_aload_n C dX6_wayAt_45 rfl) (so_th (so_aload_n C dX6_wayAt_46 rfl) (so_th (so_getr C fl_RX6_81 dX6_wayAt_47) (so_th (so_getr C fl_RX6_252 dX6_wayAt_50) (so_th (so_iload_n C dX6_wayAt_53 rfl) (so_th (so_iald C dX6_wayAt_54) (so_th (so_cv C m_X6_answer rfl k_306 k_308 k_307 k_309 k_5 ⟨by decide, by decide, by decide +kernel⟩ (by decide) dX6_wayAt_55) (so_ri C hr dX6_wayAt_58)))))))) (so_th (so_aload_n C dX6_wayAt_39 rfl) (so_th (so_iconst C dX6_wayAt_40 (by decide)) (so_th (so_cv C m_X6_refuse rfl k_297 k_299 k_298 k_300 k_5 ⟨by decide, by decide, by decide +kernel⟩ (by decide) dX6_wayAt_41) (so_ri C hr dX6_wayAt_44)))))))))))))))) (so_th (so_aload_n C dX6_wayAt_7 rfl) (so_th (so_iconst C dX6_wayAt_8 (by decide)) (so_th (so_cv C m_X6_refuse rfl k_297 k_299 k_298 k_300 k_5 ⟨by decide, by decide, by decide +kernel⟩ (by decide) dX6_wayAt_9) (so_ri C hr dX6_wayAt_12)))))))
theorem m_X6_wayAt : am_M yX6_wayAt cX6_wayAt 2 (some .int) 7 156 d_X6_wayAt := am_M_of (by decide +kernel) b_X6_wayAt
theorem dX6_judge_0 : decode cX6_judge 0 = .ok (.aload_n 0, 1) := by decide +kernel
theorem dX6_judge_1 : decode cX6_judge 1 = .ok (.getfield 34, 3) := by decide +kernel
theorem dX6_judge_4 : decode cX6_judge 4 = .ok (.ifCond .ne 9, 3) := by decide +kernel
theorem dX6_judge_7 : decode cX6_judge 7 = .ok (.aload_n 0, 1) := by decide +kernel
theorem dX6_judge_8 : decode cX6_judge 8 = .ok (.iconst 1, 1) := by decide +kernel
theorem dX6_judge_9 : decode cX6_judge 9 = .ok (.invokevirtual 92, 3) := by decide +kernel
theorem dX6_judge_12 : decode cX6_judge 12 = .ok (.ireturn, 1) := by decide +kernel
theorem dX6_judge_13 : decode cX6_judge 13 = .ok (.aload_n 0, 1) := by decide +kernel
theorem dX6_judge_14 : decode cX6_judge 14 = .ok (.aload_n 0, 1) := by decide +kernel
theorem dX6_judge_15 : decode cX6_judge 15 = .ok (.getfield 81, 3) := by decide +kernel
theorem dX6_judge_18 : decode cX6_judge 18 = .ok (.aload_n 0, 1) := by decide +kernel
theorem dX6_judge_19 : decode cX6_judge 19 = .ok (.getfield 27, 3) := by decide +kernel
theorem dX6_judge_22 : decode cX6_judge 22 = .ok (.invokevirtual 255, 3) := by decide +kernel
theorem dX6_judge_25 : decode cX6_judge 25 = .ok (.invokevirtual 107, 3) := by decide +kernel
theorem dX6_judge_28 : decode cX6_judge 28 = .ok (.ireturn, 1) := by decide +kernel
def f_X6_judge : am_F := am_th (i_al 0) (am_th (i_gi 6 5) (am_br (b_1 (fun x => decide (¬ x = 0))) (am_th (i_al 0) (am_th (i_al 0) (am_th (i_gr 6 15) (am_th (i_al 0) (am_th (i_gr 6 3) (am_th (i_cv 1 1 d_X1_firstThatDoesNotFall) (am_th (i_cv 6 1 d_X6_answer) (r_i)))))))) (am_th (i_al 0) (am_th (i_ic (1)) (am_th (i_cv 6 1 d_X6_refuse) (r_i))))))
def d_X6_judge : am_D := am_den 1 f_X6_judge
set_option maxHeartbeats 4000000 in
set_option maxRecDepth 100000 in
theorem b_X6_judge : am_Body yX6_judge cX6_judge 1 (some .int) 6 134 f_X6_judge := by
  intro p l e R s m args below meth c g n0 z0 r0 u0 C hr hn
  have C : am_Cx p l e R s m args below meth c g RX6 cX6_judge 1 n0 z0 (am_len u0) (am_wt u0) 6 134 := C
  unfold f_X6_judge
  exact (so_th (so_aload_n C dX6_judge_0 rfl) (so_th (so_geti C fl_RX6_34 (by decide) dX6_judge_1) (so_br (so_if_ne C dX6_judge_4 (by decide)) (so_th (so_aload_n C dX6_judge_13 rfl) (so_th (so_aload_n C dX6_judge_14 rfl) (so_th (so_getr C fl_RX6_81 dX6_judge_15) (so_th (so_aload_n C dX6_judge_18 rfl) (so_th (so_getr C fl_RX6_27 dX6_judge_19) (so_th (so_cv C m_X1_firstThatDoesNotFall rfl k_444 k_446 k_445 k_447 k_59 ⟨by decide, by decide, by decide +kernel⟩ (by decide) dX6_judge_22) (so_th (so_cv C m_X6_answer rfl k_306 k_308 k_307 k_309 k_5 ⟨by decide, by decide, by decide +kernel⟩ (by decide) dX6_judge_25) (so_ri C hr dX6_judge_28)))))))) (so_th (so_aload_n C dX6_judge_7 rfl) (so_th (so_iconst C dX6_judge_8 (by decide)) (so_th (so_cv C m_X6_refuse rfl k_297 k_299 k_298 k_300 k_5 ⟨by decide, by decide, by decide +kernel⟩ (by decide) dX6_judge_9) (so_ri C hr dX6_judge_12)))))))
theorem m_X6_judge : am_M yX6_judge cX6_judge 1 (some .int) 6 134 d_X6_judge := am_M_of (by decide +kernel) b_X6_judge
theorem dX6_drawBehind_0 : decode cX6_drawBehind 0 = .ok (.bipush 75, 2) := by decide +kernel
theorem dX6_drawBehind_2 : decode cX6_drawBehind 2 = .ok (.iload_n 0, 1) := by decide +kernel
theorem dX6_drawBehind_3 : decode cX6_drawBehind 3 = .ok (.imul, 1) := by decide +kernel
theorem dX6_drawBehind_4 : decode cX6_drawBehind 4 = .ok (.bipush 74, 2) := by decide +kernel
theorem dX6_drawBehind_6 : decode cX6_drawBehind 6 = .ok (.iadd, 1) := by decide +kernel
theorem dX6_drawBehind_7 : decode cX6_drawBehind 7 = .ok (.ldc_w 322, 3) := by decide +kernel
theorem dX6_drawBehind_10 : decode cX6_drawBehind 10 = .ok (.irem, 1) := by decide +kernel
theorem dX6_drawBehind_11 : decode cX6_drawBehind 11 = .ok (.ireturn, 1) := by decide +kernel
def f_X6_drawBehind : am_F := am_th (i_ic (75)) (am_th (i_il 0) (am_th (i_2 (fun x y => x * y)) (am_th (i_ic (74)) (am_th (i_2 (fun x y => x + y)) (am_th (i_ic (65537)) (am_th (i_2n (fun x y => x - x / y * y)) (r_i)))))))
def d_X6_drawBehind : am_D := am_den 1 f_X6_drawBehind
set_option maxHeartbeats 4000000 in
set_option maxRecDepth 100000 in
theorem b_X6_drawBehind : am_Body yX6_drawBehind cX6_drawBehind 1 (some .int) 0 0 f_X6_drawBehind := by
  intro p l e R s m args below meth c g n0 z0 r0 u0 C hr hn
  have C : am_Cx p l e R s m args below meth c g RX6 cX6_drawBehind 1 n0 z0 (am_len u0) (am_wt u0) 0 0 := C
  unfold f_X6_drawBehind
  exact (so_th (so_bipush C dX6_drawBehind_0 (by decide)) (so_th (so_iload_n C dX6_drawBehind_2 rfl) (so_th (so_imul C dX6_drawBehind_3) (so_th (so_bipush C dX6_drawBehind_4 (by decide)) (so_th (so_iadd C dX6_drawBehind_6) (so_th (so_ldcw C dX6_drawBehind_7 k_448) (so_th (so_irem C dX6_drawBehind_10) (so_ri C hr dX6_drawBehind_11))))))))
theorem m_X6_drawBehind : am_M yX6_drawBehind cX6_drawBehind 1 (some .int) 0 0 d_X6_drawBehind := am_M_of (by decide +kernel) b_X6_drawBehind
theorem dX6_fallenByDraws_0 : decode cX6_fallenByDraws 0 = .ok (.aload_n 0, 1) := by decide +kernel
theorem dX6_fallenByDraws_1 : decode cX6_fallenByDraws 1 = .ok (.getfield 27, 3) := by decide +kernel
theorem dX6_fallenByDraws_4 : decode cX6_fallenByDraws 4 = .ok (.getfield 104, 3) := by decide +kernel
theorem dX6_fallenByDraws_7 : decode cX6_fallenByDraws 7 = .ok (.istore_n 3, 1) := by decide +kernel
theorem dX6_fallenByDraws_8 : decode cX6_fallenByDraws 8 = .ok (.iconst 0, 1) := by decide +kernel
theorem dX6_fallenByDraws_9 : decode cX6_fallenByDraws 9 = .ok (.istore 4, 2) := by decide +kernel
theorem dX6_fallenByDraws_11 : decode cX6_fallenByDraws 11 = .ok (.iload_n 1, 1) := by decide +kernel
theorem dX6_fallenByDraws_12 : decode cX6_fallenByDraws 12 = .ok (.istore 5, 2) := by decide +kernel
theorem dX6_fallenByDraws_14 : decode cX6_fallenByDraws 14 = .ok (.aload_n 0, 1) := by decide +kernel
theorem dX6_fallenByDraws_15 : decode cX6_fallenByDraws 15 = .ok (.getfield 45, 3) := by decide +kernel
theorem dX6_fallenByDraws_18 : decode cX6_fallenByDraws 18 = .ok (.aload_n 0, 1) := by decide +kernel
theorem dX6_fallenByDraws_19 : decode cX6_fallenByDraws 19 = .ok (.getfield 41, 3) := by decide +kernel
theorem dX6_fallenByDraws_22 : decode cX6_fallenByDraws 22 = .ok (.invokevirtual 155, 3) := by decide +kernel
theorem dX6_fallenByDraws_25 : decode cX6_fallenByDraws 25 = .ok (.iconst 0, 1) := by decide +kernel
theorem dX6_fallenByDraws_26 : decode cX6_fallenByDraws 26 = .ok (.istore 6, 2) := by decide +kernel
theorem dX6_fallenByDraws_28 : decode cX6_fallenByDraws 28 = .ok (.iload 6, 2) := by decide +kernel
theorem dX6_fallenByDraws_30 : decode cX6_fallenByDraws 30 = .ok (.iload_n 2, 1) := by decide +kernel
theorem dX6_fallenByDraws_31 : decode cX6_fallenByDraws 31 = .ok (.iconst 4, 1) := by decide +kernel
theorem dX6_fallenByDraws_32 : decode cX6_fallenByDraws 32 = .ok (.imul, 1) := by decide +kernel
theorem dX6_fallenByDraws_33 : decode cX6_fallenByDraws 33 = .ok (.if_icmp .ge 59, 3) := by decide +kernel
theorem dX6_fallenByDraws_36 : decode cX6_fallenByDraws 36 = .ok (.iload_n 3, 1) := by decide +kernel
theorem dX6_fallenByDraws_37 : decode cX6_fallenByDraws 37 = .ok (.ifCond .le 55, 3) := by decide +kernel
theorem dX6_fallenByDraws_40 : decode cX6_fallenByDraws 40 = .ok (.iload 5, 2) := by decide +kernel
theorem dX6_fallenByDraws_42 : decode cX6_fallenByDraws 42 = .ok (.invokestatic 316, 3) := by decide +kernel
theorem dX6_fallenByDraws_45 : decode cX6_fallenByDraws 45 = .ok (.istore 5, 2) := by decide +kernel
theorem dX6_fallenByDraws_47 : decode cX6_fallenByDraws 47 = .ok (.iload 5, 2) := by decide +kernel
theorem dX6_fallenByDraws_49 : decode cX6_fallenByDraws 49 = .ok (.iload_n 3, 1) := by decide +kernel
theorem dX6_fallenByDraws_50 : decode cX6_fallenByDraws 50 = .ok (.irem, 1) := by decide +kernel
theorem dX6_fallenByDraws_51 : decode cX6_fallenByDraws 51 = .ok (.istore 7, 2) := by decide +kernel
theorem dX6_fallenByDraws_53 : decode cX6_fallenByDraws 53 = .ok (.iload 5, 2) := by decide +kernel
theorem dX6_fallenByDraws_55 : decode cX6_fallenByDraws 55 = .ok (.invokestatic 316, 3) := by decide +kernel
theorem dX6_fallenByDraws_58 : decode cX6_fallenByDraws 58 = .ok (.istore 5, 2) := by decide +kernel
theorem dX6_fallenByDraws_60 : decode cX6_fallenByDraws 60 = .ok (.iload 4, 2) := by decide +kernel
theorem dX6_fallenByDraws_62 : decode cX6_fallenByDraws 62 = .ok (.aload_n 0, 1) := by decide +kernel
theorem dX6_fallenByDraws_63 : decode cX6_fallenByDraws 63 = .ok (.getfield 45, 3) := by decide +kernel
theorem dX6_fallenByDraws_66 : decode cX6_fallenByDraws 66 = .ok (.aload_n 0, 1) := by decide +kernel
theorem dX6_fallenByDraws_67 : decode cX6_fallenByDraws 67 = .ok (.getfield 27, 3) := by decide +kernel
theorem dX6_fallenByDraws_70 : decode cX6_fallenByDraws 70 = .ok (.iload 7, 2) := by decide +kernel
theorem dX6_fallenByDraws_72 : decode cX6_fallenByDraws 72 = .ok (.iload 5, 2) := by decide +kernel
theorem dX6_fallenByDraws_74 : decode cX6_fallenByDraws 74 = .ok (.bipush 6, 2) := by decide +kernel
theorem dX6_fallenByDraws_76 : decode cX6_fallenByDraws 76 = .ok (.irem, 1) := by decide +kernel
theorem dX6_fallenByDraws_77 : decode cX6_fallenByDraws 77 = .ok (.invokevirtual 319, 3) := by decide +kernel
theorem dX6_fallenByDraws_80 : decode cX6_fallenByDraws 80 = .ok (.invokestatic 281, 3) := by decide +kernel
theorem dX6_fallenByDraws_83 : decode cX6_fallenByDraws 83 = .ok (.iadd, 1) := by decide +kernel
theorem dX6_fallenByDraws_84 : decode cX6_fallenByDraws 84 = .ok (.istore 4, 2) := by decide +kernel
theorem dX6_fallenByDraws_86 : decode cX6_fallenByDraws 86 = .ok (.iinc 6 1, 3) := by decide +kernel
theorem dX6_fallenByDraws_89 : decode cX6_fallenByDraws 89 = .ok (.goto (-61), 3) := by decide +kernel
theorem dX6_fallenByDraws_92 : decode cX6_fallenByDraws 92 = .ok (.iload 4, 2) := by decide +kernel
theorem dX6_fallenByDraws_94 : decode cX6_fallenByDraws 94 = .ok (.ireturn, 1) := by decide +kernel
def f_X6_fallenByDraws_l28 : am_F := am_th (i_il 6) (am_th (i_il 2) (am_th (i_ic (4)) (am_th (i_2 (fun x y => x * y)) (am_br (b_2 (fun x y => decide (y ≤ x))) (am_to 92) (am_th (i_il 3) (am_br (b_1 (fun x => decide (x ≤ 0))) (am_to 92) (am_th (i_il 5) (am_th (i_cs 1 d_X6_drawBehind) (am_th (i_is 5) (am_th (i_il 5) (am_th (i_il 3) (am_th (i_2n (fun x y => x - x / y * y)) (am_th (i_is 7) (am_th (i_il 5) (am_th (i_cs 1 d_X6_drawBehind) (am_th (i_is 5) (am_th (i_il 4) (am_th (i_al 0) (am_th (i_gr 6 7) (am_th (i_al 0) (am_th (i_gr 6 3) (am_th (i_il 7) (am_th (i_il 5) (am_th (i_ic (6)) (am_th (i_2n (fun x y => x - x / y * y)) (am_th (i_cv 2 3 d_X2_passByDraw) (am_th (i_cs 1 d_J6_bitCount_0f7a4) (am_th (i_2 (fun x y => x + y)) (am_th (i_is 4) (am_th (i_inc 6 (1)) (am_to 28)))))))))))))))))))))))))))))))
def f_X6_fallenByDraws : am_F := am_th (i_al 0) (am_th (i_gr 6 3) (am_th (i_gi 5 3) (am_th (i_is 3) (am_th (i_ic (0)) (am_th (i_is 4) (am_th (i_il 1) (am_th (i_is 5) (am_th (i_al 0) (am_th (i_gr 6 7) (am_th (i_al 0) (am_th (i_gr 6 6) (am_th (i_cv 2 1 d_X2_become) (am_th (i_ic (0)) (am_th (i_is 6) (am_sq 92 (am_lp 5000 28 f_X6_fallenByDraws_l28) (am_th (i_il 4) (r_i)))))))))))))))))
def d_X6_fallenByDraws : am_D := am_den 8 f_X6_fallenByDraws
set_option maxHeartbeats 4000000 in
set_option maxRecDepth 100000 in
theorem b_X6_fallenByDraws : am_Body yX6_fallenByDraws cX6_fallenByDraws 8 (some .int) 5 110 f_X6_fallenByDraws := by
  intro p l e R s m args below meth c g n0 z0 r0 u0 C hr hn
  have C : am_Cx p l e R s m args below meth c g RX6 cX6_fallenByDraws 8 n0 z0 (am_len u0) (am_wt u0) 5 110 := C
  have l28 : am_Snd (am_GM p l e R s m args below meth c g 8 n0 z0 r0 u0) (am_Rt r0 u0) 28 (f_X6_fallenByDraws_l28) := by
    unfold f_X6_fallenByDraws_l28
    exact (so_th (so_iload C dX6_fallenByDraws_28) (so_th (so_iload_n C dX6_fallenByDraws_30 rfl) (so_th (so_iconst C dX6_fallenByDraws_31 (by decide)) (so_th (so_imul C dX6_fallenByDraws_32) (so_br (so_icmp_ge C dX6_fallenByDraws_33 (by decide)) (so_to) (so_th (so_iload_n C dX6_fallenByDraws_36 rfl) (so_br (so_if_le C dX6_fallenByDraws_37 (by decide)) (so_to) (so_th (so_iload C dX6_fallenByDraws_40) (so_th (so_cs C m_X6_drawBehind k_449 k_451 k_450 k_5 ⟨by decide, by decide, by decide +kernel⟩ (by decide) dX6_fallenByDraws_42) (so_th (so_istore C dX6_fallenByDraws_45 (by decide)) (so_th (so_iload C dX6_fallenByDraws_47) (so_th (so_iload_n C dX6_fallenByDraws_49 rfl) (so_th (so_irem C dX6_fallenByDraws_50) (so_th (so_istore C dX6_fallenByDraws_51 (by decide)) (so_th (so_iload C dX6_fallenByDraws_53) (so_th (so_cs C m_X6_drawBehind k_449 k_451 k_450 k_5 ⟨by decide, by decide, by decide +kernel⟩ (by decide) dX6_fallenByDraws_55) (so_th (so_istore C dX6_fallenByDraws_58 (by decide)) (so_th (so_iload C dX6_fallenByDraws_60) (so_th (so_aload_n C dX6_fallenByDraws_62 rfl) (so_th (so_getr C fl_RX6_45 dX6_fallenByDraws_63) (so_th (so_aload_n C dX6_fallenByDraws_66 rfl) (so_th (so_getr C fl_RX6_27 dX6_fallenByDraws_67) (so_th (so_iload C dX6_fallenByDraws_70) (so_th (so_iload C dX6_fallenByDraws_72) (so_th (so_bipush C dX6_fallenByDraws_74 (by decide)) (so_th (so_irem C dX6_fallenByDraws_76) (so_th (so_cv C m_X2_passByDraw rfl k_452 k_454 k_453 k_455 k_40 ⟨by decide, by decide, by decide +kernel⟩ (by decide) dX6_fallenByDraws_77) (so_th (so_cs C m_J6_bitCount_0f7a4 k_107 k_345 k_109 k_108 ⟨by decide, by decide, by decide +kernel⟩ (by decide) dX6_fallenByDraws_80) (so_th (so_iadd C dX6_fallenByDraws_83) (so_th (so_istore C dX6_fallenByDraws_84 (by decide)) (so_th (so_iinc C dX6_fallenByDraws_86 (by decide) (by decide)) (so_goto C dX6_fallenByDraws_89 (by decide) (so_to)))))))))))))))))))))))))))))))))
  unfold f_X6_fallenByDraws
  exact (so_th (so_aload_n C dX6_fallenByDraws_0 rfl) (so_th (so_getr C fl_RX6_27 dX6_fallenByDraws_1) (so_th (so_geti C fl_RX6_104 (by decide) dX6_fallenByDraws_4) (so_th (so_istore_n C dX6_fallenByDraws_7 rfl (by decide)) (so_th (so_iconst C dX6_fallenByDraws_8 (by decide)) (so_th (so_istore C dX6_fallenByDraws_9 (by decide)) (so_th (so_iload_n C dX6_fallenByDraws_11 rfl) (so_th (so_istore C dX6_fallenByDraws_12 (by decide)) (so_th (so_aload_n C dX6_fallenByDraws_14 rfl) (so_th (so_getr C fl_RX6_45 dX6_fallenByDraws_15) (so_th (so_aload_n C dX6_fallenByDraws_18 rfl) (so_th (so_getr C fl_RX6_41 dX6_fallenByDraws_19) (so_th (so_cv C m_X2_become rfl k_83 k_336 k_84 k_86 k_40 ⟨by decide, by decide, by decide +kernel⟩ (by decide) dX6_fallenByDraws_22) (so_th (so_iconst C dX6_fallenByDraws_25 (by decide)) (so_th (so_istore C dX6_fallenByDraws_26 (by decide)) (so_sq (so_lp l28 5000) (so_th (so_iload C dX6_fallenByDraws_92) (so_ri C hr dX6_fallenByDraws_94))))))))))))))))))
theorem m_X6_fallenByDraws : am_M yX6_fallenByDraws cX6_fallenByDraws 8 (some .int) 5 110 d_X6_fallenByDraws := am_M_of (by decide +kernel) b_X6_fallenByDraws
theorem dX6_year_0 : decode cX6_year 0 = .ok (.aload_n 0, 1) := by decide +kernel
theorem dX6_year_1 : decode cX6_year 1 = .ok (.getfield 34, 3) := by decide +kernel
theorem dX6_year_4 : decode cX6_year 4 = .ok (.ifCond .ne 9, 3) := by decide +kernel
theorem dX6_year_7 : decode cX6_year 7 = .ok (.aload_n 0, 1) := by decide +kernel
theorem dX6_year_8 : decode cX6_year 8 = .ok (.iconst 1, 1) := by decide +kernel
theorem dX6_year_9 : decode cX6_year 9 = .ok (.invokevirtual 92, 3) := by decide +kernel
theorem dX6_year_12 : decode cX6_year 12 = .ok (.ireturn, 1) := by decide +kernel
theorem dX6_year_13 : decode cX6_year 13 = .ok (.iload_n 1, 1) := by decide +kernel
theorem dX6_year_14 : decode cX6_year 14 = .ok (.ifCond .lt 10, 3) := by decide +kernel
theorem dX6_year_17 : decode cX6_year 17 = .ok (.iload_n 1, 1) := by decide +kernel
theorem dX6_year_18 : decode cX6_year 18 = .ok (.ldc_w 258, 3) := by decide +kernel
theorem dX6_year_21 : decode cX6_year 21 = .ok (.if_icmp .le 9, 3) := by decide +kernel
theorem dX6_year_24 : decode cX6_year 24 = .ok (.aload_n 0, 1) := by decide +kernel
theorem dX6_year_25 : decode cX6_year 25 = .ok (.iconst 2, 1) := by decide +kernel
theorem dX6_year_26 : decode cX6_year 26 = .ok (.invokevirtual 92, 3) := by decide +kernel
theorem dX6_year_29 : decode cX6_year 29 = .ok (.ireturn, 1) := by decide +kernel
theorem dX6_year_30 : decode cX6_year 30 = .ok (.aload_n 0, 1) := by decide +kernel
theorem dX6_year_31 : decode cX6_year 31 = .ok (.aload_n 0, 1) := by decide +kernel
theorem dX6_year_32 : decode cX6_year 32 = .ok (.iload_n 1, 1) := by decide +kernel
theorem dX6_year_33 : decode cX6_year 33 = .ok (.iconst 1, 1) := by decide +kernel
theorem dX6_year_34 : decode cX6_year 34 = .ok (.invokevirtual 259, 3) := by decide +kernel
theorem dX6_year_37 : decode cX6_year 37 = .ok (.invokevirtual 107, 3) := by decide +kernel
theorem dX6_year_40 : decode cX6_year 40 = .ok (.ireturn, 1) := by decide +kernel
def f_X6_year : am_F := am_th (i_al 0) (am_th (i_gi 6 5) (am_br (b_1 (fun x => decide (¬ x = 0))) (am_th (i_il 1) (am_br (b_1 (fun x => decide (x < 0))) (am_th (i_al 0) (am_th (i_ic (2)) (am_th (i_cv 6 1 d_X6_refuse) (r_i)))) (am_th (i_il 1) (am_th (i_ic (65536)) (am_br (b_2 (fun x y => decide (x ≤ y))) (am_th (i_al 0) (am_th (i_al 0) (am_th (i_il 1) (am_th (i_ic (1)) (am_th (i_cv 6 2 d_X6_fallenByDraws) (am_th (i_cv 6 1 d_X6_answer) (r_i))))))) (am_th (i_al 0) (am_th (i_ic (2)) (am_th (i_cv 6 1 d_X6_refuse) (r_i))))))))) (am_th (i_al 0) (am_th (i_ic (1)) (am_th (i_cv 6 1 d_X6_refuse) (r_i))))))
def d_X6_year : am_D := am_den 2 f_X6_year
set_option maxHeartbeats 4000000 in
set_option maxRecDepth 100000 in
theorem b_X6_year : am_Body yX6_year cX6_year 2 (some .int) 6 137 f_X6_year := by
  intro p l e R s m args below meth c g n0 z0 r0 u0 C hr hn
  have C : am_Cx p l e R s m args below meth c g RX6 cX6_year 2 n0 z0 (am_len u0) (am_wt u0) 6 137 := C
  unfold f_X6_year
  exact (so_th (so_aload_n C dX6_year_0 rfl) (so_th (so_geti C fl_RX6_34 (by decide) dX6_year_1) (so_br (so_if_ne C dX6_year_4 (by decide)) (so_th (so_iload_n C dX6_year_13 rfl) (so_br (so_if_lt C dX6_year_14 (by decide)) (so_th (so_aload_n C dX6_year_24 rfl) (so_th (so_iconst C dX6_year_25 (by decide)) (so_th (so_cv C m_X6_refuse rfl k_297 k_299 k_298 k_300 k_5 ⟨by decide, by decide, by decide +kernel⟩ (by decide) dX6_year_26) (so_ri C hr dX6_year_29)))) (so_th (so_iload_n C dX6_year_17 rfl) (so_th (so_ldcw C dX6_year_18 k_456) (so_br (so_icmp_le C dX6_year_21 (by decide)) (so_th (so_aload_n C dX6_year_30 rfl) (so_th (so_aload_n C dX6_year_31 rfl) (so_th (so_iload_n C dX6_year_32 rfl) (so_th (so_iconst C dX6_year_33 (by decide)) (so_th (so_cv C m_X6_fallenByDraws rfl k_457 k_459 k_458 k_460 k_5 ⟨by decide, by decide, by decide +kernel⟩ (by decide) dX6_year_34) (so_th (so_cv C m_X6_answer rfl k_306 k_308 k_307 k_309 k_5 ⟨by decide, by decide, by decide +kernel⟩ (by decide) dX6_year_37) (so_ri C hr dX6_year_40))))))) (so_th (so_aload_n C dX6_year_24 rfl) (so_th (so_iconst C dX6_year_25 (by decide)) (so_th (so_cv C m_X6_refuse rfl k_297 k_299 k_298 k_300 k_5 ⟨by decide, by decide, by decide +kernel⟩ (by decide) dX6_year_26) (so_ri C hr dX6_year_29))))))))) (so_th (so_aload_n C dX6_year_7 rfl) (so_th (so_iconst C dX6_year_8 (by decide)) (so_th (so_cv C m_X6_refuse rfl k_297 k_299 k_298 k_300 k_5 ⟨by decide, by decide, by decide +kernel⟩ (by decide) dX6_year_9) (so_ri C hr dX6_year_12)))))))
theorem m_X6_year : am_M yX6_year cX6_year 2 (some .int) 6 137 d_X6_year := am_M_of (by decide +kernel) b_X6_year
theorem dX6_years_0 : decode cX6_years 0 = .ok (.aload_n 0, 1) := by decide +kernel
theorem dX6_years_1 : decode cX6_years 1 = .ok (.getfield 34, 3) := by decide +kernel
theorem dX6_years_4 : decode cX6_years 4 = .ok (.ifCond .ne 9, 3) := by decide +kernel
theorem dX6_years_7 : decode cX6_years 7 = .ok (.aload_n 0, 1) := by decide +kernel
theorem dX6_years_8 : decode cX6_years 8 = .ok (.iconst 1, 1) := by decide +kernel
theorem dX6_years_9 : decode cX6_years 9 = .ok (.invokevirtual 92, 3) := by decide +kernel
theorem dX6_years_12 : decode cX6_years 12 = .ok (.ireturn, 1) := by decide +kernel
theorem dX6_years_13 : decode cX6_years 13 = .ok (.iload_n 1, 1) := by decide +kernel
theorem dX6_years_14 : decode cX6_years 14 = .ok (.ifCond .lt 20, 3) := by decide +kernel
theorem dX6_years_17 : decode cX6_years 17 = .ok (.iload_n 1, 1) := by decide +kernel
theorem dX6_years_18 : decode cX6_years 18 = .ok (.ldc_w 258, 3) := by decide +kernel
theorem dX6_years_21 : decode cX6_years 21 = .ok (.if_icmp .gt 13, 3) := by decide +kernel
theorem dX6_years_24 : decode cX6_years 24 = .ok (.iload_n 2, 1) := by decide +kernel
theorem dX6_years_25 : decode cX6_years 25 = .ok (.ifCond .lt 9, 3) := by decide +kernel
theorem dX6_years_28 : decode cX6_years 28 = .ok (.iload_n 2, 1) := by decide +kernel
theorem dX6_years_29 : decode cX6_years 29 = .ok (.bipush 20, 2) := by decide +kernel
theorem dX6_years_31 : decode cX6_years 31 = .ok (.if_icmp .le 9, 3) := by decide +kernel
theorem dX6_years_34 : decode cX6_years 34 = .ok (.aload_n 0, 1) := by decide +kernel
theorem dX6_years_35 : decode cX6_years 35 = .ok (.iconst 2, 1) := by decide +kernel
theorem dX6_years_36 : decode cX6_years 36 = .ok (.invokevirtual 92, 3) := by decide +kernel
theorem dX6_years_39 : decode cX6_years 39 = .ok (.ireturn, 1) := by decide +kernel
theorem dX6_years_40 : decode cX6_years 40 = .ok (.aload_n 0, 1) := by decide +kernel
theorem dX6_years_41 : decode cX6_years 41 = .ok (.aload_n 0, 1) := by decide +kernel
theorem dX6_years_42 : decode cX6_years 42 = .ok (.iload_n 1, 1) := by decide +kernel
theorem dX6_years_43 : decode cX6_years 43 = .ok (.iload_n 2, 1) := by decide +kernel
theorem dX6_years_44 : decode cX6_years 44 = .ok (.invokevirtual 259, 3) := by decide +kernel
theorem dX6_years_47 : decode cX6_years 47 = .ok (.invokevirtual 107, 3) := by decide +kernel
theorem dX6_years_50 : decode cX6_years 50 = .ok (.ireturn, 1) := by decide +kernel
def f_X6_years : am_F := am_th (i_al 0) (am_th (i_gi 6 5) (am_br (b_1 (fun x => decide (¬ x = 0))) (am_th (i_il 1) (am_br (b_1 (fun x => decide (x < 0))) (am_th (i_al 0) (am_th (i_ic (2)) (am_th (i_cv 6 1 d_X6_refuse) (r_i)))) (am_th (i_il 1) (am_th (i_ic (65536)) (am_br (b_2 (fun x y => decide (y < x))) (am_th (i_al 0) (am_th (i_ic (2)) (am_th (i_cv 6 1 d_X6_refuse) (r_i)))) (am_th (i_il 2) (am_br (b_1 (fun x => decide (x < 0))) (am_th (i_al 0) (am_th (i_ic (2)) (am_th (i_cv 6 1 d_X6_refuse) (r_i)))) (am_th (i_il 2) (am_th (i_ic (20)) (am_br (b_2 (fun x y => decide (x ≤ y))) (am_th (i_al 0) (am_th (i_al 0) (am_th (i_il 1) (am_th (i_il 2) (am_th (i_cv 6 2 d_X6_fallenByDraws) (am_th (i_cv 6 1 d_X6_answer) (r_i))))))) (am_th (i_al 0) (am_th (i_ic (2)) (am_th (i_cv 6 1 d_X6_refuse) (r_i)))))))))))))) (am_th (i_al 0) (am_th (i_ic (1)) (am_th (i_cv 6 1 d_X6_refuse) (r_i))))))
def d_X6_years : am_D := am_den 3 f_X6_years
set_option maxHeartbeats 4000000 in
set_option maxRecDepth 100000 in
theorem b_X6_years : am_Body yX6_years cX6_years 3 (some .int) 6 137 f_X6_years := by
  intro p l e R s m args below meth c g n0 z0 r0 u0 C hr hn
  have C : am_Cx p l e R s m args below meth c g RX6 cX6_years 3 n0 z0 (am_len u0) (am_wt u0) 6 137 := C
  unfold f_X6_years
  exact (so_th (so_aload_n C dX6_years_0 rfl) (so_th (so_geti C fl_RX6_34 (by decide) dX6_years_1) (so_br (so_if_ne C dX6_years_4 (by decide)) (so_th (so_iload_n C dX6_years_13 rfl) (so_br (so_if_lt C dX6_years_14 (by decide)) (so_th (so_aload_n C dX6_years_34 rfl) (so_th (so_iconst C dX6_years_35 (by decide)) (so_th (so_cv C m_X6_refuse rfl k_297 k_299 k_298 k_300 k_5 ⟨by decide, by decide, by decide +kernel⟩ (by decide) dX6_years_36) (so_ri C hr dX6_years_39)))) (so_th (so_iload_n C dX6_years_17 rfl) (so_th (so_ldcw C dX6_years_18 k_456) (so_br (so_icmp_gt C dX6_years_21 (by decide)) (so_th (so_aload_n C dX6_years_34 rfl) (so_th (so_iconst C dX6_years_35 (by decide)) (so_th (so_cv C m_X6_refuse rfl k_297 k_299 k_298 k_300 k_5 ⟨by decide, by decide, by decide +kernel⟩ (by decide) dX6_years_36) (so_ri C hr dX6_years_39)))) (so_th (so_iload_n C dX6_years_24 rfl) (so_br (so_if_lt C dX6_years_25 (by decide)) (so_th (so_aload_n C dX6_years_34 rfl) (so_th (so_iconst C dX6_years_35 (by decide)) (so_th (so_cv C m_X6_refuse rfl k_297 k_299 k_298 k_300 k_5 ⟨by decide, by decide, by decide +kernel⟩ (by decide) dX6_years_36) (so_ri C hr dX6_years_39)))) (so_th (so_iload_n C dX6_years_28 rfl) (so_th (so_bipush C dX6_years_29 (by decide)) (so_br (so_icmp_le C dX6_years_31 (by decide)) (so_th (so_aload_n C dX6_years_40 rfl) (so_th (so_aload_n C dX6_years_41 rfl) (so_th (so_iload_n C dX6_years_42 rfl) (so_th (so_iload_n C dX6_years_43 rfl) (so_th (so_cv C m_X6_fallenByDraws rfl k_457 k_459 k_458 k_460 k_5 ⟨by decide, by decide, by decide +kernel⟩ (by decide) dX6_years_44) (so_th (so_cv C m_X6_answer rfl k_306 k_308 k_307 k_309 k_5 ⟨by decide, by decide, by decide +kernel⟩ (by decide) dX6_years_47) (so_ri C hr dX6_years_50))))))) (so_th (so_aload_n C dX6_years_34 rfl) (so_th (so_iconst C dX6_years_35 (by decide)) (so_th (so_cv C m_X6_refuse rfl k_297 k_299 k_298 k_300 k_5 ⟨by decide, by decide, by decide +kernel⟩ (by decide) dX6_years_36) (so_ri C hr dX6_years_39)))))))))))))) (so_th (so_aload_n C dX6_years_7 rfl) (so_th (so_iconst C dX6_years_8 (by decide)) (so_th (so_cv C m_X6_refuse rfl k_297 k_299 k_298 k_300 k_5 ⟨by decide, by decide, by decide +kernel⟩ (by decide) dX6_years_9) (so_ri C hr dX6_years_12)))))))
theorem m_X6_years : am_M yX6_years cX6_years 3 (some .int) 6 137 d_X6_years := am_M_of (by decide +kernel) b_X6_years
theorem dX6_keepForUndo_0 : decode cX6_keepForUndo 0 = .ok (.aload_n 0, 1) := by decide +kernel
theorem dX6_keepForUndo_1 : decode cX6_keepForUndo 1 = .ok (.getfield 52, 3) := by decide +kernel
theorem dX6_keepForUndo_4 : decode cX6_keepForUndo 4 = .ok (.bipush 16, 2) := by decide +kernel
theorem dX6_keepForUndo_6 : decode cX6_keepForUndo 6 = .ok (.if_icmp .ne 56, 3) := by decide +kernel
theorem dX6_keepForUndo_9 : decode cX6_keepForUndo 9 = .ok (.aload_n 0, 1) := by decide +kernel
theorem dX6_keepForUndo_10 : decode cX6_keepForUndo 10 = .ok (.getfield 48, 3) := by decide +kernel
theorem dX6_keepForUndo_13 : decode cX6_keepForUndo 13 = .ok (.iconst 0, 1) := by decide +kernel
theorem dX6_keepForUndo_14 : decode cX6_keepForUndo 14 = .ok (.aaload, 1) := by decide +kernel
theorem dX6_keepForUndo_15 : decode cX6_keepForUndo 15 = .ok (.astore_n 1, 1) := by decide +kernel
theorem dX6_keepForUndo_16 : decode cX6_keepForUndo 16 = .ok (.iconst 1, 1) := by decide +kernel
theorem dX6_keepForUndo_17 : decode cX6_keepForUndo 17 = .ok (.istore_n 2, 1) := by decide +kernel
theorem dX6_keepForUndo_18 : decode cX6_keepForUndo 18 = .ok (.iload_n 2, 1) := by decide +kernel
theorem dX6_keepForUndo_19 : decode cX6_keepForUndo 19 = .ok (.bipush 16, 2) := by decide +kernel
theorem dX6_keepForUndo_21 : decode cX6_keepForUndo 21 = .ok (.if_icmp .ge 23, 3) := by decide +kernel
theorem dX6_keepForUndo_24 : decode cX6_keepForUndo 24 = .ok (.aload_n 0, 1) := by decide +kernel
theorem dX6_keepForUndo_25 : decode cX6_keepForUndo 25 = .ok (.getfield 48, 3) := by decide +kernel
theorem dX6_keepForUndo_28 : decode cX6_keepForUndo 28 = .ok (.iload_n 2, 1) := by decide +kernel
theorem dX6_keepForUndo_29 : decode cX6_keepForUndo 29 = .ok (.iconst 1, 1) := by decide +kernel
theorem dX6_keepForUndo_30 : decode cX6_keepForUndo 30 = .ok (.isub, 1) := by decide +kernel
theorem dX6_keepForUndo_31 : decode cX6_keepForUndo 31 = .ok (.aload_n 0, 1) := by decide +kernel
theorem dX6_keepForUndo_32 : decode cX6_keepForUndo 32 = .ok (.getfield 48, 3) := by decide +kernel
theorem dX6_keepForUndo_35 : decode cX6_keepForUndo 35 = .ok (.iload_n 2, 1) := by decide +kernel
theorem dX6_keepForUndo_36 : decode cX6_keepForUndo 36 = .ok (.aaload, 1) := by decide +kernel
theorem dX6_keepForUndo_37 : decode cX6_keepForUndo 37 = .ok (.aastore, 1) := by decide +kernel
theorem dX6_keepForUndo_38 : decode cX6_keepForUndo 38 = .ok (.iinc 2 1, 3) := by decide +kernel
theorem dX6_keepForUndo_41 : decode cX6_keepForUndo 41 = .ok (.goto (-23), 3) := by decide +kernel
theorem dX6_keepForUndo_44 : decode cX6_keepForUndo 44 = .ok (.aload_n 0, 1) := by decide +kernel
theorem dX6_keepForUndo_45 : decode cX6_keepForUndo 45 = .ok (.getfield 48, 3) := by decide +kernel
theorem dX6_keepForUndo_48 : decode cX6_keepForUndo 48 = .ok (.bipush 15, 2) := by decide +kernel
theorem dX6_keepForUndo_50 : decode cX6_keepForUndo 50 = .ok (.aload_n 1, 1) := by decide +kernel
theorem dX6_keepForUndo_51 : decode cX6_keepForUndo 51 = .ok (.aastore, 1) := by decide +kernel
theorem dX6_keepForUndo_52 : decode cX6_keepForUndo 52 = .ok (.aload_n 0, 1) := by decide +kernel
theorem dX6_keepForUndo_53 : decode cX6_keepForUndo 53 = .ok (.dup, 1) := by decide +kernel
theorem dX6_keepForUndo_54 : decode cX6_keepForUndo 54 = .ok (.getfield 52, 3) := by decide +kernel
theorem dX6_keepForUndo_57 : decode cX6_keepForUndo 57 = .ok (.iconst 1, 1) := by decide +kernel
theorem dX6_keepForUndo_58 : decode cX6_keepForUndo 58 = .ok (.isub, 1) := by decide +kernel
theorem dX6_keepForUndo_59 : decode cX6_keepForUndo 59 = .ok (.putfield 52, 3) := by decide +kernel
theorem dX6_keepForUndo_62 : decode cX6_keepForUndo 62 = .ok (.aload_n 0, 1) := by decide +kernel
theorem dX6_keepForUndo_63 : decode cX6_keepForUndo 63 = .ok (.getfield 48, 3) := by decide +kernel
theorem dX6_keepForUndo_66 : decode cX6_keepForUndo 66 = .ok (.aload_n 0, 1) := by decide +kernel
theorem dX6_keepForUndo_67 : decode cX6_keepForUndo 67 = .ok (.getfield 52, 3) := by decide +kernel
theorem dX6_keepForUndo_70 : decode cX6_keepForUndo 70 = .ok (.aaload, 1) := by decide +kernel
theorem dX6_keepForUndo_71 : decode cX6_keepForUndo 71 = .ok (.aload_n 0, 1) := by decide +kernel
theorem dX6_keepForUndo_72 : decode cX6_keepForUndo 72 = .ok (.getfield 41, 3) := by decide +kernel
theorem dX6_keepForUndo_75 : decode cX6_keepForUndo 75 = .ok (.invokevirtual 155, 3) := by decide +kernel
theorem dX6_keepForUndo_78 : decode cX6_keepForUndo 78 = .ok (.aload_n 0, 1) := by decide +kernel
theorem dX6_keepForUndo_79 : decode cX6_keepForUndo 79 = .ok (.dup, 1) := by decide +kernel
theorem dX6_keepForUndo_80 : decode cX6_keepForUndo 80 = .ok (.getfield 52, 3) := by decide +kernel
theorem dX6_keepForUndo_83 : decode cX6_keepForUndo 83 = .ok (.iconst 1, 1) := by decide +kernel
theorem dX6_keepForUndo_84 : decode cX6_keepForUndo 84 = .ok (.iadd, 1) := by decide +kernel
theorem dX6_keepForUndo_85 : decode cX6_keepForUndo 85 = .ok (.putfield 52, 3) := by decide +kernel
theorem dX6_keepForUndo_88 : decode cX6_keepForUndo 88 = .ok (.return_, 1) := by decide +kernel
def f_X6_keepForUndo_l18 : am_F := am_th (i_il 2) (am_th (i_ic (16)) (am_br (b_2 (fun x y => decide (y ≤ x))) (am_to 44) (am_th (i_al 0) (am_th (i_gr 6 8) (am_th (i_il 2) (am_th (i_ic (1)) (am_th (i_2 (fun x y => x - y)) (am_th (i_al 0) (am_th (i_gr 6 8) (am_th (i_il 2) (am_th (i_aa) (am_th (i_aS) (am_th (i_inc 2 (1)) (am_to 18))))))))))))))
def f_X6_keepForUndo : am_F := am_th (i_al 0) (am_th (i_gi 6 9) (am_th (i_ic (16)) (am_br (b_2 (fun x y => decide (¬ x = y))) (am_th (i_al 0) (am_th (i_gr 6 8) (am_th (i_al 0) (am_th (i_gi 6 9) (am_th (i_aa) (am_th (i_al 0) (am_th (i_gr 6 6) (am_th (i_cv 2 1 d_X2_become) (am_th (i_al 0) (am_th (i_dup) (am_th (i_gi 6 9) (am_th (i_ic (1)) (am_th (i_2 (fun x y => x + y)) (am_th (i_pi 6 9) (r_v))))))))))))))) (am_th (i_al 0) (am_th (i_gr 6 8) (am_th (i_ic (0)) (am_th (i_aa) (am_th (i_as 1) (am_th (i_ic (1)) (am_th (i_is 2) (am_sq 44 (am_lp 5000 18 f_X6_keepForUndo_l18) (am_th (i_al 0) (am_th (i_gr 6 8) (am_th (i_ic (15)) (am_th (i_al 1) (am_th (i_aS) (am_th (i_al 0) (am_th (i_dup) (am_th (i_gi 6 9) (am_th (i_ic (1)) (am_th (i_2 (fun x y => x - y)) (am_th (i_pi 6 9) (am_th (i_al 0) (am_th (i_gr 6 8) (am_th (i_al 0) (am_th (i_gi 6 9) (am_th (i_aa) (am_th (i_al 0) (am_th (i_gr 6 6) (am_th (i_cv 2 1 d_X2_become) (am_th (i_al 0) (am_th (i_dup) (am_th (i_gi 6 9) (am_th (i_ic (1)) (am_th (i_2 (fun x y => x + y)) (am_th (i_pi 6 9) (r_v)))))))))))))))))))))))))))))))))))))
def d_X6_keepForUndo : am_D := am_den 3 f_X6_keepForUndo
set_option maxHeartbeats 4000000 in
set_option maxRecDepth 100000 in
theorem b_X6_keepForUndo : am_Body yX6_keepForUndo cX6_keepForUndo 3 none 1 22 f_X6_keepForUndo := by
  intro p l e R s m args below meth c g n0 z0 r0 u0 C hr hn
  have C : am_Cx p l e R s m args below meth c g RX6 cX6_keepForUndo 3 n0 z0 (am_len u0) (am_wt u0) 1 22 := C
  have l18 : am_Snd (am_GM p l e R s m args below meth c g 3 n0 z0 r0 u0) (am_Rt r0 u0) 18 (f_X6_keepForUndo_l18) := by
    unfold f_X6_keepForUndo_l18
    exact (so_th (so_iload_n C dX6_keepForUndo_18 rfl) (so_th (so_bipush C dX6_keepForUndo_19 (by decide)) (so_br (so_icmp_ge C dX6_keepForUndo_21 (by decide)) (so_to) (so_th (so_aload_n C dX6_keepForUndo_24 rfl) (so_th (so_getr C fl_RX6_48 dX6_keepForUndo_25) (so_th (so_iload_n C dX6_keepForUndo_28 rfl) (so_th (so_iconst C dX6_keepForUndo_29 (by decide)) (so_th (so_isub C dX6_keepForUndo_30) (so_th (so_aload_n C dX6_keepForUndo_31 rfl) (so_th (so_getr C fl_RX6_48 dX6_keepForUndo_32) (so_th (so_iload_n C dX6_keepForUndo_35 rfl) (so_th (so_aald C dX6_keepForUndo_36) (so_th (so_aast C dX6_keepForUndo_37) (so_th (so_iinc C dX6_keepForUndo_38 (by decide) (by decide)) (so_goto C dX6_keepForUndo_41 (by decide) (so_to))))))))))))))))
  unfold f_X6_keepForUndo
  exact (so_th (so_aload_n C dX6_keepForUndo_0 rfl) (so_th (so_geti C fl_RX6_52 (by decide) dX6_keepForUndo_1) (so_th (so_bipush C dX6_keepForUndo_4 (by decide)) (so_br (so_icmp_ne C dX6_keepForUndo_6 (by decide)) (so_th (so_aload_n C dX6_keepForUndo_62 rfl) (so_th (so_getr C fl_RX6_48 dX6_keepForUndo_63) (so_th (so_aload_n C dX6_keepForUndo_66 rfl) (so_th (so_geti C fl_RX6_52 (by decide) dX6_keepForUndo_67) (so_th (so_aald C dX6_keepForUndo_70) (so_th (so_aload_n C dX6_keepForUndo_71 rfl) (so_th (so_getr C fl_RX6_41 dX6_keepForUndo_72) (so_th (so_cv C m_X2_become rfl k_83 k_336 k_84 k_86 k_40 ⟨by decide, by decide, by decide +kernel⟩ (by decide) dX6_keepForUndo_75) (so_th (so_aload_n C dX6_keepForUndo_78 rfl) (so_th (so_dup C dX6_keepForUndo_79) (so_th (so_geti C fl_RX6_52 (by decide) dX6_keepForUndo_80) (so_th (so_iconst C dX6_keepForUndo_83 (by decide)) (so_th (so_iadd C dX6_keepForUndo_84) (so_th (so_puti C fl_RX6_52 fp_6 (Or.inl rfl) dX6_keepForUndo_85) (so_rv C hr dX6_keepForUndo_88))))))))))))))) (so_th (so_aload_n C dX6_keepForUndo_9 rfl) (so_th (so_getr C fl_RX6_48 dX6_keepForUndo_10) (so_th (so_iconst C dX6_keepForUndo_13 (by decide)) (so_th (so_aald C dX6_keepForUndo_14) (so_th (so_astore_n C dX6_keepForUndo_15 rfl (by decide)) (so_th (so_iconst C dX6_keepForUndo_16 (by decide)) (so_th (so_istore_n C dX6_keepForUndo_17 rfl (by decide)) (so_sq (so_lp l18 5000) (so_th (so_aload_n C dX6_keepForUndo_44 rfl) (so_th (so_getr C fl_RX6_48 dX6_keepForUndo_45) (so_th (so_bipush C dX6_keepForUndo_48 (by decide)) (so_th (so_aload_n C dX6_keepForUndo_50 rfl) (so_th (so_aast C dX6_keepForUndo_51) (so_th (so_aload_n C dX6_keepForUndo_52 rfl) (so_th (so_dup C dX6_keepForUndo_53) (so_th (so_geti C fl_RX6_52 (by decide) dX6_keepForUndo_54) (so_th (so_iconst C dX6_keepForUndo_57 (by decide)) (so_th (so_isub C dX6_keepForUndo_58) (so_th (so_puti C fl_RX6_52 fp_6 (Or.inl rfl) dX6_keepForUndo_59) (so_th (so_aload_n C dX6_keepForUndo_62 rfl) (so_th (so_getr C fl_RX6_48 dX6_keepForUndo_63) (so_th (so_aload_n C dX6_keepForUndo_66 rfl) (so_th (so_geti C fl_RX6_52 (by decide) dX6_keepForUndo_67) (so_th (so_aald C dX6_keepForUndo_70) (so_th (so_aload_n C dX6_keepForUndo_71 rfl) (so_th (so_getr C fl_RX6_41 dX6_keepForUndo_72) (so_th (so_cv C m_X2_become rfl k_83 k_336 k_84 k_86 k_40 ⟨by decide, by decide, by decide +kernel⟩ (by decide) dX6_keepForUndo_75) (so_th (so_aload_n C dX6_keepForUndo_78 rfl) (so_th (so_dup C dX6_keepForUndo_79) (so_th (so_geti C fl_RX6_52 (by decide) dX6_keepForUndo_80) (so_th (so_iconst C dX6_keepForUndo_83 (by decide)) (so_th (so_iadd C dX6_keepForUndo_84) (so_th (so_puti C fl_RX6_52 fp_6 (Or.inl rfl) dX6_keepForUndo_85) (so_rv C hr dX6_keepForUndo_88))))))))))))))))))))))))))))))))))))))
theorem m_X6_keepForUndo : am_M yX6_keepForUndo cX6_keepForUndo 3 none 1 22 d_X6_keepForUndo := am_M_of (by decide +kernel) b_X6_keepForUndo
theorem dX6_graft_0 : decode cX6_graft 0 = .ok (.aload_n 0, 1) := by decide +kernel
theorem dX6_graft_1 : decode cX6_graft 1 = .ok (.iload_n 1, 1) := by decide +kernel
theorem dX6_graft_2 : decode cX6_graft 2 = .ok (.invokevirtual 116, 3) := by decide +kernel
theorem dX6_graft_5 : decode cX6_graft 5 = .ok (.ifCond .eq 11, 3) := by decide +kernel
theorem dX6_graft_8 : decode cX6_graft 8 = .ok (.aload_n 0, 1) := by decide +kernel
theorem dX6_graft_9 : decode cX6_graft 9 = .ok (.iload_n 2, 1) := by decide +kernel
theorem dX6_graft_10 : decode cX6_graft 10 = .ok (.invokevirtual 116, 3) := by decide +kernel
theorem dX6_graft_13 : decode cX6_graft 13 = .ok (.ifCond .ne 9, 3) := by decide +kernel
theorem dX6_graft_16 : decode cX6_graft 16 = .ok (.aload_n 0, 1) := by decide +kernel
theorem dX6_graft_17 : decode cX6_graft 17 = .ok (.iconst 1, 1) := by decide +kernel
theorem dX6_graft_18 : decode cX6_graft 18 = .ok (.invokevirtual 92, 3) := by decide +kernel
theorem dX6_graft_21 : decode cX6_graft 21 = .ok (.ireturn, 1) := by decide +kernel
theorem dX6_graft_22 : decode cX6_graft 22 = .ok (.aload_n 0, 1) := by decide +kernel
theorem dX6_graft_23 : decode cX6_graft 23 = .ok (.getfield 41, 3) := by decide +kernel
theorem dX6_graft_26 : decode cX6_graft 26 = .ok (.aload_n 0, 1) := by decide +kernel
theorem dX6_graft_27 : decode cX6_graft 27 = .ok (.getfield 27, 3) := by decide +kernel
theorem dX6_graft_30 : decode cX6_graft 30 = .ok (.iload_n 1, 1) := by decide +kernel
theorem dX6_graft_31 : decode cX6_graft 31 = .ok (.iload_n 2, 1) := by decide +kernel
theorem dX6_graft_32 : decode cX6_graft 32 = .ok (.invokevirtual 185, 3) := by decide +kernel
theorem dX6_graft_35 : decode cX6_graft 35 = .ok (.ifCond .ne 9, 3) := by decide +kernel
theorem dX6_graft_38 : decode cX6_graft 38 = .ok (.aload_n 0, 1) := by decide +kernel
theorem dX6_graft_39 : decode cX6_graft 39 = .ok (.iconst 5, 1) := by decide +kernel
theorem dX6_graft_40 : decode cX6_graft 40 = .ok (.invokevirtual 92, 3) := by decide +kernel
theorem dX6_graft_43 : decode cX6_graft 43 = .ok (.ireturn, 1) := by decide +kernel
theorem dX6_graft_44 : decode cX6_graft 44 = .ok (.aload_n 0, 1) := by decide +kernel
theorem dX6_graft_45 : decode cX6_graft 45 = .ok (.invokevirtual 262, 3) := by decide +kernel
theorem dX6_graft_48 : decode cX6_graft 48 = .ok (.aload_n 0, 1) := by decide +kernel
theorem dX6_graft_49 : decode cX6_graft 49 = .ok (.getfield 41, 3) := by decide +kernel
theorem dX6_graft_52 : decode cX6_graft 52 = .ok (.iload_n 1, 1) := by decide +kernel
theorem dX6_graft_53 : decode cX6_graft 53 = .ok (.iload_n 2, 1) := by decide +kernel
theorem dX6_graft_54 : decode cX6_graft 54 = .ok (.invokevirtual 265, 3) := by decide +kernel
theorem dX6_graft_57 : decode cX6_graft 57 = .ok (.aload_n 0, 1) := by decide +kernel
theorem dX6_graft_58 : decode cX6_graft 58 = .ok (.iconst 0, 1) := by decide +kernel
theorem dX6_graft_59 : decode cX6_graft 59 = .ok (.putfield 75, 3) := by decide +kernel
theorem dX6_graft_62 : decode cX6_graft 62 = .ok (.aload_n 0, 1) := by decide +kernel
theorem dX6_graft_63 : decode cX6_graft 63 = .ok (.aload_n 0, 1) := by decide +kernel
theorem dX6_graft_64 : decode cX6_graft 64 = .ok (.getfield 41, 3) := by decide +kernel
theorem dX6_graft_67 : decode cX6_graft 67 = .ok (.getfield 179, 3) := by decide +kernel
theorem dX6_graft_70 : decode cX6_graft 70 = .ok (.iload_n 2, 1) := by decide +kernel
theorem dX6_graft_71 : decode cX6_graft 71 = .ok (.iaload, 1) := by decide +kernel
theorem dX6_graft_72 : decode cX6_graft 72 = .ok (.invokevirtual 107, 3) := by decide +kernel
theorem dX6_graft_75 : decode cX6_graft 75 = .ok (.ireturn, 1) := by decide +kernel
def f_X6_graft : am_F := am_th (i_al 0) (am_th (i_il 1) (am_th (i_cv 6 1 d_X6_isQuarrel) (am_br (b_1 (fun x => decide (x = 0))) (am_th (i_al 0) (am_th (i_ic (1)) (am_th (i_cv 6 1 d_X6_refuse) (r_i)))) (am_th (i_al 0) (am_th (i_il 2) (am_th (i_cv 6 1 d_X6_isQuarrel) (am_br (b_1 (fun x => decide (¬ x = 0))) (am_th (i_al 0) (am_th (i_gr 6 6) (am_th (i_al 0) (am_th (i_gr 6 3) (am_th (i_il 1) (am_th (i_il 2) (am_th (i_cv 2 3 d_X2_oddsOf) (am_br (b_1 (fun x => decide (¬ x = 0))) (am_th (i_al 0) (am_th (i_cv 6 0 d_X6_keepForUndo) (am_th (i_al 0) (am_th (i_gr 6 6) (am_th (i_il 1) (am_th (i_il 2) (am_th (i_cv 2 2 d_X2_join) (am_th (i_al 0) (am_th (i_ic (0)) (am_th (i_pz 6 14) (am_th (i_al 0) (am_th (i_al 0) (am_th (i_gr 6 6) (am_th (i_gr 2 2) (am_th (i_il 2) (am_th (i_ia 0) (am_th (i_cv 6 1 d_X6_answer) (r_i)))))))))))))))))) (am_th (i_al 0) (am_th (i_ic (5)) (am_th (i_cv 6 1 d_X6_refuse) (r_i)))))))))))) (am_th (i_al 0) (am_th (i_ic (1)) (am_th (i_cv 6 1 d_X6_refuse) (r_i)))))))))))
def d_X6_graft : am_D := am_den 3 f_X6_graft
set_option maxHeartbeats 4000000 in
set_option maxRecDepth 100000 in
theorem b_X6_graft : am_Body yX6_graft cX6_graft 3 (some .int) 3 68 f_X6_graft := by
  intro p l e R s m args below meth c g n0 z0 r0 u0 C hr hn
  have C : am_Cx p l e R s m args below meth c g RX6 cX6_graft 3 n0 z0 (am_len u0) (am_wt u0) 3 68 := C
  unfold f_X6_graft
  exact (so_th (so_aload_n C dX6_graft_0 rfl) (so_th (so_iload_n C dX6_graft_1 rfl) (so_th (so_cv C m_X6_isQuarrel rfl k_317 k_319 k_318 k_320 k_5 ⟨by decide, by decide, by decide +kernel⟩ (by decide) dX6_graft_2) (so_br (so_if_eq C dX6_graft_5 (by decide)) (so_th (so_aload_n C dX6_graft_16 rfl) (so_th (so_iconst C dX6_graft_17 (by decide)) (so_th (so_cv C m_X6_refuse rfl k_297 k_299 k_298 k_300 k_5 ⟨by decide, by decide, by decide +kernel⟩ (by decide) dX6_graft_18) (so_ri C hr dX6_graft_21)))) (so_th (so_aload_n C dX6_graft_8 rfl) (so_th (so_iload_n C dX6_graft_9 rfl) (so_th (so_cv C m_X6_isQuarrel rfl k_317 k_319 k_318 k_320 k_5 ⟨by decide, by decide, by decide +kernel⟩ (by decide) dX6_graft_10) (so_br (so_if_ne C dX6_graft_13 (by decide)) (so_th (so_aload_n C dX6_graft_22 rfl) (so_th (so_getr C fl_RX6_41 dX6_graft_23) (so_th (so_aload_n C dX6_graft_26 rfl) (so_th (so_getr C fl_RX6_27 dX6_graft_27) (so_th (so_iload_n C dX6_graft_30 rfl) (so_th (so_iload_n C dX6_graft_31 rfl) (so_th (so_cv C m_X2_oddsOf rfl k_91 k_370 k_92 k_94 k_40 ⟨by decide, by decide, by decide +kernel⟩ (by decide) dX6_graft_32) (so_br (so_if_ne C dX6_graft_35 (by decide)) (so_th (so_aload_n C dX6_graft_44 rfl) (so_th (so_cv C m_X6_keepForUndo rfl k_461 k_463 k_462 k_464 k_5 ⟨by decide, by decide, by decide +kernel⟩ (by decide) dX6_graft_45) (so_th (so_aload_n C dX6_graft_48 rfl) (so_th (so_getr C fl_RX6_41 dX6_graft_49) (so_th (so_iload_n C dX6_graft_52 rfl) (so_th (so_iload_n C dX6_graft_53 rfl) (so_th (so_cv C m_X2_join rfl k_95 k_371 k_96 k_98 k_40 ⟨by decide, by decide, by decide +kernel⟩ (by decide) dX6_graft_54) (so_th (so_aload_n C dX6_graft_57 rfl) (so_th (so_iconst C dX6_graft_58 (by decide)) (so_th (so_putz C fl_RX6_75 fp_6 (Or.inl rfl) dX6_graft_59) (so_th (so_aload_n C dX6_graft_62 rfl) (so_th (so_aload_n C dX6_graft_63 rfl) (so_th (so_getr C fl_RX6_41 dX6_graft_64) (so_th (so_getr C fl_RX6_179 dX6_graft_67) (so_th (so_iload_n C dX6_graft_70 rfl) (so_th (so_iald C dX6_graft_71) (so_th (so_cv C m_X6_answer rfl k_306 k_308 k_307 k_309 k_5 ⟨by decide, by decide, by decide +kernel⟩ (by decide) dX6_graft_72) (so_ri C hr dX6_graft_75)))))))))))))))))) (so_th (so_aload_n C dX6_graft_38 rfl) (so_th (so_iconst C dX6_graft_39 (by decide)) (so_th (so_cv C m_X6_refuse rfl k_297 k_299 k_298 k_300 k_5 ⟨by decide, by decide, by decide +kernel⟩ (by decide) dX6_graft_40) (so_ri C hr dX6_graft_43)))))))))))) (so_th (so_aload_n C dX6_graft_16 rfl) (so_th (so_iconst C dX6_graft_17 (by decide)) (so_th (so_cv C m_X6_refuse rfl k_297 k_299 k_298 k_300 k_5 ⟨by decide, by decide, by decide +kernel⟩ (by decide) dX6_graft_18) (so_ri C hr dX6_graft_21))))))))))))
theorem m_X6_graft : am_M yX6_graft cX6_graft 3 (some .int) 3 68 d_X6_graft := am_M_of (by decide +kernel) b_X6_graft
theorem dX6_nourish_0 : decode cX6_nourish 0 = .ok (.aload_n 0, 1) := by decide +kernel
theorem dX6_nourish_1 : decode cX6_nourish 1 = .ok (.iload_n 1, 1) := by decide +kernel
theorem dX6_nourish_2 : decode cX6_nourish 2 = .ok (.invokevirtual 116, 3) := by decide +kernel
theorem dX6_nourish_5 : decode cX6_nourish 5 = .ok (.ifCond .ne 9, 3) := by decide +kernel
theorem dX6_nourish_8 : decode cX6_nourish 8 = .ok (.aload_n 0, 1) := by decide +kernel
theorem dX6_nourish_9 : decode cX6_nourish 9 = .ok (.iconst 1, 1) := by decide +kernel
theorem dX6_nourish_10 : decode cX6_nourish 10 = .ok (.invokevirtual 92, 3) := by decide +kernel
theorem dX6_nourish_13 : decode cX6_nourish 13 = .ok (.ireturn, 1) := by decide +kernel
theorem dX6_nourish_14 : decode cX6_nourish 14 = .ok (.iload_n 2, 1) := by decide +kernel
theorem dX6_nourish_15 : decode cX6_nourish 15 = .ok (.iconst 1, 1) := by decide +kernel
theorem dX6_nourish_16 : decode cX6_nourish 16 = .ok (.if_icmp .lt 9, 3) := by decide +kernel
theorem dX6_nourish_19 : decode cX6_nourish 19 = .ok (.iload_n 2, 1) := by decide +kernel
theorem dX6_nourish_20 : decode cX6_nourish 20 = .ok (.bipush 9, 2) := by decide +kernel
theorem dX6_nourish_22 : decode cX6_nourish 22 = .ok (.if_icmp .le 9, 3) := by decide +kernel
theorem dX6_nourish_25 : decode cX6_nourish 25 = .ok (.aload_n 0, 1) := by decide +kernel
theorem dX6_nourish_26 : decode cX6_nourish 26 = .ok (.iconst 2, 1) := by decide +kernel
theorem dX6_nourish_27 : decode cX6_nourish 27 = .ok (.invokevirtual 92, 3) := by decide +kernel
theorem dX6_nourish_30 : decode cX6_nourish 30 = .ok (.ireturn, 1) := by decide +kernel
theorem dX6_nourish_31 : decode cX6_nourish 31 = .ok (.aload_n 0, 1) := by decide +kernel
theorem dX6_nourish_32 : decode cX6_nourish 32 = .ok (.getfield 41, 3) := by decide +kernel
theorem dX6_nourish_35 : decode cX6_nourish 35 = .ok (.iload_n 1, 1) := by decide +kernel
theorem dX6_nourish_36 : decode cX6_nourish 36 = .ok (.invokevirtual 269, 3) := by decide +kernel
theorem dX6_nourish_39 : decode cX6_nourish 39 = .ok (.ifCond .ne 9, 3) := by decide +kernel
theorem dX6_nourish_42 : decode cX6_nourish 42 = .ok (.aload_n 0, 1) := by decide +kernel
theorem dX6_nourish_43 : decode cX6_nourish 43 = .ok (.iconst 5, 1) := by decide +kernel
theorem dX6_nourish_44 : decode cX6_nourish 44 = .ok (.invokevirtual 92, 3) := by decide +kernel
theorem dX6_nourish_47 : decode cX6_nourish 47 = .ok (.ireturn, 1) := by decide +kernel
theorem dX6_nourish_48 : decode cX6_nourish 48 = .ok (.aload_n 0, 1) := by decide +kernel
theorem dX6_nourish_49 : decode cX6_nourish 49 = .ok (.invokevirtual 262, 3) := by decide +kernel
theorem dX6_nourish_52 : decode cX6_nourish 52 = .ok (.aload_n 0, 1) := by decide +kernel
theorem dX6_nourish_53 : decode cX6_nourish 53 = .ok (.getfield 41, 3) := by decide +kernel
theorem dX6_nourish_56 : decode cX6_nourish 56 = .ok (.getfield 179, 3) := by decide +kernel
theorem dX6_nourish_59 : decode cX6_nourish 59 = .ok (.iload_n 1, 1) := by decide +kernel
theorem dX6_nourish_60 : decode cX6_nourish 60 = .ok (.dup2, 1) := by decide +kernel
theorem dX6_nourish_61 : decode cX6_nourish 61 = .ok (.iaload, 1) := by decide +kernel
theorem dX6_nourish_62 : decode cX6_nourish 62 = .ok (.iload_n 2, 1) := by decide +kernel
theorem dX6_nourish_63 : decode cX6_nourish 63 = .ok (.iadd, 1) := by decide +kernel
theorem dX6_nourish_64 : decode cX6_nourish 64 = .ok (.iastore, 1) := by decide +kernel
theorem dX6_nourish_65 : decode cX6_nourish 65 = .ok (.aload_n 0, 1) := by decide +kernel
theorem dX6_nourish_66 : decode cX6_nourish 66 = .ok (.aload_n 0, 1) := by decide +kernel
theorem dX6_nourish_67 : decode cX6_nourish 67 = .ok (.getfield 41, 3) := by decide +kernel
theorem dX6_nourish_70 : decode cX6_nourish 70 = .ok (.getfield 179, 3) := by decide +kernel
theorem dX6_nourish_73 : decode cX6_nourish 73 = .ok (.iload_n 1, 1) := by decide +kernel
theorem dX6_nourish_74 : decode cX6_nourish 74 = .ok (.iaload, 1) := by decide +kernel
theorem dX6_nourish_75 : decode cX6_nourish 75 = .ok (.invokevirtual 107, 3) := by decide +kernel
theorem dX6_nourish_78 : decode cX6_nourish 78 = .ok (.ireturn, 1) := by decide +kernel
def f_X6_nourish : am_F := am_th (i_al 0) (am_th (i_il 1) (am_th (i_cv 6 1 d_X6_isQuarrel) (am_br (b_1 (fun x => decide (¬ x = 0))) (am_th (i_il 2) (am_th (i_ic (1)) (am_br (b_2 (fun x y => decide (x < y))) (am_th (i_al 0) (am_th (i_ic (2)) (am_th (i_cv 6 1 d_X6_refuse) (r_i)))) (am_th (i_il 2) (am_th (i_ic (9)) (am_br (b_2 (fun x y => decide (x ≤ y))) (am_th (i_al 0) (am_th (i_gr 6 6) (am_th (i_il 1) (am_th (i_cv 2 1 d_X2_stands) (am_br (b_1 (fun x => decide (¬ x = 0))) (am_th (i_al 0) (am_th (i_cv 6 0 d_X6_keepForUndo) (am_th (i_al 0) (am_th (i_gr 6 6) (am_th (i_gr 2 2) (am_th (i_il 1) (am_th (i_dup2) (am_th (i_ia 0) (am_th (i_il 2) (am_th (i_2 (fun x y => x + y)) (am_th (i_iS) (am_th (i_al 0) (am_th (i_al 0) (am_th (i_gr 6 6) (am_th (i_gr 2 2) (am_th (i_il 1) (am_th (i_ia 0) (am_th (i_cv 6 1 d_X6_answer) (r_i))))))))))))))))))) (am_th (i_al 0) (am_th (i_ic (5)) (am_th (i_cv 6 1 d_X6_refuse) (r_i))))))))) (am_th (i_al 0) (am_th (i_ic (2)) (am_th (i_cv 6 1 d_X6_refuse) (r_i)))))))))) (am_th (i_al 0) (am_th (i_ic (1)) (am_th (i_cv 6 1 d_X6_refuse) (r_i)))))))
def d_X6_nourish : am_D := am_den 3 f_X6_nourish
set_option maxHeartbeats 4000000 in
set_option maxRecDepth 100000 in
theorem b_X6_nourish : am_Body yX6_nourish cX6_nourish 3 (some .int) 2 44 f_X6_nourish := by
  intro p l e R s m args below meth c g n0 z0 r0 u0 C hr hn
  have C : am_Cx p l e R s m args below meth c g RX6 cX6_nourish 3 n0 z0 (am_len u0) (am_wt u0) 2 44 := C
  unfold f_X6_nourish
  exact (so_th (so_aload_n C dX6_nourish_0 rfl) (so_th (so_iload_n C dX6_nourish_1 rfl) (so_th (so_cv C m_X6_isQuarrel rfl k_317 k_319 k_318 k_320 k_5 ⟨by decide, by decide, by decide +kernel⟩ (by decide) dX6_nourish_2) (so_br (so_if_ne C dX6_nourish_5 (by decide)) (so_th (so_iload_n C dX6_nourish_14 rfl) (so_th (so_iconst C dX6_nourish_15 (by decide)) (so_br (so_icmp_lt C dX6_nourish_16 (by decide)) (so_th (so_aload_n C dX6_nourish_25 rfl) (so_th (so_iconst C dX6_nourish_26 (by decide)) (so_th (so_cv C m_X6_refuse rfl k_297 k_299 k_298 k_300 k_5 ⟨by decide, by decide, by decide +kernel⟩ (by decide) dX6_nourish_27) (so_ri C hr dX6_nourish_30)))) (so_th (so_iload_n C dX6_nourish_19 rfl) (so_th (so_bipush C dX6_nourish_20 (by decide)) (so_br (so_icmp_le C dX6_nourish_22 (by decide)) (so_th (so_aload_n C dX6_nourish_31 rfl) (so_th (so_getr C fl_RX6_41 dX6_nourish_32) (so_th (so_iload_n C dX6_nourish_35 rfl) (so_th (so_cv C m_X2_stands rfl k_43 k_314 k_44 k_46 k_40 ⟨by decide, by decide, by decide +kernel⟩ (by decide) dX6_nourish_36) (so_br (so_if_ne C dX6_nourish_39 (by decide)) (so_th (so_aload_n C dX6_nourish_48 rfl) (so_th (so_cv C m_X6_keepForUndo rfl k_461 k_463 k_462 k_464 k_5 ⟨by decide, by decide, by decide +kernel⟩ (by decide) dX6_nourish_49) (so_th (so_aload_n C dX6_nourish_52 rfl) (so_th (so_getr C fl_RX6_41 dX6_nourish_53) (so_th (so_getr C fl_RX6_179 dX6_nourish_56) (so_th (so_iload_n C dX6_nourish_59 rfl) (so_th (so_dup2 C dX6_nourish_60) (so_th (so_iald C dX6_nourish_61) (so_th (so_iload_n C dX6_nourish_62 rfl) (so_th (so_iadd C dX6_nourish_63) (so_th (so_iast C dX6_nourish_64) (so_th (so_aload_n C dX6_nourish_65 rfl) (so_th (so_aload_n C dX6_nourish_66 rfl) (so_th (so_getr C fl_RX6_41 dX6_nourish_67) (so_th (so_getr C fl_RX6_179 dX6_nourish_70) (so_th (so_iload_n C dX6_nourish_73 rfl) (so_th (so_iald C dX6_nourish_74) (so_th (so_cv C m_X6_answer rfl k_306 k_308 k_307 k_309 k_5 ⟨by decide, by decide, by decide +kernel⟩ (by decide) dX6_nourish_75) (so_ri C hr dX6_nourish_78))))))))))))))))))) (so_th (so_aload_n C dX6_nourish_42 rfl) (so_th (so_iconst C dX6_nourish_43 (by decide)) (so_th (so_cv C m_X6_refuse rfl k_297 k_299 k_298 k_300 k_5 ⟨by decide, by decide, by decide +kernel⟩ (by decide) dX6_nourish_44) (so_ri C hr dX6_nourish_47))))))))) (so_th (so_aload_n C dX6_nourish_25 rfl) (so_th (so_iconst C dX6_nourish_26 (by decide)) (so_th (so_cv C m_X6_refuse rfl k_297 k_299 k_298 k_300 k_5 ⟨by decide, by decide, by decide +kernel⟩ (by decide) dX6_nourish_27) (so_ri C hr dX6_nourish_30)))))))))) (so_th (so_aload_n C dX6_nourish_8 rfl) (so_th (so_iconst C dX6_nourish_9 (by decide)) (so_th (so_cv C m_X6_refuse rfl k_297 k_299 k_298 k_300 k_5 ⟨by decide, by decide, by decide +kernel⟩ (by decide) dX6_nourish_10) (so_ri C hr dX6_nourish_13))))))))
theorem m_X6_nourish : am_M yX6_nourish cX6_nourish 3 (some .int) 2 44 d_X6_nourish := am_M_of (by decide +kernel) b_X6_nourish
theorem dX6_cut_0 : decode cX6_cut 0 = .ok (.aload_n 0, 1) := by decide +kernel
theorem dX6_cut_1 : decode cX6_cut 1 = .ok (.iload_n 1, 1) := by decide +kernel
theorem dX6_cut_2 : decode cX6_cut 2 = .ok (.invokevirtual 116, 3) := by decide +kernel
theorem dX6_cut_5 : decode cX6_cut 5 = .ok (.ifCond .ne 9, 3) := by decide +kernel
theorem dX6_cut_8 : decode cX6_cut 8 = .ok (.aload_n 0, 1) := by decide +kernel
theorem dX6_cut_9 : decode cX6_cut 9 = .ok (.iconst 1, 1) := by decide +kernel
theorem dX6_cut_10 : decode cX6_cut 10 = .ok (.invokevirtual 92, 3) := by decide +kernel
theorem dX6_cut_13 : decode cX6_cut 13 = .ok (.ireturn, 1) := by decide +kernel
theorem dX6_cut_14 : decode cX6_cut 14 = .ok (.aload_n 0, 1) := by decide +kernel
theorem dX6_cut_15 : decode cX6_cut 15 = .ok (.getfield 41, 3) := by decide +kernel
theorem dX6_cut_18 : decode cX6_cut 18 = .ok (.iload_n 1, 1) := by decide +kernel
theorem dX6_cut_19 : decode cX6_cut 19 = .ok (.invokevirtual 269, 3) := by decide +kernel
theorem dX6_cut_22 : decode cX6_cut 22 = .ok (.ifCond .ne 9, 3) := by decide +kernel
theorem dX6_cut_25 : decode cX6_cut 25 = .ok (.aload_n 0, 1) := by decide +kernel
theorem dX6_cut_26 : decode cX6_cut 26 = .ok (.iconst 5, 1) := by decide +kernel
theorem dX6_cut_27 : decode cX6_cut 27 = .ok (.invokevirtual 92, 3) := by decide +kernel
theorem dX6_cut_30 : decode cX6_cut 30 = .ok (.ireturn, 1) := by decide +kernel
theorem dX6_cut_31 : decode cX6_cut 31 = .ok (.iload_n 2, 1) := by decide +kernel
theorem dX6_cut_32 : decode cX6_cut 32 = .ok (.iconst 1, 1) := by decide +kernel
theorem dX6_cut_33 : decode cX6_cut 33 = .ok (.if_icmp .lt 22, 3) := by decide +kernel
theorem dX6_cut_36 : decode cX6_cut 36 = .ok (.iload_n 2, 1) := by decide +kernel
theorem dX6_cut_37 : decode cX6_cut 37 = .ok (.bipush 30, 2) := by decide +kernel
theorem dX6_cut_39 : decode cX6_cut 39 = .ok (.if_icmp .gt 16, 3) := by decide +kernel
theorem dX6_cut_42 : decode cX6_cut 42 = .ok (.iload_n 2, 1) := by decide +kernel
theorem dX6_cut_43 : decode cX6_cut 43 = .ok (.aload_n 0, 1) := by decide +kernel
theorem dX6_cut_44 : decode cX6_cut 44 = .ok (.getfield 41, 3) := by decide +kernel
theorem dX6_cut_47 : decode cX6_cut 47 = .ok (.getfield 179, 3) := by decide +kernel
theorem dX6_cut_50 : decode cX6_cut 50 = .ok (.iload_n 1, 1) := by decide +kernel
theorem dX6_cut_51 : decode cX6_cut 51 = .ok (.iaload, 1) := by decide +kernel
theorem dX6_cut_52 : decode cX6_cut 52 = .ok (.if_icmp .le 9, 3) := by decide +kernel
theorem dX6_cut_55 : decode cX6_cut 55 = .ok (.aload_n 0, 1) := by decide +kernel
theorem dX6_cut_56 : decode cX6_cut 56 = .ok (.iconst 2, 1) := by decide +kernel
theorem dX6_cut_57 : decode cX6_cut 57 = .ok (.invokevirtual 92, 3) := by decide +kernel
theorem dX6_cut_60 : decode cX6_cut 60 = .ok (.ireturn, 1) := by decide +kernel
theorem dX6_cut_61 : decode cX6_cut 61 = .ok (.aload_n 0, 1) := by decide +kernel
theorem dX6_cut_62 : decode cX6_cut 62 = .ok (.invokevirtual 262, 3) := by decide +kernel
theorem dX6_cut_65 : decode cX6_cut 65 = .ok (.aload_n 0, 1) := by decide +kernel
theorem dX6_cut_66 : decode cX6_cut 66 = .ok (.getfield 41, 3) := by decide +kernel
theorem dX6_cut_69 : decode cX6_cut 69 = .ok (.getfield 179, 3) := by decide +kernel
theorem dX6_cut_72 : decode cX6_cut 72 = .ok (.iload_n 1, 1) := by decide +kernel
theorem dX6_cut_73 : decode cX6_cut 73 = .ok (.dup2, 1) := by decide +kernel
theorem dX6_cut_74 : decode cX6_cut 74 = .ok (.iaload, 1) := by decide +kernel
theorem dX6_cut_75 : decode cX6_cut 75 = .ok (.iload_n 2, 1) := by decide +kernel
theorem dX6_cut_76 : decode cX6_cut 76 = .ok (.isub, 1) := by decide +kernel
theorem dX6_cut_77 : decode cX6_cut 77 = .ok (.iastore, 1) := by decide +kernel
theorem dX6_cut_78 : decode cX6_cut 78 = .ok (.aload_n 0, 1) := by decide +kernel
theorem dX6_cut_79 : decode cX6_cut 79 = .ok (.getfield 41, 3) := by decide +kernel
theorem dX6_cut_82 : decode cX6_cut 82 = .ok (.dup, 1) := by decide +kernel
theorem dX6_cut_83 : decode cX6_cut 83 = .ok (.getfield 272, 3) := by decide +kernel
theorem dX6_cut_86 : decode cX6_cut 86 = .ok (.iload_n 2, 1) := by decide +kernel
theorem dX6_cut_87 : decode cX6_cut 87 = .ok (.aload_n 0, 1) := by decide +kernel
theorem dX6_cut_88 : decode cX6_cut 88 = .ok (.getfield 27, 3) := by decide +kernel
theorem dX6_cut_91 : decode cX6_cut 91 = .ok (.getfield 275, 3) := by decide +kernel
theorem dX6_cut_94 : decode cX6_cut 94 = .ok (.aload_n 0, 1) := by decide +kernel
theorem dX6_cut_95 : decode cX6_cut 95 = .ok (.getfield 41, 3) := by decide +kernel
theorem dX6_cut_98 : decode cX6_cut 98 = .ok (.getfield 278, 3) := by decide +kernel
theorem dX6_cut_101 : decode cX6_cut 101 = .ok (.iconst 4, 1) := by decide +kernel
theorem dX6_cut_102 : decode cX6_cut 102 = .ok (.irem, 1) := by decide +kernel
theorem dX6_cut_103 : decode cX6_cut 103 = .ok (.iaload, 1) := by decide +kernel
theorem dX6_cut_104 : decode cX6_cut 104 = .ok (.imul, 1) := by decide +kernel
theorem dX6_cut_105 : decode cX6_cut 105 = .ok (.iadd, 1) := by decide +kernel
theorem dX6_cut_106 : decode cX6_cut 106 = .ok (.putfield 272, 3) := by decide +kernel
theorem dX6_cut_109 : decode cX6_cut 109 = .ok (.aload_n 0, 1) := by decide +kernel
theorem dX6_cut_110 : decode cX6_cut 110 = .ok (.aload_n 0, 1) := by decide +kernel
theorem dX6_cut_111 : decode cX6_cut 111 = .ok (.getfield 41, 3) := by decide +kernel
theorem dX6_cut_114 : decode cX6_cut 114 = .ok (.getfield 272, 3) := by decide +kernel
theorem dX6_cut_117 : decode cX6_cut 117 = .ok (.invokevirtual 107, 3) := by decide +kernel
theorem dX6_cut_120 : decode cX6_cut 120 = .ok (.ireturn, 1) := by decide +kernel
def f_X6_cut : am_F := am_th (i_al 0) (am_th (i_il 1) (am_th (i_cv 6 1 d_X6_isQuarrel) (am_br (b_1 (fun x => decide (¬ x = 0))) (am_th (i_al 0) (am_th (i_gr 6 6) (am_th (i_il 1) (am_th (i_cv 2 1 d_X2_stands) (am_br (b_1 (fun x => decide (¬ x = 0))) (am_th (i_il 2) (am_th (i_ic (1)) (am_br (b_2 (fun x y => decide (x < y))) (am_th (i_al 0) (am_th (i_ic (2)) (am_th (i_cv 6 1 d_X6_refuse) (r_i)))) (am_th (i_il 2) (am_th (i_ic (30)) (am_br (b_2 (fun x y => decide (y < x))) (am_th (i_al 0) (am_th (i_ic (2)) (am_th (i_cv 6 1 d_X6_refuse) (r_i)))) (am_th (i_il 2) (am_th (i_al 0) (am_th (i_gr 6 6) (am_th (i_gr 2 2) (am_th (i_il 1) (am_th (i_ia 0) (am_br (b_2 (fun x y => decide (x ≤ y))) (am_th (i_al 0) (am_th (i_cv 6 0 d_X6_keepForUndo) (am_th (i_al 0) (am_th (i_gr 6 6) (am_th (i_gr 2 2) (am_th (i_il 1) (am_th (i_dup2) (am_th (i_ia 0) (am_th (i_il 2) (am_th (i_2 (fun x y => x - y)) (am_th (i_iS) (am_th (i_al 0) (am_th (i_gr 6 6) (am_th (i_dup) (am_th (i_gi 2 1) (am_th (i_il 2) (am_th (i_al 0) (am_th (i_gr 6 3) (am_th (i_gr 5 8) (am_th (i_al 0) (am_th (i_gr 6 6) (am_th (i_gi 2 0) (am_th (i_ic (4)) (am_th (i_2n (fun x y => x - x / y * y)) (am_th (i_ia 0) (am_th (i_2 (fun x y => x * y)) (am_th (i_2 (fun x y => x + y)) (am_th (i_pi 2 1) (am_th (i_al 0) (am_th (i_al 0) (am_th (i_gr 6 6) (am_th (i_gi 2 1) (am_th (i_cv 6 1 d_X6_answer) (r_i)))))))))))))))))))))))))))))))))) (am_th (i_al 0) (am_th (i_ic (2)) (am_th (i_cv 6 1 d_X6_refuse) (r_i))))))))))))))))) (am_th (i_al 0) (am_th (i_ic (5)) (am_th (i_cv 6 1 d_X6_refuse) (r_i))))))))) (am_th (i_al 0) (am_th (i_ic (1)) (am_th (i_cv 6 1 d_X6_refuse) (r_i)))))))
def d_X6_cut : am_D := am_den 3 f_X6_cut
set_option maxHeartbeats 4000000 in
set_option maxRecDepth 100000 in
theorem b_X6_cut : am_Body yX6_cut cX6_cut 3 (some .int) 2 44 f_X6_cut := by
  intro p l e R s m args below meth c g n0 z0 r0 u0 C hr hn
  have C : am_Cx p l e R s m args below meth c g RX6 cX6_cut 3 n0 z0 (am_len u0) (am_wt u0) 2 44 := C
  unfold f_X6_cut
  exact (so_th (so_aload_n C dX6_cut_0 rfl) (so_th (so_iload_n C dX6_cut_1 rfl) (so_th (so_cv C m_X6_isQuarrel rfl k_317 k_319 k_318 k_320 k_5 ⟨by decide, by decide, by decide +kernel⟩ (by decide) dX6_cut_2) (so_br (so_if_ne C dX6_cut_5 (by decide)) (so_th (so_aload_n C dX6_cut_14 rfl) (so_th (so_getr C fl_RX6_41 dX6_cut_15) (so_th (so_iload_n C dX6_cut_18 rfl) (so_th (so_cv C m_X2_stands rfl k_43 k_314 k_44 k_46 k_40 ⟨by decide, by decide, by decide +kernel⟩ (by decide) dX6_cut_19) (so_br (so_if_ne C dX6_cut_22 (by decide)) (so_th (so_iload_n C dX6_cut_31 rfl) (so_th (so_iconst C dX6_cut_32 (by decide)) (so_br (so_icmp_lt C dX6_cut_33 (by decide)) (so_th (so_aload_n C dX6_cut_55 rfl) (so_th (so_iconst C dX6_cut_56 (by decide)) (so_th (so_cv C m_X6_refuse rfl k_297 k_299 k_298 k_300 k_5 ⟨by decide, by decide, by decide +kernel⟩ (by decide) dX6_cut_57) (so_ri C hr dX6_cut_60)))) (so_th (so_iload_n C dX6_cut_36 rfl) (so_th (so_bipush C dX6_cut_37 (by decide)) (so_br (so_icmp_gt C dX6_cut_39 (by decide)) (so_th (so_aload_n C dX6_cut_55 rfl) (so_th (so_iconst C dX6_cut_56 (by decide)) (so_th (so_cv C m_X6_refuse rfl k_297 k_299 k_298 k_300 k_5 ⟨by decide, by decide, by decide +kernel⟩ (by decide) dX6_cut_57) (so_ri C hr dX6_cut_60)))) (so_th (so_iload_n C dX6_cut_42 rfl) (so_th (so_aload_n C dX6_cut_43 rfl) (so_th (so_getr C fl_RX6_41 dX6_cut_44) (so_th (so_getr C fl_RX6_179 dX6_cut_47) (so_th (so_iload_n C dX6_cut_50 rfl) (so_th (so_iald C dX6_cut_51) (so_br (so_icmp_le C dX6_cut_52 (by decide)) (so_th (so_aload_n C dX6_cut_61 rfl) (so_th (so_cv C m_X6_keepForUndo rfl k_461 k_463 k_462 k_464 k_5 ⟨by decide, by decide, by decide +kernel⟩ (by decide) dX6_cut_62) (so_th (so_aload_n C dX6_cut_65 rfl) (so_th (so_getr C fl_RX6_41 dX6_cut_66) (so_th (so_getr C fl_RX6_179 dX6_cut_69) (so_th (so_iload_n C dX6_cut_72 rfl) (so_th (so_dup2 C dX6_cut_73) (so_th (so_iald C dX6_cut_74) (so_th (so_iload_n C dX6_cut_75 rfl) (so_th (so_isub C dX6_cut_76) (so_th (so_iast C dX6_cut_77) (so_th (so_aload_n C dX6_cut_78 rfl) (so_th (so_getr C fl_RX6_41 dX6_cut_79) (so_th (so_dup C dX6_cut_82) (so_th (so_geti C fl_RX6_272 (by decide) dX6_cut_83) (so_th (so_iload_n C dX6_cut_86 rfl) (so_th (so_aload_n C dX6_cut_87 rfl) (so_th (so_getr C fl_RX6_27 dX6_cut_88) (so_th (so_getr C fl_RX6_275 dX6_cut_91) (so_th (so_aload_n C dX6_cut_94 rfl) (so_th (so_getr C fl_RX6_41 dX6_cut_95) (so_th (so_geti C fl_RX6_278 (by decide) dX6_cut_98) (so_th (so_iconst C dX6_cut_101 (by decide)) (so_th (so_irem C dX6_cut_102) (so_th (so_iald C dX6_cut_103) (so_th (so_imul C dX6_cut_104) (so_th (so_iadd C dX6_cut_105) (so_th (so_puti C fl_RX6_272 fp_2 (Or.inl rfl) dX6_cut_106) (so_th (so_aload_n C dX6_cut_109 rfl) (so_th (so_aload_n C dX6_cut_110 rfl) (so_th (so_getr C fl_RX6_41 dX6_cut_111) (so_th (so_geti C fl_RX6_272 (by decide) dX6_cut_114) (so_th (so_cv C m_X6_answer rfl k_306 k_308 k_307 k_309 k_5 ⟨by decide, by decide, by decide +kernel⟩ (by decide) dX6_cut_117) (so_ri C hr dX6_cut_120)))))))))))))))))))))))))))))))))) (so_th (so_aload_n C dX6_cut_55 rfl) (so_th (so_iconst C dX6_cut_56 (by decide)) (so_th (so_cv C m_X6_refuse rfl k_297 k_299 k_298 k_300 k_5 ⟨by decide, by decide, by decide +kernel⟩ (by decide) dX6_cut_57) (so_ri C hr dX6_cut_60))))))))))))))))) (so_th (so_aload_n C dX6_cut_25 rfl) (so_th (so_iconst C dX6_cut_26 (by decide)) (so_th (so_cv C m_X6_refuse rfl k_297 k_299 k_298 k_300 k_5 ⟨by decide, by decide, by decide +kernel⟩ (by decide) dX6_cut_27) (so_ri C hr dX6_cut_30))))))))) (so_th (so_aload_n C dX6_cut_8 rfl) (so_th (so_iconst C dX6_cut_9 (by decide)) (so_th (so_cv C m_X6_refuse rfl k_297 k_299 k_298 k_300 k_5 ⟨by decide, by decide, by decide +kernel⟩ (by decide) dX6_cut_10) (so_ri C hr dX6_cut_13))))))))
theorem m_X6_cut : am_M yX6_cut cX6_cut 3 (some .int) 2 44 d_X6_cut := am_M_of (by decide +kernel) b_X6_cut
theorem dX6_season_0 : decode cX6_season 0 = .ok (.aload_n 0, 1) := by decide +kernel
theorem dX6_season_1 : decode cX6_season 1 = .ok (.getfield 34, 3) := by decide +kernel
theorem dX6_season_4 : decode cX6_season 4 = .ok (.ifCond .ne 9, 3) := by decide +kernel
theorem dX6_season_7 : decode cX6_season 7 = .ok (.aload_n 0, 1) := by decide +kernel
theorem dX6_season_8 : decode cX6_season 8 = .ok (.iconst 1, 1) := by decide +kernel
theorem dX6_season_9 : decode cX6_season 9 = .ok (.invokevirtual 92, 3) := by decide +kernel
theorem dX6_season_12 : decode cX6_season 12 = .ok (.ireturn, 1) := by decide +kernel
theorem dX6_season_13 : decode cX6_season 13 = .ok (.aload_n 0, 1) := by decide +kernel
theorem dX6_season_14 : decode cX6_season 14 = .ok (.getfield 41, 3) := by decide +kernel
theorem dX6_season_17 : decode cX6_season 17 = .ok (.getfield 278, 3) := by decide +kernel
theorem dX6_season_20 : decode cX6_season 20 = .ok (.sipush 200, 3) := by decide +kernel
theorem dX6_season_23 : decode cX6_season 23 = .ok (.if_icmp .lt 9, 3) := by decide +kernel
theorem dX6_season_26 : decode cX6_season 26 = .ok (.aload_n 0, 1) := by decide +kernel
theorem dX6_season_27 : decode cX6_season 27 = .ok (.iconst 3, 1) := by decide +kernel
theorem dX6_season_28 : decode cX6_season 28 = .ok (.invokevirtual 92, 3) := by decide +kernel
theorem dX6_season_31 : decode cX6_season 31 = .ok (.ireturn, 1) := by decide +kernel
theorem dX6_season_32 : decode cX6_season 32 = .ok (.aload_n 0, 1) := by decide +kernel
theorem dX6_season_33 : decode cX6_season 33 = .ok (.invokevirtual 262, 3) := by decide +kernel
theorem dX6_season_36 : decode cX6_season 36 = .ok (.aload_n 0, 1) := by decide +kernel
theorem dX6_season_37 : decode cX6_season 37 = .ok (.aload_n 0, 1) := by decide +kernel
theorem dX6_season_38 : decode cX6_season 38 = .ok (.getfield 41, 3) := by decide +kernel
theorem dX6_season_41 : decode cX6_season 41 = .ok (.aload_n 0, 1) := by decide +kernel
theorem dX6_season_42 : decode cX6_season 42 = .ok (.getfield 27, 3) := by decide +kernel
theorem dX6_season_45 : decode cX6_season 45 = .ok (.invokevirtual 159, 3) := by decide +kernel
theorem dX6_season_48 : decode cX6_season 48 = .ok (.invokestatic 281, 3) := by decide +kernel
theorem dX6_season_51 : decode cX6_season 51 = .ok (.invokevirtual 107, 3) := by decide +kernel
theorem dX6_season_54 : decode cX6_season 54 = .ok (.ireturn, 1) := by decide +kernel
def f_X6_season : am_F := am_th (i_al 0) (am_th (i_gi 6 5) (am_br (b_1 (fun x => decide (¬ x = 0))) (am_th (i_al 0) (am_th (i_gr 6 6) (am_th (i_gi 2 0) (am_th (i_ic (200)) (am_br (b_2 (fun x y => decide (x < y))) (am_th (i_al 0) (am_th (i_cv 6 0 d_X6_keepForUndo) (am_th (i_al 0) (am_th (i_al 0) (am_th (i_gr 6 6) (am_th (i_al 0) (am_th (i_gr 6 3) (am_th (i_cv 2 1 d_X2_passByDeeds) (am_th (i_cs 1 d_J6_bitCount_0f7a4) (am_th (i_cv 6 1 d_X6_answer) (r_i))))))))))) (am_th (i_al 0) (am_th (i_ic (3)) (am_th (i_cv 6 1 d_X6_refuse) (r_i))))))))) (am_th (i_al 0) (am_th (i_ic (1)) (am_th (i_cv 6 1 d_X6_refuse) (r_i))))))
def d_X6_season : am_D := am_den 1 f_X6_season
set_option maxHeartbeats 4000000 in
set_option maxRecDepth 100000 in
theorem b_X6_season : am_Body yX6_season cX6_season 1 (some .int) 5 109 f_X6_season := by
  intro p l e R s m args below meth c g n0 z0 r0 u0 C hr hn
  have C : am_Cx p l e R s m args below meth c g RX6 cX6_season 1 n0 z0 (am_len u0) (am_wt u0) 5 109 := C
  unfold f_X6_season
  exact (so_th (so_aload_n C dX6_season_0 rfl) (so_th (so_geti C fl_RX6_34 (by decide) dX6_season_1) (so_br (so_if_ne C dX6_season_4 (by decide)) (so_th (so_aload_n C dX6_season_13 rfl) (so_th (so_getr C fl_RX6_41 dX6_season_14) (so_th (so_geti C fl_RX6_278 (by decide) dX6_season_17) (so_th (so_sipush C dX6_season_20 (by decide)) (so_br (so_icmp_lt C dX6_season_23 (by decide)) (so_th (so_aload_n C dX6_season_32 rfl) (so_th (so_cv C m_X6_keepForUndo rfl k_461 k_463 k_462 k_464 k_5 ⟨by decide, by decide, by decide +kernel⟩ (by decide) dX6_season_33) (so_th (so_aload_n C dX6_season_36 rfl) (so_th (so_aload_n C dX6_season_37 rfl) (so_th (so_getr C fl_RX6_41 dX6_season_38) (so_th (so_aload_n C dX6_season_41 rfl) (so_th (so_getr C fl_RX6_27 dX6_season_42) (so_th (so_cv C m_X2_passByDeeds rfl k_63 k_337 k_64 k_66 k_40 ⟨by decide, by decide, by decide +kernel⟩ (by decide) dX6_season_45) (so_th (so_cs C m_J6_bitCount_0f7a4 k_107 k_345 k_109 k_108 ⟨by decide, by decide, by decide +kernel⟩ (by decide) dX6_season_48) (so_th (so_cv C m_X6_answer rfl k_306 k_308 k_307 k_309 k_5 ⟨by decide, by decide, by decide +kernel⟩ (by decide) dX6_season_51) (so_ri C hr dX6_season_54))))))))))) (so_th (so_aload_n C dX6_season_26 rfl) (so_th (so_iconst C dX6_season_27 (by decide)) (so_th (so_cv C m_X6_refuse rfl k_297 k_299 k_298 k_300 k_5 ⟨by decide, by decide, by decide +kernel⟩ (by decide) dX6_season_28) (so_ri C hr dX6_season_31))))))))) (so_th (so_aload_n C dX6_season_7 rfl) (so_th (so_iconst C dX6_season_8 (by decide)) (so_th (so_cv C m_X6_refuse rfl k_297 k_299 k_298 k_300 k_5 ⟨by decide, by decide, by decide +kernel⟩ (by decide) dX6_season_9) (so_ri C hr dX6_season_12)))))))
theorem m_X6_season : am_M yX6_season cX6_season 1 (some .int) 5 109 d_X6_season := am_M_of (by decide +kernel) b_X6_season
theorem dX6_undo_0 : decode cX6_undo 0 = .ok (.aload_n 0, 1) := by decide +kernel
theorem dX6_undo_1 : decode cX6_undo 1 = .ok (.getfield 52, 3) := by decide +kernel
theorem dX6_undo_4 : decode cX6_undo 4 = .ok (.iconst 1, 1) := by decide +kernel
theorem dX6_undo_5 : decode cX6_undo 5 = .ok (.if_icmp .ge 12, 3) := by decide +kernel
theorem dX6_undo_8 : decode cX6_undo 8 = .ok (.aload_n 0, 1) := by decide +kernel
theorem dX6_undo_9 : decode cX6_undo 9 = .ok (.bipush 6, 2) := by decide +kernel
theorem dX6_undo_11 : decode cX6_undo 11 = .ok (.invokevirtual 92, 3) := by decide +kernel
theorem dX6_undo_14 : decode cX6_undo 14 = .ok (.pop, 1) := by decide +kernel
theorem dX6_undo_15 : decode cX6_undo 15 = .ok (.iconst 0, 1) := by decide +kernel
theorem dX6_undo_16 : decode cX6_undo 16 = .ok (.ireturn, 1) := by decide +kernel
theorem dX6_undo_17 : decode cX6_undo 17 = .ok (.aload_n 0, 1) := by decide +kernel
theorem dX6_undo_18 : decode cX6_undo 18 = .ok (.dup, 1) := by decide +kernel
theorem dX6_undo_19 : decode cX6_undo 19 = .ok (.getfield 52, 3) := by decide +kernel
theorem dX6_undo_22 : decode cX6_undo 22 = .ok (.iconst 1, 1) := by decide +kernel
theorem dX6_undo_23 : decode cX6_undo 23 = .ok (.isub, 1) := by decide +kernel
theorem dX6_undo_24 : decode cX6_undo 24 = .ok (.putfield 52, 3) := by decide +kernel
theorem dX6_undo_27 : decode cX6_undo 27 = .ok (.aload_n 0, 1) := by decide +kernel
theorem dX6_undo_28 : decode cX6_undo 28 = .ok (.getfield 41, 3) := by decide +kernel
theorem dX6_undo_31 : decode cX6_undo 31 = .ok (.aload_n 0, 1) := by decide +kernel
theorem dX6_undo_32 : decode cX6_undo 32 = .ok (.getfield 48, 3) := by decide +kernel
theorem dX6_undo_35 : decode cX6_undo 35 = .ok (.aload_n 0, 1) := by decide +kernel
theorem dX6_undo_36 : decode cX6_undo 36 = .ok (.getfield 52, 3) := by decide +kernel
theorem dX6_undo_39 : decode cX6_undo 39 = .ok (.aaload, 1) := by decide +kernel
theorem dX6_undo_40 : decode cX6_undo 40 = .ok (.invokevirtual 155, 3) := by decide +kernel
theorem dX6_undo_43 : decode cX6_undo 43 = .ok (.aload_n 0, 1) := by decide +kernel
theorem dX6_undo_44 : decode cX6_undo 44 = .ok (.iconst 0, 1) := by decide +kernel
theorem dX6_undo_45 : decode cX6_undo 45 = .ok (.putfield 75, 3) := by decide +kernel
theorem dX6_undo_48 : decode cX6_undo 48 = .ok (.aload_n 0, 1) := by decide +kernel
theorem dX6_undo_49 : decode cX6_undo 49 = .ok (.iconst 0, 1) := by decide +kernel
theorem dX6_undo_50 : decode cX6_undo 50 = .ok (.invokevirtual 107, 3) := by decide +kernel
theorem dX6_undo_53 : decode cX6_undo 53 = .ok (.pop, 1) := by decide +kernel
theorem dX6_undo_54 : decode cX6_undo 54 = .ok (.iconst 1, 1) := by decide +kernel
theorem dX6_undo_55 : decode cX6_undo 55 = .ok (.ireturn, 1) := by decide +kernel
def f_X6_undo : am_F := am_th (i_al 0) (am_th (i_gi 6 9) (am_th (i_ic (1)) (am_br (b_2 (fun x y => decide (y ≤ x))) (am_th (i_al 0) (am_th (i_dup) (am_th (i_gi 6 9) (am_th (i_ic (1)) (am_th (i_2 (fun x y => x - y)) (am_th (i_pi 6 9) (am_th (i_al 0) (am_th (i_gr 6 6) (am_th (i_al 0) (am_th (i_gr 6 8) (am_th (i_al 0) (am_th (i_gi 6 9) (am_th (i_aa) (am_th (i_cv 2 1 d_X2_become) (am_th (i_al 0) (am_th (i_ic (0)) (am_th (i_pz 6 14) (am_th (i_al 0) (am_th (i_ic (0)) (am_th (i_cv 6 1 d_X6_answer) (am_th (i_pop) (am_th (i_ic (1)) (r_z))))))))))))))))))))))) (am_th (i_al 0) (am_th (i_ic (6)) (am_th (i_cv 6 1 d_X6_refuse) (am_th (i_pop) (am_th (i_ic (0)) (r_z)))))))))
def d_X6_undo : am_D := am_den 1 f_X6_undo
set_option maxHeartbeats 4000000 in
set_option maxRecDepth 100000 in
theorem b_X6_undo : am_Body yX6_undo cX6_undo 1 (some .boolean) 1 22 f_X6_undo := by
  intro p l e R s m args below meth c g n0 z0 r0 u0 C hr hn
  have C : am_Cx p l e R s m args below meth c g RX6 cX6_undo 1 n0 z0 (am_len u0) (am_wt u0) 1 22 := C
  unfold f_X6_undo
  exact (so_th (so_aload_n C dX6_undo_0 rfl) (so_th (so_geti C fl_RX6_52 (by decide) dX6_undo_1) (so_th (so_iconst C dX6_undo_4 (by decide)) (so_br (so_icmp_ge C dX6_undo_5 (by decide)) (so_th (so_aload_n C dX6_undo_17 rfl) (so_th (so_dup C dX6_undo_18) (so_th (so_geti C fl_RX6_52 (by decide) dX6_undo_19) (so_th (so_iconst C dX6_undo_22 (by decide)) (so_th (so_isub C dX6_undo_23) (so_th (so_puti C fl_RX6_52 fp_6 (Or.inl rfl) dX6_undo_24) (so_th (so_aload_n C dX6_undo_27 rfl) (so_th (so_getr C fl_RX6_41 dX6_undo_28) (so_th (so_aload_n C dX6_undo_31 rfl) (so_th (so_getr C fl_RX6_48 dX6_undo_32) (so_th (so_aload_n C dX6_undo_35 rfl) (so_th (so_geti C fl_RX6_52 (by decide) dX6_undo_36) (so_th (so_aald C dX6_undo_39) (so_th (so_cv C m_X2_become rfl k_83 k_336 k_84 k_86 k_40 ⟨by decide, by decide, by decide +kernel⟩ (by decide) dX6_undo_40) (so_th (so_aload_n C dX6_undo_43 rfl) (so_th (so_iconst C dX6_undo_44 (by decide)) (so_th (so_putz C fl_RX6_75 fp_6 (Or.inl rfl) dX6_undo_45) (so_th (so_aload_n C dX6_undo_48 rfl) (so_th (so_iconst C dX6_undo_49 (by decide)) (so_th (so_cv C m_X6_answer rfl k_306 k_308 k_307 k_309 k_5 ⟨by decide, by decide, by decide +kernel⟩ (by decide) dX6_undo_50) (so_th (so_pop C dX6_undo_53) (so_th (so_iconst C dX6_undo_54 (by decide)) (so_rz C hr dX6_undo_55))))))))))))))))))))))) (so_th (so_aload_n C dX6_undo_8 rfl) (so_th (so_bipush C dX6_undo_9 (by decide)) (so_th (so_cv C m_X6_refuse rfl k_297 k_299 k_298 k_300 k_5 ⟨by decide, by decide, by decide +kernel⟩ (by decide) dX6_undo_11) (so_th (so_pop C dX6_undo_14) (so_th (so_iconst C dX6_undo_15 (by decide)) (so_rz C hr dX6_undo_16))))))))))
theorem m_X6_undo : am_M yX6_undo cX6_undo 1 (some .boolean) 1 22 d_X6_undo := am_M_of (by decide +kernel) b_X6_undo
theorem dX6_image_0 : decode cX6_image 0 = .ok (.aload_n 0, 1) := by decide +kernel
theorem dX6_image_1 : decode cX6_image 1 = .ok (.getfield 34, 3) := by decide +kernel
theorem dX6_image_4 : decode cX6_image 4 = .ok (.ifCond .ne 9, 3) := by decide +kernel
theorem dX6_image_7 : decode cX6_image 7 = .ok (.aload_n 0, 1) := by decide +kernel
theorem dX6_image_8 : decode cX6_image 8 = .ok (.iconst 1, 1) := by decide +kernel
theorem dX6_image_9 : decode cX6_image 9 = .ok (.invokevirtual 92, 3) := by decide +kernel
theorem dX6_image_12 : decode cX6_image 12 = .ok (.ireturn, 1) := by decide +kernel
theorem dX6_image_13 : decode cX6_image 13 = .ok (.aload_n 0, 1) := by decide +kernel
theorem dX6_image_14 : decode cX6_image 14 = .ok (.getfield 58, 3) := by decide +kernel
theorem dX6_image_17 : decode cX6_image 17 = .ok (.iconst 3, 1) := by decide +kernel
theorem dX6_image_18 : decode cX6_image 18 = .ok (.if_icmp .lt 9, 3) := by decide +kernel
theorem dX6_image_21 : decode cX6_image 21 = .ok (.aload_n 0, 1) := by decide +kernel
theorem dX6_image_22 : decode cX6_image 22 = .ok (.iconst 3, 1) := by decide +kernel
theorem dX6_image_23 : decode cX6_image 23 = .ok (.invokevirtual 92, 3) := by decide +kernel
theorem dX6_image_26 : decode cX6_image 26 = .ok (.ireturn, 1) := by decide +kernel
theorem dX6_image_27 : decode cX6_image 27 = .ok (.aload_n 0, 1) := by decide +kernel
theorem dX6_image_28 : decode cX6_image 28 = .ok (.getfield 55, 3) := by decide +kernel
theorem dX6_image_31 : decode cX6_image 31 = .ok (.aload_n 0, 1) := by decide +kernel
theorem dX6_image_32 : decode cX6_image 32 = .ok (.getfield 58, 3) := by decide +kernel
theorem dX6_image_35 : decode cX6_image 35 = .ok (.aaload, 1) := by decide +kernel
theorem dX6_image_36 : decode cX6_image 36 = .ok (.aload_n 0, 1) := by decide +kernel
theorem dX6_image_37 : decode cX6_image 37 = .ok (.getfield 41, 3) := by decide +kernel
theorem dX6_image_40 : decode cX6_image 40 = .ok (.invokevirtual 155, 3) := by decide +kernel
theorem dX6_image_43 : decode cX6_image 43 = .ok (.aload_n 0, 1) := by decide +kernel
theorem dX6_image_44 : decode cX6_image 44 = .ok (.dup, 1) := by decide +kernel
theorem dX6_image_45 : decode cX6_image 45 = .ok (.getfield 58, 3) := by decide +kernel
theorem dX6_image_48 : decode cX6_image 48 = .ok (.iconst 1, 1) := by decide +kernel
theorem dX6_image_49 : decode cX6_image 49 = .ok (.iadd, 1) := by decide +kernel
theorem dX6_image_50 : decode cX6_image 50 = .ok (.putfield 58, 3) := by decide +kernel
theorem dX6_image_53 : decode cX6_image 53 = .ok (.aload_n 0, 1) := by decide +kernel
theorem dX6_image_54 : decode cX6_image 54 = .ok (.aload_n 0, 1) := by decide +kernel
theorem dX6_image_55 : decode cX6_image 55 = .ok (.getfield 58, 3) := by decide +kernel
theorem dX6_image_58 : decode cX6_image 58 = .ok (.iconst 1, 1) := by decide +kernel
theorem dX6_image_59 : decode cX6_image 59 = .ok (.isub, 1) := by decide +kernel
theorem dX6_image_60 : decode cX6_image 60 = .ok (.invokevirtual 107, 3) := by decide +kernel
theorem dX6_image_63 : decode cX6_image 63 = .ok (.ireturn, 1) := by decide +kernel
def f_X6_image : am_F := am_th (i_al 0) (am_th (i_gi 6 5) (am_br (b_1 (fun x => decide (¬ x = 0))) (am_th (i_al 0) (am_th (i_gi 6 11) (am_th (i_ic (3)) (am_br (b_2 (fun x y => decide (x < y))) (am_th (i_al 0) (am_th (i_gr 6 10) (am_th (i_al 0) (am_th (i_gi 6 11) (am_th (i_aa) (am_th (i_al 0) (am_th (i_gr 6 6) (am_th (i_cv 2 1 d_X2_become) (am_th (i_al 0) (am_th (i_dup) (am_th (i_gi 6 11) (am_th (i_ic (1)) (am_th (i_2 (fun x y => x + y)) (am_th (i_pi 6 11) (am_th (i_al 0) (am_th (i_al 0) (am_th (i_gi 6 11) (am_th (i_ic (1)) (am_th (i_2 (fun x y => x - y)) (am_th (i_cv 6 1 d_X6_answer) (r_i))))))))))))))))))))) (am_th (i_al 0) (am_th (i_ic (3)) (am_th (i_cv 6 1 d_X6_refuse) (r_i)))))))) (am_th (i_al 0) (am_th (i_ic (1)) (am_th (i_cv 6 1 d_X6_refuse) (r_i))))))
def d_X6_image : am_D := am_den 1 f_X6_image
set_option maxHeartbeats 4000000 in
set_option maxRecDepth 100000 in
theorem b_X6_image : am_Body yX6_image cX6_image 1 (some .int) 1 22 f_X6_image := by
  intro p l e R s m args below meth c g n0 z0 r0 u0 C hr hn
  have C : am_Cx p l e R s m args below meth c g RX6 cX6_image 1 n0 z0 (am_len u0) (am_wt u0) 1 22 := C
  unfold f_X6_image
  exact (so_th (so_aload_n C dX6_image_0 rfl) (so_th (so_geti C fl_RX6_34 (by decide) dX6_image_1) (so_br (so_if_ne C dX6_image_4 (by decide)) (so_th (so_aload_n C dX6_image_13 rfl) (so_th (so_geti C fl_RX6_58 (by decide) dX6_image_14) (so_th (so_iconst C dX6_image_17 (by decide)) (so_br (so_icmp_lt C dX6_image_18 (by decide)) (so_th (so_aload_n C dX6_image_27 rfl) (so_th (so_getr C fl_RX6_55 dX6_image_28) (so_th (so_aload_n C dX6_image_31 rfl) (so_th (so_geti C fl_RX6_58 (by decide) dX6_image_32) (so_th (so_aald C dX6_image_35) (so_th (so_aload_n C dX6_image_36 rfl) (so_th (so_getr C fl_RX6_41 dX6_image_37) (so_th (so_cv C m_X2_become rfl k_83 k_336 k_84 k_86 k_40 ⟨by decide, by decide, by decide +kernel⟩ (by decide) dX6_image_40) (so_th (so_aload_n C dX6_image_43 rfl) (so_th (so_dup C dX6_image_44) (so_th (so_geti C fl_RX6_58 (by decide) dX6_image_45) (so_th (so_iconst C dX6_image_48 (by decide)) (so_th (so_iadd C dX6_image_49) (so_th (so_puti C fl_RX6_58 fp_6 (Or.inl rfl) dX6_image_50) (so_th (so_aload_n C dX6_image_53 rfl) (so_th (so_aload_n C dX6_image_54 rfl) (so_th (so_geti C fl_RX6_58 (by decide) dX6_image_55) (so_th (so_iconst C dX6_image_58 (by decide)) (so_th (so_isub C dX6_image_59) (so_th (so_cv C m_X6_answer rfl k_306 k_308 k_307 k_309 k_5 ⟨by decide, by decide, by decide +kernel⟩ (by decide) dX6_image_60) (so_ri C hr dX6_image_63))))))))))))))))))))) (so_th (so_aload_n C dX6_image_21 rfl) (so_th (so_iconst C dX6_image_22 (by decide)) (so_th (so_cv C m_X6_refuse rfl k_297 k_299 k_298 k_300 k_5 ⟨by decide, by decide, by decide +kernel⟩ (by decide) dX6_image_23) (so_ri C hr dX6_image_26)))))))) (so_th (so_aload_n C dX6_image_7 rfl) (so_th (so_iconst C dX6_image_8 (by decide)) (so_th (so_cv C m_X6_refuse rfl k_297 k_299 k_298 k_300 k_5 ⟨by decide, by decide, by decide +kernel⟩ (by decide) dX6_image_9) (so_ri C hr dX6_image_12)))))))
theorem m_X6_image : am_M yX6_image cX6_image 1 (some .int) 1 22 d_X6_image := am_M_of (by decide +kernel) b_X6_image
theorem dX6_back_0 : decode cX6_back 0 = .ok (.iload_n 1, 1) := by decide +kernel
theorem dX6_back_1 : decode cX6_back 1 = .ok (.ifCond .lt 11, 3) := by decide +kernel
theorem dX6_back_4 : decode cX6_back 4 = .ok (.iload_n 1, 1) := by decide +kernel
theorem dX6_back_5 : decode cX6_back 5 = .ok (.aload_n 0, 1) := by decide +kernel
theorem dX6_back_6 : decode cX6_back 6 = .ok (.getfield 58, 3) := by decide +kernel
theorem dX6_back_9 : decode cX6_back 9 = .ok (.if_icmp .lt 11, 3) := by decide +kernel
theorem dX6_back_12 : decode cX6_back 12 = .ok (.aload_n 0, 1) := by decide +kernel
theorem dX6_back_13 : decode cX6_back 13 = .ok (.iconst 1, 1) := by decide +kernel
theorem dX6_back_14 : decode cX6_back 14 = .ok (.invokevirtual 92, 3) := by decide +kernel
theorem dX6_back_17 : decode cX6_back 17 = .ok (.pop, 1) := by decide +kernel
theorem dX6_back_18 : decode cX6_back 18 = .ok (.iconst 0, 1) := by decide +kernel
theorem dX6_back_19 : decode cX6_back 19 = .ok (.ireturn, 1) := by decide +kernel
theorem dX6_back_20 : decode cX6_back 20 = .ok (.aload_n 0, 1) := by decide +kernel
theorem dX6_back_21 : decode cX6_back 21 = .ok (.getfield 41, 3) := by decide +kernel
theorem dX6_back_24 : decode cX6_back 24 = .ok (.aload_n 0, 1) := by decide +kernel
theorem dX6_back_25 : decode cX6_back 25 = .ok (.getfield 55, 3) := by decide +kernel
theorem dX6_back_28 : decode cX6_back 28 = .ok (.iload_n 1, 1) := by decide +kernel
theorem dX6_back_29 : decode cX6_back 29 = .ok (.aaload, 1) := by decide +kernel
theorem dX6_back_30 : decode cX6_back 30 = .ok (.invokevirtual 155, 3) := by decide +kernel
theorem dX6_back_33 : decode cX6_back 33 = .ok (.aload_n 0, 1) := by decide +kernel
theorem dX6_back_34 : decode cX6_back 34 = .ok (.iconst 0, 1) := by decide +kernel
theorem dX6_back_35 : decode cX6_back 35 = .ok (.putfield 52, 3) := by decide +kernel
theorem dX6_back_38 : decode cX6_back 38 = .ok (.aload_n 0, 1) := by decide +kernel
theorem dX6_back_39 : decode cX6_back 39 = .ok (.iconst 0, 1) := by decide +kernel
theorem dX6_back_40 : decode cX6_back 40 = .ok (.putfield 75, 3) := by decide +kernel
theorem dX6_back_43 : decode cX6_back 43 = .ok (.aload_n 0, 1) := by decide +kernel
theorem dX6_back_44 : decode cX6_back 44 = .ok (.iconst 0, 1) := by decide +kernel
theorem dX6_back_45 : decode cX6_back 45 = .ok (.invokevirtual 107, 3) := by decide +kernel
theorem dX6_back_48 : decode cX6_back 48 = .ok (.pop, 1) := by decide +kernel
theorem dX6_back_49 : decode cX6_back 49 = .ok (.iconst 1, 1) := by decide +kernel
theorem dX6_back_50 : decode cX6_back 50 = .ok (.ireturn, 1) := by decide +kernel
def f_X6_back : am_F := am_th (i_il 1) (am_br (b_1 (fun x => decide (x < 0))) (am_th (i_al 0) (am_th (i_ic (1)) (am_th (i_cv 6 1 d_X6_refuse) (am_th (i_pop) (am_th (i_ic (0)) (r_z)))))) (am_th (i_il 1) (am_th (i_al 0) (am_th (i_gi 6 11) (am_br (b_2 (fun x y => decide (x < y))) (am_th (i_al 0) (am_th (i_gr 6 6) (am_th (i_al 0) (am_th (i_gr 6 10) (am_th (i_il 1) (am_th (i_aa) (am_th (i_cv 2 1 d_X2_become) (am_th (i_al 0) (am_th (i_ic (0)) (am_th (i_pi 6 9) (am_th (i_al 0) (am_th (i_ic (0)) (am_th (i_pz 6 14) (am_th (i_al 0) (am_th (i_ic (0)) (am_th (i_cv 6 1 d_X6_answer) (am_th (i_pop) (am_th (i_ic (1)) (r_z))))))))))))))))))) (am_th (i_al 0) (am_th (i_ic (1)) (am_th (i_cv 6 1 d_X6_refuse) (am_th (i_pop) (am_th (i_ic (0)) (r_z)))))))))))
def d_X6_back : am_D := am_den 2 f_X6_back
set_option maxHeartbeats 4000000 in
set_option maxRecDepth 100000 in
theorem b_X6_back : am_Body yX6_back cX6_back 2 (some .boolean) 1 22 f_X6_back := by
  intro p l e R s m args below meth c g n0 z0 r0 u0 C hr hn
  have C : am_Cx p l e R s m args below meth c g RX6 cX6_back 2 n0 z0 (am_len u0) (am_wt u0) 1 22 := C
  unfold f_X6_back
  exact (so_th (so_iload_n C dX6_back_0 rfl) (so_br (so_if_lt C dX6_back_1 (by decide)) (so_th (so_aload_n C dX6_back_12 rfl) (so_th (so_iconst C dX6_back_13 (by decide)) (so_th (so_cv C m_X6_refuse rfl k_297 k_299 k_298 k_300 k_5 ⟨by decide, by decide, by decide +kernel⟩ (by decide) dX6_back_14) (so_th (so_pop C dX6_back_17) (so_th (so_iconst C dX6_back_18 (by decide)) (so_rz C hr dX6_back_19)))))) (so_th (so_iload_n C dX6_back_4 rfl) (so_th (so_aload_n C dX6_back_5 rfl) (so_th (so_geti C fl_RX6_58 (by decide) dX6_back_6) (so_br (so_icmp_lt C dX6_back_9 (by decide)) (so_th (so_aload_n C dX6_back_20 rfl) (so_th (so_getr C fl_RX6_41 dX6_back_21) (so_th (so_aload_n C dX6_back_24 rfl) (so_th (so_getr C fl_RX6_55 dX6_back_25) (so_th (so_iload_n C dX6_back_28 rfl) (so_th (so_aald C dX6_back_29) (so_th (so_cv C m_X2_become rfl k_83 k_336 k_84 k_86 k_40 ⟨by decide, by decide, by decide +kernel⟩ (by decide) dX6_back_30) (so_th (so_aload_n C dX6_back_33 rfl) (so_th (so_iconst C dX6_back_34 (by decide)) (so_th (so_puti C fl_RX6_52 fp_6 (Or.inl rfl) dX6_back_35) (so_th (so_aload_n C dX6_back_38 rfl) (so_th (so_iconst C dX6_back_39 (by decide)) (so_th (so_putz C fl_RX6_75 fp_6 (Or.inl rfl) dX6_back_40) (so_th (so_aload_n C dX6_back_43 rfl) (so_th (so_iconst C dX6_back_44 (by decide)) (so_th (so_cv C m_X6_answer rfl k_306 k_308 k_307 k_309 k_5 ⟨by decide, by decide, by decide +kernel⟩ (by decide) dX6_back_45) (so_th (so_pop C dX6_back_48) (so_th (so_iconst C dX6_back_49 (by decide)) (so_rz C hr dX6_back_50))))))))))))))))))) (so_th (so_aload_n C dX6_back_12 rfl) (so_th (so_iconst C dX6_back_13 (by decide)) (so_th (so_cv C m_X6_refuse rfl k_297 k_299 k_298 k_300 k_5 ⟨by decide, by decide, by decide +kernel⟩ (by decide) dX6_back_14) (so_th (so_pop C dX6_back_17) (so_th (so_iconst C dX6_back_18 (by decide)) (so_rz C hr dX6_back_19))))))))))))
theorem m_X6_back : am_M yX6_back cX6_back 2 (some .boolean) 1 22 d_X6_back := am_M_of (by decide +kernel) b_X6_back
theorem dX6_sizeNow_0 : decode cX6_sizeNow 0 = .ok (.iload_n 1, 1) := by decide +kernel
theorem dX6_sizeNow_1 : decode cX6_sizeNow 1 = .ok (.tableswitch 48 8 10 #[27, 35, 43], 27) := by decide +kernel
theorem dX6_sizeNow_28 : decode cX6_sizeNow 28 = .ok (.aload_n 0, 1) := by decide +kernel
theorem dX6_sizeNow_29 : decode cX6_sizeNow 29 = .ok (.getfield 41, 3) := by decide +kernel
theorem dX6_sizeNow_32 : decode cX6_sizeNow 32 = .ok (.getfield 278, 3) := by decide +kernel
theorem dX6_sizeNow_35 : decode cX6_sizeNow 35 = .ok (.ireturn, 1) := by decide +kernel
theorem dX6_sizeNow_36 : decode cX6_sizeNow 36 = .ok (.aload_n 0, 1) := by decide +kernel
theorem dX6_sizeNow_37 : decode cX6_sizeNow 37 = .ok (.getfield 41, 3) := by decide +kernel
theorem dX6_sizeNow_40 : decode cX6_sizeNow 40 = .ok (.getfield 272, 3) := by decide +kernel
theorem dX6_sizeNow_43 : decode cX6_sizeNow 43 = .ok (.ireturn, 1) := by decide +kernel
theorem dX6_sizeNow_44 : decode cX6_sizeNow 44 = .ok (.aload_n 0, 1) := by decide +kernel
theorem dX6_sizeNow_45 : decode cX6_sizeNow 45 = .ok (.getfield 52, 3) := by decide +kernel
theorem dX6_sizeNow_48 : decode cX6_sizeNow 48 = .ok (.ireturn, 1) := by decide +kernel
theorem dX6_sizeNow_49 : decode cX6_sizeNow 49 = .ok (.aload_n 0, 1) := by decide +kernel
theorem dX6_sizeNow_50 : decode cX6_sizeNow 50 = .ok (.getfield 58, 3) := by decide +kernel
theorem dX6_sizeNow_53 : decode cX6_sizeNow 53 = .ok (.ireturn, 1) := by decide +kernel
def f_X6_sizeNow : am_F := am_th (i_il 1) (am_sw (8) [am_th (i_al 0) (am_th (i_gr 6 6) (am_th (i_gi 2 0) (r_i))), am_th (i_al 0) (am_th (i_gr 6 6) (am_th (i_gi 2 1) (r_i))), am_th (i_al 0) (am_th (i_gi 6 9) (r_i))] (am_th (i_al 0) (am_th (i_gi 6 11) (r_i))))
def d_X6_sizeNow : am_D := am_den 2 f_X6_sizeNow
set_option maxHeartbeats 4000000 in
set_option maxRecDepth 100000 in
theorem b_X6_sizeNow : am_Body yX6_sizeNow cX6_sizeNow 2 (some .int) 0 0 f_X6_sizeNow := by
  intro p l e R s m args below meth c g n0 z0 r0 u0 C hr hn
  have C : am_Cx p l e R s m args below meth c g RX6 cX6_sizeNow 2 n0 z0 (am_len u0) (am_wt u0) 0 0 := C
  unfold f_X6_sizeNow
  exact (so_th (so_iload_n C dX6_sizeNow_0 rfl) (so_sw C dX6_sizeNow_1 rfl (by decide) (td := 49) (by decide) (so_th (so_aload_n C dX6_sizeNow_49 rfl) (so_th (so_geti C fl_RX6_58 (by decide) dX6_sizeNow_50) (so_ri C hr dX6_sizeNow_53))) (fun k f hk => match k, hk with
      | 0, hk => ⟨(27), 28, rfl, by decide, (Option.some.inj hk) ▸ (so_th (so_aload_n C dX6_sizeNow_28 rfl) (so_th (so_getr C fl_RX6_41 dX6_sizeNow_29) (so_th (so_geti C fl_RX6_278 (by decide) dX6_sizeNow_32) (so_ri C hr dX6_sizeNow_35))))⟩
      | 1, hk => ⟨(35), 36, rfl, by decide, (Option.some.inj hk) ▸ (so_th (so_aload_n C dX6_sizeNow_36 rfl) (so_th (so_getr C fl_RX6_41 dX6_sizeNow_37) (so_th (so_geti C fl_RX6_272 (by decide) dX6_sizeNow_40) (so_ri C hr dX6_sizeNow_43))))⟩
      | 2, hk => ⟨(43), 44, rfl, by decide, (Option.some.inj hk) ▸ (so_th (so_aload_n C dX6_sizeNow_44 rfl) (so_th (so_geti C fl_RX6_52 (by decide) dX6_sizeNow_45) (so_ri C hr dX6_sizeNow_48)))⟩
      | k + 3, hk => by simp at hk)))
theorem m_X6_sizeNow : am_M yX6_sizeNow cX6_sizeNow 2 (some .int) 0 0 d_X6_sizeNow := am_M_of (by decide +kernel) b_X6_sizeNow
theorem dX6_size_0 : decode cX6_size 0 = .ok (.iload_n 1, 1) := by decide +kernel
theorem dX6_size_1 : decode cX6_size 1 = .ok (.bipush 12, 2) := by decide +kernel
theorem dX6_size_3 : decode cX6_size 3 = .ok (.if_icmp .ne 8, 3) := by decide +kernel
theorem dX6_size_6 : decode cX6_size 6 = .ok (.aload_n 0, 1) := by decide +kernel
theorem dX6_size_7 : decode cX6_size 7 = .ok (.getfield 13, 3) := by decide +kernel
theorem dX6_size_10 : decode cX6_size 10 = .ok (.ireturn, 1) := by decide +kernel
theorem dX6_size_11 : decode cX6_size 11 = .ok (.iload_n 1, 1) := by decide +kernel
theorem dX6_size_12 : decode cX6_size 12 = .ok (.ifCond .lt 9, 3) := by decide +kernel
theorem dX6_size_15 : decode cX6_size 15 = .ok (.iload_n 1, 1) := by decide +kernel
theorem dX6_size_16 : decode cX6_size 16 = .ok (.bipush 12, 2) := by decide +kernel
theorem dX6_size_18 : decode cX6_size 18 = .ok (.if_icmp .le 5, 3) := by decide +kernel
theorem dX6_size_21 : decode cX6_size 21 = .ok (.iconst (-1), 1) := by decide +kernel
theorem dX6_size_22 : decode cX6_size 22 = .ok (.ireturn, 1) := by decide +kernel
theorem dX6_size_23 : decode cX6_size 23 = .ok (.aload_n 0, 1) := by decide +kernel
theorem dX6_size_24 : decode cX6_size 24 = .ok (.getfield 34, 3) := by decide +kernel
theorem dX6_size_27 : decode cX6_size 27 = .ok (.ifCond .ne 5, 3) := by decide +kernel
theorem dX6_size_30 : decode cX6_size 30 = .ok (.iconst 0, 1) := by decide +kernel
theorem dX6_size_31 : decode cX6_size 31 = .ok (.ireturn, 1) := by decide +kernel
theorem dX6_size_32 : decode cX6_size 32 = .ok (.iload_n 1, 1) := by decide +kernel
theorem dX6_size_33 : decode cX6_size 33 = .ok (.bipush 8, 2) := by decide +kernel
theorem dX6_size_35 : decode cX6_size 35 = .ok (.if_icmp .ge 14, 3) := by decide +kernel
theorem dX6_size_38 : decode cX6_size 38 = .ok (.aload_n 0, 1) := by decide +kernel
theorem dX6_size_39 : decode cX6_size 39 = .ok (.getfield 27, 3) := by decide +kernel
theorem dX6_size_42 : decode cX6_size 42 = .ok (.iload_n 1, 1) := by decide +kernel
theorem dX6_size_43 : decode cX6_size 43 = .ok (.invokevirtual 292, 3) := by decide +kernel
theorem dX6_size_46 : decode cX6_size 46 = .ok (.goto 8, 3) := by decide +kernel
theorem dX6_size_49 : decode cX6_size 49 = .ok (.aload_n 0, 1) := by decide +kernel
theorem dX6_size_50 : decode cX6_size 50 = .ok (.iload_n 1, 1) := by decide +kernel
theorem dX6_size_51 : decode cX6_size 51 = .ok (.invokevirtual 295, 3) := by decide +kernel
theorem dX6_size_54 : decode cX6_size 54 = .ok (.ireturn, 1) := by decide +kernel
def f_X6_size : am_F := am_th (i_il 1) (am_th (i_ic (12)) (am_br (b_2 (fun x y => decide (¬ x = y))) (am_th (i_il 1) (am_br (b_1 (fun x => decide (x < 0))) (am_th (i_ic (-1)) (r_i)) (am_th (i_il 1) (am_th (i_ic (12)) (am_br (b_2 (fun x y => decide (x ≤ y))) (am_th (i_al 0) (am_th (i_gi 6 5) (am_br (b_1 (fun x => decide (¬ x = 0))) (am_th (i_il 1) (am_th (i_ic (8)) (am_br (b_2 (fun x y => decide (y ≤ x))) (am_th (i_al 0) (am_th (i_il 1) (am_th (i_cv 6 1 d_X6_sizeNow) (r_i)))) (am_th (i_al 0) (am_th (i_gr 6 3) (am_th (i_il 1) (am_th (i_cv 5 1 d_X5_sizeOf) (r_i)))))))) (am_th (i_ic (0)) (r_i))))) (am_th (i_ic (-1)) (r_i))))))) (am_th (i_al 0) (am_th (i_gi 6 1) (r_i)))))
def d_X6_size : am_D := am_den 2 f_X6_size
set_option maxHeartbeats 4000000 in
set_option maxRecDepth 100000 in
theorem b_X6_size : am_Body yX6_size cX6_size 2 (some .int) 2 41 f_X6_size := by
  intro p l e R s m args below meth c g n0 z0 r0 u0 C hr hn
  have C : am_Cx p l e R s m args below meth c g RX6 cX6_size 2 n0 z0 (am_len u0) (am_wt u0) 2 41 := C
  unfold f_X6_size
  exact (so_th (so_iload_n C dX6_size_0 rfl) (so_th (so_bipush C dX6_size_1 (by decide)) (so_br (so_icmp_ne C dX6_size_3 (by decide)) (so_th (so_iload_n C dX6_size_11 rfl) (so_br (so_if_lt C dX6_size_12 (by decide)) (so_th (so_iconst C dX6_size_21 (by decide)) (so_ri C hr dX6_size_22)) (so_th (so_iload_n C dX6_size_15 rfl) (so_th (so_bipush C dX6_size_16 (by decide)) (so_br (so_icmp_le C dX6_size_18 (by decide)) (so_th (so_aload_n C dX6_size_23 rfl) (so_th (so_geti C fl_RX6_34 (by decide) dX6_size_24) (so_br (so_if_ne C dX6_size_27 (by decide)) (so_th (so_iload_n C dX6_size_32 rfl) (so_th (so_bipush C dX6_size_33 (by decide)) (so_br (so_icmp_ge C dX6_size_35 (by decide)) (so_th (so_aload_n C dX6_size_49 rfl) (so_th (so_iload_n C dX6_size_50 rfl) (so_th (so_cv C m_X6_sizeNow rfl k_465 k_467 k_466 k_468 k_5 ⟨by decide, by decide, by decide +kernel⟩ (by decide) dX6_size_51) (so_ri C hr dX6_size_54)))) (so_th (so_aload_n C dX6_size_38 rfl) (so_th (so_getr C fl_RX6_27 dX6_size_39) (so_th (so_iload_n C dX6_size_42 rfl) (so_th (so_cv C m_X5_sizeOf rfl k_469 k_471 k_470 k_472 k_8 ⟨by decide, by decide, by decide +kernel⟩ (by decide) dX6_size_43) (so_goto C dX6_size_46 (by decide) (so_ri C hr dX6_size_54))))))))) (so_th (so_iconst C dX6_size_30 (by decide)) (so_ri C hr dX6_size_31))))) (so_th (so_iconst C dX6_size_21 (by decide)) (so_ri C hr dX6_size_22))))))) (so_th (so_aload_n C dX6_size_6 rfl) (so_th (so_geti C fl_RX6_13 (by decide) dX6_size_7) (so_ri C hr dX6_size_10))))))
theorem m_X6_size : am_M yX6_size cX6_size 2 (some .int) 2 41 d_X6_size := am_M_of (by decide +kernel) b_X6_size
theorem dX6_trouble_0 : decode cX6_trouble 0 = .ok (.aload_n 0, 1) := by decide +kernel
theorem dX6_trouble_1 : decode cX6_trouble 1 = .ok (.getfield 85, 3) := by decide +kernel
theorem dX6_trouble_4 : decode cX6_trouble 4 = .ok (.ireturn, 1) := by decide +kernel
def f_X6_trouble : am_F := am_th (i_al 0) (am_th (i_gi 6 16) (r_i))
def d_X6_trouble : am_D := am_den 1 f_X6_trouble
set_option maxHeartbeats 4000000 in
set_option maxRecDepth 100000 in
theorem b_X6_trouble : am_Body yX6_trouble cX6_trouble 1 (some .int) 0 0 f_X6_trouble := by
  intro p l e R s m args below meth c g n0 z0 r0 u0 C hr hn
  have C : am_Cx p l e R s m args below meth c g RX6 cX6_trouble 1 n0 z0 (am_len u0) (am_wt u0) 0 0 := C
  unfold f_X6_trouble
  exact (so_th (so_aload_n C dX6_trouble_0 rfl) (so_th (so_geti C fl_RX6_85 (by decide) dX6_trouble_1) (so_ri C hr dX6_trouble_4)))
theorem m_X6_trouble : am_M yX6_trouble cX6_trouble 1 (some .int) 0 0 d_X6_trouble := am_M_of (by decide +kernel) b_X6_trouble
theorem dX6_nthWithoutVigour_0 : decode cX6_nthWithoutVigour 0 = .ok (.iconst 0, 1) := by decide +kernel
theorem dX6_nthWithoutVigour_1 : decode cX6_nthWithoutVigour 1 = .ok (.istore_n 2, 1) := by decide +kernel
theorem dX6_nthWithoutVigour_2 : decode cX6_nthWithoutVigour 2 = .ok (.iconst 0, 1) := by decide +kernel
theorem dX6_nthWithoutVigour_3 : decode cX6_nthWithoutVigour 3 = .ok (.istore_n 3, 1) := by decide +kernel
theorem dX6_nthWithoutVigour_4 : decode cX6_nthWithoutVigour 4 = .ok (.aload_n 0, 1) := by decide +kernel
theorem dX6_nthWithoutVigour_5 : decode cX6_nthWithoutVigour 5 = .ok (.getfield 34, 3) := by decide +kernel
theorem dX6_nthWithoutVigour_8 : decode cX6_nthWithoutVigour 8 = .ok (.ifCond .eq 53, 3) := by decide +kernel
theorem dX6_nthWithoutVigour_11 : decode cX6_nthWithoutVigour 11 = .ok (.iload_n 3, 1) := by decide +kernel
theorem dX6_nthWithoutVigour_12 : decode cX6_nthWithoutVigour 12 = .ok (.aload_n 0, 1) := by decide +kernel
theorem dX6_nthWithoutVigour_13 : decode cX6_nthWithoutVigour 13 = .ok (.getfield 27, 3) := by decide +kernel
theorem dX6_nthWithoutVigour_16 : decode cX6_nthWithoutVigour 16 = .ok (.getfield 104, 3) := by decide +kernel
theorem dX6_nthWithoutVigour_19 : decode cX6_nthWithoutVigour 19 = .ok (.if_icmp .ge 42, 3) := by decide +kernel
theorem dX6_nthWithoutVigour_22 : decode cX6_nthWithoutVigour 22 = .ok (.aload_n 0, 1) := by decide +kernel
theorem dX6_nthWithoutVigour_23 : decode cX6_nthWithoutVigour 23 = .ok (.getfield 41, 3) := by decide +kernel
theorem dX6_nthWithoutVigour_26 : decode cX6_nthWithoutVigour 26 = .ok (.iload_n 3, 1) := by decide +kernel
theorem dX6_nthWithoutVigour_27 : decode cX6_nthWithoutVigour 27 = .ok (.invokevirtual 269, 3) := by decide +kernel
theorem dX6_nthWithoutVigour_30 : decode cX6_nthWithoutVigour 30 = .ok (.ifCond .eq 25, 3) := by decide +kernel
theorem dX6_nthWithoutVigour_33 : decode cX6_nthWithoutVigour 33 = .ok (.aload_n 0, 1) := by decide +kernel
theorem dX6_nthWithoutVigour_34 : decode cX6_nthWithoutVigour 34 = .ok (.getfield 41, 3) := by decide +kernel
theorem dX6_nthWithoutVigour_37 : decode cX6_nthWithoutVigour 37 = .ok (.getfield 179, 3) := by decide +kernel
theorem dX6_nthWithoutVigour_40 : decode cX6_nthWithoutVigour 40 = .ok (.iload_n 3, 1) := by decide +kernel
theorem dX6_nthWithoutVigour_41 : decode cX6_nthWithoutVigour 41 = .ok (.iaload, 1) := by decide +kernel
theorem dX6_nthWithoutVigour_42 : decode cX6_nthWithoutVigour 42 = .ok (.ifCond .ne 13, 3) := by decide +kernel
theorem dX6_nthWithoutVigour_45 : decode cX6_nthWithoutVigour 45 = .ok (.iload_n 2, 1) := by decide +kernel
theorem dX6_nthWithoutVigour_46 : decode cX6_nthWithoutVigour 46 = .ok (.iload_n 1, 1) := by decide +kernel
theorem dX6_nthWithoutVigour_47 : decode cX6_nthWithoutVigour 47 = .ok (.if_icmp .ne 5, 3) := by decide +kernel
theorem dX6_nthWithoutVigour_50 : decode cX6_nthWithoutVigour 50 = .ok (.iload_n 3, 1) := by decide +kernel
theorem dX6_nthWithoutVigour_51 : decode cX6_nthWithoutVigour 51 = .ok (.ireturn, 1) := by decide +kernel
theorem dX6_nthWithoutVigour_52 : decode cX6_nthWithoutVigour 52 = .ok (.iinc 2 1, 3) := by decide +kernel
theorem dX6_nthWithoutVigour_55 : decode cX6_nthWithoutVigour 55 = .ok (.iinc 3 1, 3) := by decide +kernel
theorem dX6_nthWithoutVigour_58 : decode cX6_nthWithoutVigour 58 = .ok (.goto (-54), 3) := by decide +kernel
theorem dX6_nthWithoutVigour_61 : decode cX6_nthWithoutVigour 61 = .ok (.iconst (-1), 1) := by decide +kernel
theorem dX6_nthWithoutVigour_62 : decode cX6_nthWithoutVigour 62 = .ok (.ireturn, 1) := by decide +kernel
def f_X6_nthWithoutVigour_l4 : am_F := am_th (i_al 0) (am_th (i_gi 6 5) (am_br (b_1 (fun x => decide (x = 0))) (am_to 61) (am_th (i_il 3) (am_th (i_al 0) (am_th (i_gr 6 3) (am_th (i_gi 5 3) (am_br (b_2 (fun x y => decide (y ≤ x))) (am_to 61) (am_th (i_al 0) (am_th (i_gr 6 6) (am_th (i_il 3) (am_th (i_cv 2 1 d_X2_stands) (am_sq 55 (am_br (b_1 (fun x => decide (x = 0))) (am_to 55) (am_th (i_al 0) (am_th (i_gr 6 6) (am_th (i_gr 2 2) (am_th (i_il 3) (am_th (i_ia 0) (am_br (b_1 (fun x => decide (¬ x = 0))) (am_to 55) (am_th (i_il 2) (am_th (i_il 1) (am_br (b_2 (fun x y => decide (¬ x = y))) (am_th (i_inc 2 (1)) (am_to 55)) (am_th (i_il 3) (r_i)))))))))))) (am_th (i_inc 3 (1)) (am_to 4))))))))))))))
def f_X6_nthWithoutVigour : am_F := am_th (i_ic (0)) (am_th (i_is 2) (am_th (i_ic (0)) (am_th (i_is 3) (am_sq 61 (am_lp 5000 4 f_X6_nthWithoutVigour_l4) (am_th (i_ic (-1)) (r_i))))))
def d_X6_nthWithoutVigour : am_D := am_den 4 f_X6_nthWithoutVigour
set_option maxHeartbeats 4000000 in
set_option maxRecDepth 100000 in
theorem b_X6_nthWithoutVigour : am_Body yX6_nthWithoutVigour cX6_nthWithoutVigour 4 (some .int) 1 21 f_X6_nthWithoutVigour := by
  intro p l e R s m args below meth c g n0 z0 r0 u0 C hr hn
  have C : am_Cx p l e R s m args below meth c g RX6 cX6_nthWithoutVigour 4 n0 z0 (am_len u0) (am_wt u0) 1 21 := C
  have l4 : am_Snd (am_GM p l e R s m args below meth c g 4 n0 z0 r0 u0) (am_Rt r0 u0) 4 (f_X6_nthWithoutVigour_l4) := by
    unfold f_X6_nthWithoutVigour_l4
    exact (so_th (so_aload_n C dX6_nthWithoutVigour_4 rfl) (so_th (so_geti C fl_RX6_34 (by decide) dX6_nthWithoutVigour_5) (so_br (so_if_eq C dX6_nthWithoutVigour_8 (by decide)) (so_to) (so_th (so_iload_n C dX6_nthWithoutVigour_11 rfl) (so_th (so_aload_n C dX6_nthWithoutVigour_12 rfl) (so_th (so_getr C fl_RX6_27 dX6_nthWithoutVigour_13) (so_th (so_geti C fl_RX6_104 (by decide) dX6_nthWithoutVigour_16) (so_br (so_icmp_ge C dX6_nthWithoutVigour_19 (by decide)) (so_to) (so_th (so_aload_n C dX6_nthWithoutVigour_22 rfl) (so_th (so_getr C fl_RX6_41 dX6_nthWithoutVigour_23) (so_th (so_iload_n C dX6_nthWithoutVigour_26 rfl) (so_th (so_cv C m_X2_stands rfl k_43 k_314 k_44 k_46 k_40 ⟨by decide, by decide, by decide +kernel⟩ (by decide) dX6_nthWithoutVigour_27) (so_sq (so_br (so_if_eq C dX6_nthWithoutVigour_30 (by decide)) (so_to) (so_th (so_aload_n C dX6_nthWithoutVigour_33 rfl) (so_th (so_getr C fl_RX6_41 dX6_nthWithoutVigour_34) (so_th (so_getr C fl_RX6_179 dX6_nthWithoutVigour_37) (so_th (so_iload_n C dX6_nthWithoutVigour_40 rfl) (so_th (so_iald C dX6_nthWithoutVigour_41) (so_br (so_if_ne C dX6_nthWithoutVigour_42 (by decide)) (so_to) (so_th (so_iload_n C dX6_nthWithoutVigour_45 rfl) (so_th (so_iload_n C dX6_nthWithoutVigour_46 rfl) (so_br (so_icmp_ne C dX6_nthWithoutVigour_47 (by decide)) (so_th (so_iinc C dX6_nthWithoutVigour_52 (by decide) (by decide)) (so_to)) (so_th (so_iload_n C dX6_nthWithoutVigour_50 rfl) (so_ri C hr dX6_nthWithoutVigour_51)))))))))))) (so_th (so_iinc C dX6_nthWithoutVigour_55 (by decide) (by decide)) (so_goto C dX6_nthWithoutVigour_58 (by decide) (so_to))))))))))))))))
  unfold f_X6_nthWithoutVigour
  exact (so_th (so_iconst C dX6_nthWithoutVigour_0 (by decide)) (so_th (so_istore_n C dX6_nthWithoutVigour_1 rfl (by decide)) (so_th (so_iconst C dX6_nthWithoutVigour_2 (by decide)) (so_th (so_istore_n C dX6_nthWithoutVigour_3 rfl (by decide)) (so_sq (so_lp l4 5000) (so_th (so_iconst C dX6_nthWithoutVigour_61 (by decide)) (so_ri C hr dX6_nthWithoutVigour_62)))))))
theorem m_X6_nthWithoutVigour : am_M yX6_nthWithoutVigour cX6_nthWithoutVigour 4 (some .int) 1 21 d_X6_nthWithoutVigour := am_M_of (by decide +kernel) b_X6_nthWithoutVigour
theorem dX7_init_0 : decode cX7_init 0 = .ok (.aload_n 0, 1) := by decide +kernel
theorem dX7_init_1 : decode cX7_init 1 = .ok (.invokespecial 1, 3) := by decide +kernel
theorem dX7_init_4 : decode cX7_init 4 = .ok (.aload_n 0, 1) := by decide +kernel
theorem dX7_init_5 : decode cX7_init 5 = .ok (.sipush 900, 3) := by decide +kernel
theorem dX7_init_8 : decode cX7_init 8 = .ok (.newarray .int, 2) := by decide +kernel
theorem dX7_init_10 : decode cX7_init 10 = .ok (.putfield 7, 3) := by decide +kernel
theorem dX7_init_13 : decode cX7_init 13 = .ok (.aload_n 0, 1) := by decide +kernel
theorem dX7_init_14 : decode cX7_init 14 = .ok (.iconst (-1), 1) := by decide +kernel
theorem dX7_init_15 : decode cX7_init 15 = .ok (.putfield 13, 3) := by decide +kernel
theorem dX7_init_18 : decode cX7_init 18 = .ok (.aload_n 0, 1) := by decide +kernel
theorem dX7_init_19 : decode cX7_init 19 = .ok (.bipush 8, 2) := by decide +kernel
theorem dX7_init_21 : decode cX7_init 21 = .ok (.newarray .int, 2) := by decide +kernel
theorem dX7_init_23 : decode cX7_init 23 = .ok (.putfield 17, 3) := by decide +kernel
theorem dX7_init_26 : decode cX7_init 26 = .ok (.aload_n 0, 1) := by decide +kernel
theorem dX7_init_27 : decode cX7_init 27 = .ok (.sipush 220, 3) := by decide +kernel
theorem dX7_init_30 : decode cX7_init 30 = .ok (.newarray .int, 2) := by decide +kernel
theorem dX7_init_32 : decode cX7_init 32 = .ok (.putfield 20, 3) := by decide +kernel
theorem dX7_init_35 : decode cX7_init 35 = .ok (.aload_n 0, 1) := by decide +kernel
theorem dX7_init_36 : decode cX7_init 36 = .ok (.sipush 220, 3) := by decide +kernel
theorem dX7_init_39 : decode cX7_init 39 = .ok (.newarray .int, 2) := by decide +kernel
theorem dX7_init_41 : decode cX7_init 41 = .ok (.putfield 23, 3) := by decide +kernel
theorem dX7_init_44 : decode cX7_init 44 = .ok (.aload_n 0, 1) := by decide +kernel
theorem dX7_init_45 : decode cX7_init 45 = .ok (.bipush 26, 2) := by decide +kernel
theorem dX7_init_47 : decode cX7_init 47 = .ok (.newarray .int, 2) := by decide +kernel
theorem dX7_init_49 : decode cX7_init 49 = .ok (.putfield 26, 3) := by decide +kernel
theorem dX7_init_52 : decode cX7_init 52 = .ok (.aload_n 0, 1) := by decide +kernel
theorem dX7_init_53 : decode cX7_init 53 = .ok (.sipush 416, 3) := by decide +kernel
theorem dX7_init_56 : decode cX7_init 56 = .ok (.newarray .int, 2) := by decide +kernel
theorem dX7_init_58 : decode cX7_init 58 = .ok (.putfield 29, 3) := by decide +kernel
theorem dX7_init_61 : decode cX7_init 61 = .ok (.aload_n 0, 1) := by decide +kernel
theorem dX7_init_62 : decode cX7_init 62 = .ok (.bipush 78, 2) := by decide +kernel
theorem dX7_init_64 : decode cX7_init 64 = .ok (.newarray .int, 2) := by decide +kernel
theorem dX7_init_66 : decode cX7_init 66 = .ok (.putfield 32, 3) := by decide +kernel
theorem dX7_init_69 : decode cX7_init 69 = .ok (.aload_n 0, 1) := by decide +kernel
theorem dX7_init_70 : decode cX7_init 70 = .ok (.bipush 6, 2) := by decide +kernel
theorem dX7_init_72 : decode cX7_init 72 = .ok (.newarray .int, 2) := by decide +kernel
theorem dX7_init_74 : decode cX7_init 74 = .ok (.putfield 35, 3) := by decide +kernel
theorem dX7_init_77 : decode cX7_init 77 = .ok (.aload_n 0, 1) := by decide +kernel
theorem dX7_init_78 : decode cX7_init 78 = .ok (.bipush 26, 2) := by decide +kernel
theorem dX7_init_80 : decode cX7_init 80 = .ok (.newarray .int, 2) := by decide +kernel
theorem dX7_init_82 : decode cX7_init 82 = .ok (.putfield 38, 3) := by decide +kernel
theorem dX7_init_85 : decode cX7_init 85 = .ok (.aload_n 0, 1) := by decide +kernel
theorem dX7_init_86 : decode cX7_init 86 = .ok (.bipush 26, 2) := by decide +kernel
theorem dX7_init_88 : decode cX7_init 88 = .ok (.newarray .int, 2) := by decide +kernel
theorem dX7_init_90 : decode cX7_init 90 = .ok (.putfield 41, 3) := by decide +kernel
theorem dX7_init_93 : decode cX7_init 93 = .ok (.aload_n 0, 1) := by decide +kernel
theorem dX7_init_94 : decode cX7_init 94 = .ok (.sipush 182, 3) := by decide +kernel
theorem dX7_init_97 : decode cX7_init 97 = .ok (.newarray .int, 2) := by decide +kernel
theorem dX7_init_99 : decode cX7_init 99 = .ok (.putfield 44, 3) := by decide +kernel
theorem dX7_init_102 : decode cX7_init 102 = .ok (.aload_n 0, 1) := by decide +kernel
theorem dX7_init_103 : decode cX7_init 103 = .ok (.bipush 6, 2) := by decide +kernel
theorem dX7_init_105 : decode cX7_init 105 = .ok (.newarray .int, 2) := by decide +kernel
theorem dX7_init_107 : decode cX7_init 107 = .ok (.putfield 47, 3) := by decide +kernel
theorem dX7_init_110 : decode cX7_init 110 = .ok (.aload_n 0, 1) := by decide +kernel
theorem dX7_init_111 : decode cX7_init 111 = .ok (.bipush 6, 2) := by decide +kernel
theorem dX7_init_113 : decode cX7_init 113 = .ok (.newarray .int, 2) := by decide +kernel
theorem dX7_init_115 : decode cX7_init 115 = .ok (.putfield 50, 3) := by decide +kernel
theorem dX7_init_118 : decode cX7_init 118 = .ok (.aload_n 0, 1) := by decide +kernel
theorem dX7_init_119 : decode cX7_init 119 = .ok (.bipush 6, 2) := by decide +kernel
theorem dX7_init_121 : decode cX7_init 121 = .ok (.newarray .int, 2) := by decide +kernel
theorem dX7_init_123 : decode cX7_init 123 = .ok (.putfield 53, 3) := by decide +kernel
theorem dX7_init_126 : decode cX7_init 126 = .ok (.aload_n 0, 1) := by decide +kernel
theorem dX7_init_127 : decode cX7_init 127 = .ok (.bipush 6, 2) := by decide +kernel
theorem dX7_init_129 : decode cX7_init 129 = .ok (.newarray .int, 2) := by decide +kernel
theorem dX7_init_131 : decode cX7_init 131 = .ok (.putfield 56, 3) := by decide +kernel
theorem dX7_init_134 : decode cX7_init 134 = .ok (.aload_n 0, 1) := by decide +kernel
theorem dX7_init_135 : decode cX7_init 135 = .ok (.sipush 403, 3) := by decide +kernel
theorem dX7_init_138 : decode cX7_init 138 = .ok (.newarray .int, 2) := by decide +kernel
theorem dX7_init_140 : decode cX7_init 140 = .ok (.putfield 59, 3) := by decide +kernel
theorem dX7_init_143 : decode cX7_init 143 = .ok (.aload_n 0, 1) := by decide +kernel
theorem dX7_init_144 : decode cX7_init 144 = .ok (.bipush 12, 2) := by decide +kernel
theorem dX7_init_146 : decode cX7_init 146 = .ok (.newarray .int, 2) := by decide +kernel
theorem dX7_init_148 : decode cX7_init 148 = .ok (.putfield 62, 3) := by decide +kernel
theorem dX7_init_151 : decode cX7_init 151 = .ok (.aload_n 0, 1) := by decide +kernel
theorem dX7_init_152 : decode cX7_init 152 = .ok (.bipush 32, 2) := by decide +kernel
theorem dX7_init_154 : decode cX7_init 154 = .ok (.newarray .int, 2) := by decide +kernel
theorem dX7_init_156 : decode cX7_init 156 = .ok (.putfield 65, 3) := by decide +kernel
theorem dX7_init_159 : decode cX7_init 159 = .ok (.return_, 1) := by decide +kernel
def f_X7_init : am_F := am_th (i_al 0) (am_th (i_oi) (am_th (i_al 0) (am_th (i_ic (900)) (am_th (i_na 0) (am_th (i_pr 7 1) (am_th (i_al 0) (am_th (i_ic (-1)) (am_th (i_pi 7 10) (am_th (i_al 0) (am_th (i_ic (8)) (am_th (i_na 0) (am_th (i_pr 7 12) (am_th (i_al 0) (am_th (i_ic (220)) (am_th (i_na 0) (am_th (i_pr 7 15) (am_th (i_al 0) (am_th (i_ic (220)) (am_th (i_na 0) (am_th (i_pr 7 16) (am_th (i_al 0) (am_th (i_ic (26)) (am_th (i_na 0) (am_th (i_pr 7 17) (am_th (i_al 0) (am_th (i_ic (416)) (am_th (i_na 0) (am_th (i_pr 7 18) (am_th (i_al 0) (am_th (i_ic (78)) (am_th (i_na 0) (am_th (i_pr 7 19) (am_th (i_al 0) (am_th (i_ic (6)) (am_th (i_na 0) (am_th (i_pr 7 22) (am_th (i_al 0) (am_th (i_ic (26)) (am_th (i_na 0) (am_th (i_pr 7 23) (am_th (i_al 0) (am_th (i_ic (26)) (am_th (i_na 0) (am_th (i_pr 7 24) (am_th (i_al 0) (am_th (i_ic (182)) (am_th (i_na 0) (am_th (i_pr 7 25) (am_th (i_al 0) (am_th (i_ic (6)) (am_th (i_na 0) (am_th (i_pr 7 26) (am_th (i_al 0) (am_th (i_ic (6)) (am_th (i_na 0) (am_th (i_pr 7 27) (am_th (i_al 0) (am_th (i_ic (6)) (am_th (i_na 0) (am_th (i_pr 7 28) (am_th (i_al 0) (am_th (i_ic (6)) (am_th (i_na 0) (am_th (i_pr 7 29) (am_th (i_al 0) (am_th (i_ic (403)) (am_th (i_na 0) (am_th (i_pr 7 33) (am_th (i_al 0) (am_th (i_ic (12)) (am_th (i_na 0) (am_th (i_pr 7 34) (am_th (i_al 0) (am_th (i_ic (32)) (am_th (i_na 0) (am_th (i_pr 7 36) (r_v)))))))))))))))))))))))))))))))))))))))))))))))))))))))))))))))))))))))))))))
def d_X7_init : am_D := am_den 1 f_X7_init
set_option maxHeartbeats 4000000 in
set_option maxRecDepth 100000 in
theorem b_X7_init : am_Body yX7_init cX7_init 1 none 1 20 f_X7_init := by
  intro p l e R s m args below meth c g n0 z0 r0 u0 C hr hn
  have C : am_Cx p l e R s m args below meth c g RX7 cX7_init 1 n0 z0 (am_len u0) (am_wt u0) 1 20 := C
  unfold f_X7_init
  exact (so_th (so_aload_n C dX7_init_0 rfl) (so_th (so_oinit C k_473 k_1 k_2 (by decide) dX7_init_1) (so_th (so_aload_n C dX7_init_4 rfl) (so_th (so_sipush C dX7_init_5 (by decide)) (so_th (so_newI C k_3 dX7_init_8) (so_th (so_putr C fl_RX7_7 (Or.inr ⟨_, rfl⟩) fp_7 (Or.inr ⟨rfl, hn, rfl⟩) dX7_init_10) (so_th (so_aload_n C dX7_init_13 rfl) (so_th (so_iconst C dX7_init_14 (by decide)) (so_th (so_puti C fl_RX7_13 fp_7 (Or.inl rfl) dX7_init_15) (so_th (so_aload_n C dX7_init_18 rfl) (so_th (so_bipush C dX7_init_19 (by decide)) (so_th (so_newI C k_3 dX7_init_21) (so_th (so_putr C fl_RX7_17 (Or.inr ⟨_, rfl⟩) fp_7 (Or.inr ⟨rfl, hn, rfl⟩) dX7_init_23) (so_th (so_aload_n C dX7_init_26 rfl) (so_th (so_sipush C dX7_init_27 (by decide)) (so_th (so_newI C k_3 dX7_init_30) (so_th (so_putr C fl_RX7_20 (Or.inr ⟨_, rfl⟩) fp_7 (Or.inr ⟨rfl, hn, rfl⟩) dX7_init_32) (so_th (so_aload_n C dX7_init_35 rfl) (so_th (so_sipush C dX7_init_36 (by decide)) (so_th (so_newI C k_3 dX7_init_39) (so_th (so_putr C fl_RX7_23 (Or.inr ⟨_, rfl⟩) fp_7 (Or.inr ⟨rfl, hn, rfl⟩) dX7_init_41) (so_th (so_aload_n C dX7_init_44 rfl) (so_th (so_bipush C dX7_init_45 (by decide)) (so_th (so_newI C k_3 dX7_init_47) (so_th (so_putr C fl_RX7_26 (Or.inr ⟨_, rfl⟩) fp_7 (Or.inr ⟨rfl, hn, rfl⟩) dX7_init_49) (so_th (so_aload_n C dX7_init_52 rfl) (so_th (so_sipush C dX7_init_53 (by decide)) (so_th (so_newI C k_3 dX7_init_56) (so_th (so_putr C fl_RX7_29 (Or.inr ⟨_, rfl⟩) fp_7 (Or.inr ⟨rfl, hn, rfl⟩) dX7_init_58) (so_th (so_aload_n C dX7_init_61 rfl) (so_th (so_bipush C dX7_init_62 (by decide)) (so_th (so_newI C k_3 dX7_init_64) (so_th (so_putr C fl_RX7_32 (Or.inr ⟨_, rfl⟩) fp_7 (Or.inr ⟨rfl, hn, rfl⟩) dX7_init_66) (so_th (so_aload_n C dX7_init_69 rfl) (so_th (so_bipush C dX7_init_70 (by decide)) (so_th (so_newI C k_3 dX7_init_72) (so_th (so_putr C fl_RX7_35 (Or.inr ⟨_, rfl⟩) fp_7 (Or.inr ⟨rfl, hn, rfl⟩) dX7_init_74) (so_th (so_aload_n C dX7_init_77 rfl) (so_th (so_bipush C dX7_init_78 (by decide)) (so_th (so_newI C k_3 dX7_init_80) (so_th (so_putr C fl_RX7_38 (Or.inr ⟨_, rfl⟩) fp_7 (Or.inr ⟨rfl, hn, rfl⟩) dX7_init_82) (so_th (so_aload_n C dX7_init_85 rfl) (so_th (so_bipush C dX7_init_86 (by decide)) (so_th (so_newI C k_3 dX7_init_88) (so_th (so_putr C fl_RX7_41 (Or.inr ⟨_, rfl⟩) fp_7 (Or.inr ⟨rfl, hn, rfl⟩) dX7_init_90) (so_th (so_aload_n C dX7_init_93 rfl) (so_th (so_sipush C dX7_init_94 (by decide)) (so_th (so_newI C k_3 dX7_init_97) (so_th (so_putr C fl_RX7_44 (Or.inr ⟨_, rfl⟩) fp_7 (Or.inr ⟨rfl, hn, rfl⟩) dX7_init_99) (so_th (so_aload_n C dX7_init_102 rfl) (so_th (so_bipush C dX7_init_103 (by decide)) (so_th (so_newI C k_3 dX7_init_105) (so_th (so_putr C fl_RX7_47 (Or.inr ⟨_, rfl⟩) fp_7 (Or.inr ⟨rfl, hn, rfl⟩) dX7_init_107) (so_th (so_aload_n C dX7_init_110 rfl) (so_th (so_bipush C dX7_init_111 (by decide)) (so_th (so_newI C k_3 dX7_init_113) (so_th (so_putr C fl_RX7_50 (Or.inr ⟨_, rfl⟩) fp_7 (Or.inr ⟨rfl, hn, rfl⟩) dX7_init_115) (so_th (so_aload_n C dX7_init_118 rfl) (so_th (so_bipush C dX7_init_119 (by decide)) (so_th (so_newI C k_3 dX7_init_121) (so_th (so_putr C fl_RX7_53 (Or.inr ⟨_, rfl⟩) fp_7 (Or.inr ⟨rfl, hn, rfl⟩) dX7_init_123) (so_th (so_aload_n C dX7_init_126 rfl) (so_th (so_bipush C dX7_init_127 (by decide)) (so_th (so_newI C k_3 dX7_init_129) (so_th (so_putr C fl_RX7_56 (Or.inr ⟨_, rfl⟩) fp_7 (Or.inr ⟨rfl, hn, rfl⟩) dX7_init_131) (so_th (so_aload_n C dX7_init_134 rfl) (so_th (so_sipush C dX7_init_135 (by decide)) (so_th (so_newI C k_3 dX7_init_138) (so_th (so_putr C fl_RX7_59 (Or.inr ⟨_, rfl⟩) fp_7 (Or.inr ⟨rfl, hn, rfl⟩) dX7_init_140) (so_th (so_aload_n C dX7_init_143 rfl) (so_th (so_bipush C dX7_init_144 (by decide)) (so_th (so_newI C k_3 dX7_init_146) (so_th (so_putr C fl_RX7_62 (Or.inr ⟨_, rfl⟩) fp_7 (Or.inr ⟨rfl, hn, rfl⟩) dX7_init_148) (so_th (so_aload_n C dX7_init_151 rfl) (so_th (so_bipush C dX7_init_152 (by decide)) (so_th (so_newI C k_3 dX7_init_154) (so_th (so_putr C fl_RX7_65 (Or.inr ⟨_, rfl⟩) fp_7 (Or.inr ⟨rfl, hn, rfl⟩) dX7_init_156) (so_rv C hr dX7_init_159))))))))))))))))))))))))))))))))))))))))))))))))))))))))))))))))))))))))))))))
theorem m_X7_init : am_M yX7_init cX7_init 1 none 1 20 d_X7_init := am_M_of (by decide +kernel) b_X7_init
theorem dX7_thrown_0 : decode cX7_thrown 0 = .ok (.aload_n 0, 1) := by decide +kernel
theorem dX7_thrown_1 : decode cX7_thrown 1 = .ok (.getfield 68, 3) := by decide +kernel
theorem dX7_thrown_4 : decode cX7_thrown 4 = .ok (.ireturn, 1) := by decide +kernel
def f_X7_thrown : am_F := am_th (i_al 0) (am_th (i_gi 7 0) (r_i))
def d_X7_thrown : am_D := am_den 1 f_X7_thrown
set_option maxHeartbeats 4000000 in
set_option maxRecDepth 100000 in
theorem b_X7_thrown : am_Body yX7_thrown cX7_thrown 1 (some .int) 0 0 f_X7_thrown := by
  intro p l e R s m args below meth c g n0 z0 r0 u0 C hr hn
  have C : am_Cx p l e R s m args below meth c g RX7 cX7_thrown 1 n0 z0 (am_len u0) (am_wt u0) 0 0 := C
  unfold f_X7_thrown
  exact (so_th (so_aload_n C dX7_thrown_0 rfl) (so_th (so_geti C fl_RX7_68 (by decide) dX7_thrown_1) (so_ri C hr dX7_thrown_4)))
theorem m_X7_thrown : am_M yX7_thrown cX7_thrown 1 (some .int) 0 0 d_X7_thrown := am_M_of (by decide +kernel) b_X7_thrown
theorem dX7_good_0 : decode cX7_good 0 = .ok (.aload_n 0, 1) := by decide +kernel
theorem dX7_good_1 : decode cX7_good 1 = .ok (.iconst 0, 1) := by decide +kernel
theorem dX7_good_2 : decode cX7_good 2 = .ok (.putfield 68, 3) := by decide +kernel
theorem dX7_good_5 : decode cX7_good 5 = .ok (.aload_n 0, 1) := by decide +kernel
theorem dX7_good_6 : decode cX7_good 6 = .ok (.iconst 0, 1) := by decide +kernel
theorem dX7_good_7 : decode cX7_good 7 = .ok (.putfield 71, 3) := by decide +kernel
theorem dX7_good_10 : decode cX7_good 10 = .ok (.return_, 1) := by decide +kernel
def f_X7_good : am_F := am_th (i_al 0) (am_th (i_ic (0)) (am_th (i_pi 7 0) (am_th (i_al 0) (am_th (i_ic (0)) (am_th (i_pi 7 11) (r_v))))))
def d_X7_good : am_D := am_den 1 f_X7_good
set_option maxHeartbeats 4000000 in
set_option maxRecDepth 100000 in
theorem b_X7_good : am_Body yX7_good cX7_good 1 none 0 0 f_X7_good := by
  intro p l e R s m args below meth c g n0 z0 r0 u0 C hr hn
  have C : am_Cx p l e R s m args below meth c g RX7 cX7_good 1 n0 z0 (am_len u0) (am_wt u0) 0 0 := C
  unfold f_X7_good
  exact (so_th (so_aload_n C dX7_good_0 rfl) (so_th (so_iconst C dX7_good_1 (by decide)) (so_th (so_puti C fl_RX7_68 fp_7 (Or.inl rfl) dX7_good_2) (so_th (so_aload_n C dX7_good_5 rfl) (so_th (so_iconst C dX7_good_6 (by decide)) (so_th (so_puti C fl_RX7_71 fp_7 (Or.inl rfl) dX7_good_7) (so_rv C hr dX7_good_10)))))))
theorem m_X7_good : am_M yX7_good cX7_good 1 none 0 0 d_X7_good := am_M_of (by decide +kernel) b_X7_good
theorem dX7_no_0 : decode cX7_no 0 = .ok (.aload_n 0, 1) := by decide +kernel
theorem dX7_no_1 : decode cX7_no 1 = .ok (.iload_n 1, 1) := by decide +kernel
theorem dX7_no_2 : decode cX7_no 2 = .ok (.putfield 71, 3) := by decide +kernel
theorem dX7_no_5 : decode cX7_no 5 = .ok (.iconst (-1), 1) := by decide +kernel
theorem dX7_no_6 : decode cX7_no 6 = .ok (.ireturn, 1) := by decide +kernel
def f_X7_no : am_F := am_th (i_al 0) (am_th (i_il 1) (am_th (i_pi 7 11) (am_th (i_ic (-1)) (r_i))))
def d_X7_no : am_D := am_den 2 f_X7_no
set_option maxHeartbeats 4000000 in
set_option maxRecDepth 100000 in
theorem b_X7_no : am_Body yX7_no cX7_no 2 (some .int) 0 0 f_X7_no := by
  intro p l e R s m args below meth c g n0 z0 r0 u0 C hr hn
  have C : am_Cx p l e R s m args below meth c g RX7 cX7_no 2 n0 z0 (am_len u0) (am_wt u0) 0 0 := C
  unfold f_X7_no
  exact (so_th (so_aload_n C dX7_no_0 rfl) (so_th (so_iload_n C dX7_no_1 rfl) (so_th (so_puti C fl_RX7_71 fp_7 (Or.inl rfl) dX7_no_2) (so_th (so_iconst C dX7_no_5 (by decide)) (so_ri C hr dX7_no_6)))))
theorem m_X7_no : am_M yX7_no cX7_no 2 (some .int) 0 0 d_X7_no := am_M_of (by decide +kernel) b_X7_no
theorem dX7_less_0 : decode cX7_less 0 = .ok (.aload_n 0, 1) := by decide +kernel
theorem dX7_less_1 : decode cX7_less 1 = .ok (.iload_n 1, 1) := by decide +kernel
theorem dX7_less_2 : decode cX7_less 2 = .ok (.putfield 71, 3) := by decide +kernel
theorem dX7_less_5 : decode cX7_less 5 = .ok (.bipush (-100), 2) := by decide +kernel
theorem dX7_less_7 : decode cX7_less 7 = .ok (.ireturn, 1) := by decide +kernel
def f_X7_less : am_F := am_th (i_al 0) (am_th (i_il 1) (am_th (i_pi 7 11) (am_th (i_ic (-100)) (r_i))))
def d_X7_less : am_D := am_den 2 f_X7_less
set_option maxHeartbeats 4000000 in
set_option maxRecDepth 100000 in
theorem b_X7_less : am_Body yX7_less cX7_less 2 (some .int) 0 0 f_X7_less := by
  intro p l e R s m args below meth c g n0 z0 r0 u0 C hr hn
  have C : am_Cx p l e R s m args below meth c g RX7 cX7_less 2 n0 z0 (am_len u0) (am_wt u0) 0 0 := C
  unfold f_X7_less
  exact (so_th (so_aload_n C dX7_less_0 rfl) (so_th (so_iload_n C dX7_less_1 rfl) (so_th (so_puti C fl_RX7_71 fp_7 (Or.inl rfl) dX7_less_2) (so_th (so_bipush C dX7_less_5 (by decide)) (so_ri C hr dX7_less_7)))))
theorem m_X7_less : am_M yX7_less cX7_less 2 (some .int) 0 0 d_X7_less := am_M_of (by decide +kernel) b_X7_less
theorem dX7_isNot_0 : decode cX7_isNot 0 = .ok (.aload_n 0, 1) := by decide +kernel
theorem dX7_isNot_1 : decode cX7_isNot 1 = .ok (.iload_n 1, 1) := by decide +kernel
theorem dX7_isNot_2 : decode cX7_isNot 2 = .ok (.putfield 71, 3) := by decide +kernel
theorem dX7_isNot_5 : decode cX7_isNot 5 = .ok (.iconst 0, 1) := by decide +kernel
theorem dX7_isNot_6 : decode cX7_isNot 6 = .ok (.ireturn, 1) := by decide +kernel
def f_X7_isNot : am_F := am_th (i_al 0) (am_th (i_il 1) (am_th (i_pi 7 11) (am_th (i_ic (0)) (r_z))))
def d_X7_isNot : am_D := am_den 2 f_X7_isNot
set_option maxHeartbeats 4000000 in
set_option maxRecDepth 100000 in
theorem b_X7_isNot : am_Body yX7_isNot cX7_isNot 2 (some .boolean) 0 0 f_X7_isNot := by
  intro p l e R s m args below meth c g n0 z0 r0 u0 C hr hn
  have C : am_Cx p l e R s m args below meth c g RX7 cX7_isNot 2 n0 z0 (am_len u0) (am_wt u0) 0 0 := C
  unfold f_X7_isNot
  exact (so_th (so_aload_n C dX7_isNot_0 rfl) (so_th (so_iload_n C dX7_isNot_1 rfl) (so_th (so_puti C fl_RX7_71 fp_7 (Or.inl rfl) dX7_isNot_2) (so_th (so_iconst C dX7_isNot_5 (by decide)) (so_rz C hr dX7_isNot_6)))))
theorem m_X7_isNot : am_M yX7_isNot cX7_isNot 2 (some .boolean) 0 0 d_X7_isNot := am_M_of (by decide +kernel) b_X7_isNot
theorem dX7_in_0 : decode cX7_in 0 = .ok (.iload_n 0, 1) := by decide +kernel
theorem dX7_in_1 : decode cX7_in 1 = .ok (.iload_n 1, 1) := by decide +kernel
theorem dX7_in_2 : decode cX7_in 2 = .ok (.if_icmp .lt 12, 3) := by decide +kernel
theorem dX7_in_5 : decode cX7_in 5 = .ok (.iload_n 0, 1) := by decide +kernel
theorem dX7_in_6 : decode cX7_in 6 = .ok (.iload_n 2, 1) := by decide +kernel
theorem dX7_in_7 : decode cX7_in 7 = .ok (.if_icmp .gt 7, 3) := by decide +kernel
theorem dX7_in_10 : decode cX7_in 10 = .ok (.iconst 1, 1) := by decide +kernel
theorem dX7_in_11 : decode cX7_in 11 = .ok (.goto 4, 3) := by decide +kernel
theorem dX7_in_14 : decode cX7_in 14 = .ok (.iconst 0, 1) := by decide +kernel
theorem dX7_in_15 : decode cX7_in 15 = .ok (.ireturn, 1) := by decide +kernel
def f_X7_in : am_F := am_th (i_il 0) (am_th (i_il 1) (am_br (b_2 (fun x y => decide (x < y))) (am_th (i_ic (0)) (r_z)) (am_th (i_il 0) (am_th (i_il 2) (am_br (b_2 (fun x y => decide (y < x))) (am_th (i_ic (0)) (r_z)) (am_th (i_ic (1)) (r_z)))))))
def d_X7_in : am_D := am_den 3 f_X7_in
set_option maxHeartbeats 4000000 in
set_option maxRecDepth 100000 in
theorem b_X7_in : am_Body yX7_in cX7_in 3 (some .boolean) 0 0 f_X7_in := by
  intro p l e R s m args below meth c g n0 z0 r0 u0 C hr hn
  have C : am_Cx p l e R s m args below meth c g RX7 cX7_in 3 n0 z0 (am_len u0) (am_wt u0) 0 0 := C
  unfold f_X7_in
  exact (so_th (so_iload_n C dX7_in_0 rfl) (so_th (so_iload_n C dX7_in_1 rfl) (so_br (so_icmp_lt C dX7_in_2 (by decide)) (so_th (so_iconst C dX7_in_14 (by decide)) (so_rz C hr dX7_in_15)) (so_th (so_iload_n C dX7_in_5 rfl) (so_th (so_iload_n C dX7_in_6 rfl) (so_br (so_icmp_gt C dX7_in_7 (by decide)) (so_th (so_iconst C dX7_in_14 (by decide)) (so_rz C hr dX7_in_15)) (so_th (so_iconst C dX7_in_10 (by decide)) (so_goto C dX7_in_11 (by decide) (so_rz C hr dX7_in_15)))))))))
theorem m_X7_in : am_M yX7_in cX7_in 3 (some .boolean) 0 0 d_X7_in := am_M_of (by decide +kernel) b_X7_in
theorem dX7_hasBit_0 : decode cX7_hasBit 0 = .ok (.iload_n 0, 1) := by decide +kernel
theorem dX7_hasBit_1 : decode cX7_hasBit 1 = .ok (.iload_n 1, 1) := by decide +kernel
theorem dX7_hasBit_2 : decode cX7_hasBit 2 = .ok (.ishr, 1) := by decide +kernel
theorem dX7_hasBit_3 : decode cX7_hasBit 3 = .ok (.iconst 1, 1) := by decide +kernel
theorem dX7_hasBit_4 : decode cX7_hasBit 4 = .ok (.iand, 1) := by decide +kernel
theorem dX7_hasBit_5 : decode cX7_hasBit 5 = .ok (.iconst 1, 1) := by decide +kernel
theorem dX7_hasBit_6 : decode cX7_hasBit 6 = .ok (.if_icmp .ne 7, 3) := by decide +kernel
theorem dX7_hasBit_9 : decode cX7_hasBit 9 = .ok (.iconst 1, 1) := by decide +kernel
theorem dX7_hasBit_10 : decode cX7_hasBit 10 = .ok (.goto 4, 3) := by decide +kernel
theorem dX7_hasBit_13 : decode cX7_hasBit 13 = .ok (.iconst 0, 1) := by decide +kernel
theorem dX7_hasBit_14 : decode cX7_hasBit 14 = .ok (.ireturn, 1) := by decide +kernel
def f_X7_hasBit : am_F := am_th (i_il 0) (am_th (i_il 1) (am_th (i_2 (fun x y => x >>> (y &&& 31))) (am_th (i_ic (1)) (am_th (i_2 (fun x y => x &&& y)) (am_th (i_ic (1)) (am_br (b_2 (fun x y => decide (¬ x = y))) (am_th (i_ic (0)) (r_z)) (am_th (i_ic (1)) (r_z))))))))
def d_X7_hasBit : am_D := am_den 2 f_X7_hasBit
set_option maxHeartbeats 4000000 in
set_option maxRecDepth 100000 in
theorem b_X7_hasBit : am_Body yX7_hasBit cX7_hasBit 2 (some .boolean) 0 0 f_X7_hasBit := by
  intro p l e R s m args below meth c g n0 z0 r0 u0 C hr hn
  have C : am_Cx p l e R s m args below meth c g RX7 cX7_hasBit 2 n0 z0 (am_len u0) (am_wt u0) 0 0 := C
  unfold f_X7_hasBit
  exact (so_th (so_iload_n C dX7_hasBit_0 rfl) (so_th (so_iload_n C dX7_hasBit_1 rfl) (so_th (so_ishr C dX7_hasBit_2) (so_th (so_iconst C dX7_hasBit_3 (by decide)) (so_th (so_iand C dX7_hasBit_4) (so_th (so_iconst C dX7_hasBit_5 (by decide)) (so_br (so_icmp_ne C dX7_hasBit_6 (by decide)) (so_th (so_iconst C dX7_hasBit_13 (by decide)) (so_rz C hr dX7_hasBit_14)) (so_th (so_iconst C dX7_hasBit_9 (by decide)) (so_goto C dX7_hasBit_10 (by decide) (so_rz C hr dX7_hasBit_14))))))))))
theorem m_X7_hasBit : am_M yX7_hasBit cX7_hasBit 2 (some .boolean) 0 0 d_X7_hasBit := am_M_of (by decide +kernel) b_X7_hasBit
theorem dX7_copy_0 : decode cX7_copy 0 = .ok (.iconst 0, 1) := by decide +kernel
theorem dX7_copy_1 : decode cX7_copy 1 = .ok (.istore 5, 2) := by decide +kernel
theorem dX7_copy_3 : decode cX7_copy 3 = .ok (.iload 5, 2) := by decide +kernel
theorem dX7_copy_5 : decode cX7_copy 5 = .ok (.iload 4, 2) := by decide +kernel
theorem dX7_copy_7 : decode cX7_copy 7 = .ok (.if_icmp .ge 21, 3) := by decide +kernel
theorem dX7_copy_10 : decode cX7_copy 10 = .ok (.aload_n 2, 1) := by decide +kernel
theorem dX7_copy_11 : decode cX7_copy 11 = .ok (.iload_n 3, 1) := by decide +kernel
theorem dX7_copy_12 : decode cX7_copy 12 = .ok (.iload 5, 2) := by decide +kernel
theorem dX7_copy_14 : decode cX7_copy 14 = .ok (.iadd, 1) := by decide +kernel
theorem dX7_copy_15 : decode cX7_copy 15 = .ok (.aload_n 0, 1) := by decide +kernel
theorem dX7_copy_16 : decode cX7_copy 16 = .ok (.iload_n 1, 1) := by decide +kernel
theorem dX7_copy_17 : decode cX7_copy 17 = .ok (.iload 5, 2) := by decide +kernel
theorem dX7_copy_19 : decode cX7_copy 19 = .ok (.iadd, 1) := by decide +kernel
theorem dX7_copy_20 : decode cX7_copy 20 = .ok (.iaload, 1) := by decide +kernel
theorem dX7_copy_21 : decode cX7_copy 21 = .ok (.iastore, 1) := by decide +kernel
theorem dX7_copy_22 : decode cX7_copy 22 = .ok (.iinc 5 1, 3) := by decide +kernel
theorem dX7_copy_25 : decode cX7_copy 25 = .ok (.goto (-22), 3) := by decide +kernel
theorem dX7_copy_28 : decode cX7_copy 28 = .ok (.return_, 1) := by decide +kernel
def f_X7_copy_l3 : am_F := am_th (i_il 5) (am_th (i_il 4) (am_br (b_2 (fun x y => decide (y ≤ x))) (am_to 28) (am_th (i_al 2) (am_th (i_il 3) (am_th (i_il 5) (am_th (i_2 (fun x y => x + y)) (am_th (i_al 0) (am_th (i_il 1) (am_th (i_il 5) (am_th (i_2 (fun x y => x + y)) (am_th (i_ia 0) (am_th (i_iS) (am_th (i_inc 5 (1)) (am_to 3))))))))))))))
def f_X7_copy : am_F := am_th (i_ic (0)) (am_th (i_is 5) (am_sq 28 (am_lp 5000 3 f_X7_copy_l3) (r_v)))
def d_X7_copy : am_D := am_den 6 f_X7_copy
set_option maxHeartbeats 4000000 in
set_option maxRecDepth 100000 in
theorem b_X7_copy : am_Body yX7_copy cX7_copy 6 none 0 0 f_X7_copy := by
  intro p l e R s m args below meth c g n0 z0 r0 u0 C hr hn
  have C : am_Cx p l e R s m args below meth c g RX7 cX7_copy 6 n0 z0 (am_len u0) (am_wt u0) 0 0 := C
  have l3 : am_Snd (am_GM p l e R s m args below meth c g 6 n0 z0 r0 u0) (am_Rt r0 u0) 3 (f_X7_copy_l3) := by
    unfold f_X7_copy_l3
    exact (so_th (so_iload C dX7_copy_3) (so_th (so_iload C dX7_copy_5) (so_br (so_icmp_ge C dX7_copy_7 (by decide)) (so_to) (so_th (so_aload_n C dX7_copy_10 rfl) (so_th (so_iload_n C dX7_copy_11 rfl) (so_th (so_iload C dX7_copy_12) (so_th (so_iadd C dX7_copy_14) (so_th (so_aload_n C dX7_copy_15 rfl) (so_th (so_iload_n C dX7_copy_16 rfl) (so_th (so_iload C dX7_copy_17) (so_th (so_iadd C dX7_copy_19) (so_th (so_iald C dX7_copy_20) (so_th (so_iast C dX7_copy_21) (so_th (so_iinc C dX7_copy_22 (by decide) (by decide)) (so_goto C dX7_copy_25 (by decide) (so_to))))))))))))))))
  unfold f_X7_copy
  exact (so_th (so_iconst C dX7_copy_0 (by decide)) (so_th (so_istore C dX7_copy_1 (by decide)) (so_sq (so_lp l3 5000) (so_rv C hr dX7_copy_28))))
theorem m_X7_copy : am_M yX7_copy cX7_copy 6 none 0 0 d_X7_copy := am_M_of (by decide +kernel) b_X7_copy
theorem dX7_lowest_0 : decode cX7_lowest 0 = .ok (.lload_n 2, 1) := by decide +kernel
theorem dX7_lowest_1 : decode cX7_lowest 1 = .ok (.lstore 5, 2) := by decide +kernel
theorem dX7_lowest_3 : decode cX7_lowest 3 = .ok (.lload_n 0, 1) := by decide +kernel
theorem dX7_lowest_4 : decode cX7_lowest 4 = .ok (.lstore 7, 2) := by decide +kernel
theorem dX7_lowest_6 : decode cX7_lowest 6 = .ok (.lload 7, 2) := by decide +kernel
theorem dX7_lowest_8 : decode cX7_lowest 8 = .ok (.lconst 0, 1) := by decide +kernel
theorem dX7_lowest_9 : decode cX7_lowest 9 = .ok (.lcmp, 1) := by decide +kernel
theorem dX7_lowest_10 : decode cX7_lowest 10 = .ok (.ifCond .eq 21, 3) := by decide +kernel
theorem dX7_lowest_13 : decode cX7_lowest 13 = .ok (.lload 5, 2) := by decide +kernel
theorem dX7_lowest_15 : decode cX7_lowest 15 = .ok (.lload 7, 2) := by decide +kernel
theorem dX7_lowest_17 : decode cX7_lowest 17 = .ok (.lrem, 1) := by decide +kernel
theorem dX7_lowest_18 : decode cX7_lowest 18 = .ok (.lstore 9, 2) := by decide +kernel
theorem dX7_lowest_20 : decode cX7_lowest 20 = .ok (.lload 7, 2) := by decide +kernel
theorem dX7_lowest_22 : decode cX7_lowest 22 = .ok (.lstore 5, 2) := by decide +kernel
theorem dX7_lowest_24 : decode cX7_lowest 24 = .ok (.lload 9, 2) := by decide +kernel
theorem dX7_lowest_26 : decode cX7_lowest 26 = .ok (.lstore 7, 2) := by decide +kernel
theorem dX7_lowest_28 : decode cX7_lowest 28 = .ok (.goto (-22), 3) := by decide +kernel
theorem dX7_lowest_31 : decode cX7_lowest 31 = .ok (.iload 4, 2) := by decide +kernel
theorem dX7_lowest_33 : decode cX7_lowest 33 = .ok (.ifCond .eq 7, 3) := by decide +kernel
theorem dX7_lowest_36 : decode cX7_lowest 36 = .ok (.lload_n 2, 1) := by decide +kernel
theorem dX7_lowest_37 : decode cX7_lowest 37 = .ok (.goto 4, 3) := by decide +kernel
theorem dX7_lowest_40 : decode cX7_lowest 40 = .ok (.lload_n 0, 1) := by decide +kernel
theorem dX7_lowest_41 : decode cX7_lowest 41 = .ok (.lload 5, 2) := by decide +kernel
theorem dX7_lowest_43 : decode cX7_lowest 43 = .ok (.ldiv, 1) := by decide +kernel
theorem dX7_lowest_44 : decode cX7_lowest 44 = .ok (.lreturn, 1) := by decide +kernel
def f_X7_lowest_l6 : am_F := am_th (i_ll 7) (am_th (i_lc (0)) (am_th (j_cmp) (am_br (b_1 (fun x => decide (x = 0))) (am_to 31) (am_th (i_ll 5) (am_th (i_ll 7) (am_th (j_2n (fun x y => x - x / y * y)) (am_th (i_ls 9) (am_th (i_ll 7) (am_th (i_ls 5) (am_th (i_ll 9) (am_th (i_ls 7) (am_to 6))))))))))))
def f_X7_lowest : am_F := am_th (i_ll 2) (am_th (i_ls 5) (am_th (i_ll 0) (am_th (i_ls 7) (am_sq 31 (am_lp 5000 6 f_X7_lowest_l6) (am_th (i_il 4) (am_br (b_1 (fun x => decide (x = 0))) (am_th (i_ll 0) (am_th (i_ll 5) (am_th (j_2n (fun x y => x / y)) (r_l)))) (am_th (i_ll 2) (am_th (i_ll 5) (am_th (j_2n (fun x y => x / y)) (r_l))))))))))
def d_X7_lowest : am_D := am_den 11 f_X7_lowest
set_option maxHeartbeats 4000000 in
set_option maxRecDepth 100000 in
theorem b_X7_lowest : am_Body yX7_lowest cX7_lowest 11 (some .long) 0 0 f_X7_lowest := by
  intro p l e R s m args below meth c g n0 z0 r0 u0 C hr hn
  have C : am_Cx p l e R s m args below meth c g RX7 cX7_lowest 11 n0 z0 (am_len u0) (am_wt u0) 0 0 := C
  have l6 : am_Snd (am_GM p l e R s m args below meth c g 11 n0 z0 r0 u0) (am_Rt r0 u0) 6 (f_X7_lowest_l6) := by
    unfold f_X7_lowest_l6
    exact (so_th (so_lload C dX7_lowest_6) (so_th (so_lconst C dX7_lowest_8 (by decide)) (so_th (so_lcmp C dX7_lowest_9) (so_br (so_if_eq C dX7_lowest_10 (by decide)) (so_to) (so_th (so_lload C dX7_lowest_13) (so_th (so_lload C dX7_lowest_15) (so_th (so_lrem C dX7_lowest_17) (so_th (so_lstore C dX7_lowest_18 (by decide)) (so_th (so_lload C dX7_lowest_20) (so_th (so_lstore C dX7_lowest_22 (by decide)) (so_th (so_lload C dX7_lowest_24) (so_th (so_lstore C dX7_lowest_26 (by decide)) (so_goto C dX7_lowest_28 (by decide) (so_to))))))))))))))
  unfold f_X7_lowest
  exact (so_th (so_lload_n C dX7_lowest_0 rfl) (so_th (so_lstore C dX7_lowest_1 (by decide)) (so_th (so_lload_n C dX7_lowest_3 rfl) (so_th (so_lstore C dX7_lowest_4 (by decide)) (so_sq (so_lp l6 5000) (so_th (so_iload C dX7_lowest_31) (so_br (so_if_eq C dX7_lowest_33 (by decide)) (so_th (so_lload_n C dX7_lowest_40 rfl) (so_th (so_lload C dX7_lowest_41) (so_th (so_ldiv C dX7_lowest_43) (so_rl C hr dX7_lowest_44)))) (so_th (so_lload_n C dX7_lowest_36 rfl) (so_goto C dX7_lowest_37 (by decide) (so_th (so_lload C dX7_lowest_41) (so_th (so_ldiv C dX7_lowest_43) (so_rl C hr dX7_lowest_44))))))))))))
theorem m_X7_lowest : am_M yX7_lowest cX7_lowest 11 (some .long) 0 0 d_X7_lowest := am_M_of (by decide +kernel) b_X7_lowest
