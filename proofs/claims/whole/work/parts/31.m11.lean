theorem dX7_season_0 : decode cX7_season 0 = .ok (.aload_n 0, 1) := by decide +kernel
theorem dX7_season_1 : decode cX7_season 1 = .ok (.invokevirtual 189, 3) := by decide +kernel
theorem dX7_season_4 : decode cX7_season 4 = .ok (.aload_n 0, 1) := by decide +kernel
theorem dX7_season_5 : decode cX7_season 5 = .ok (.getfield 206, 3) := by decide +kernel
theorem dX7_season_8 : decode cX7_season 8 = .ok (.ifCond .ne 9, 3) := by decide +kernel
theorem dX7_season_11 : decode cX7_season 11 = .ok (.aload_n 0, 1) := by decide +kernel
theorem dX7_season_12 : decode cX7_season 12 = .ok (.iconst 1, 1) := by decide +kernel
theorem dX7_season_13 : decode cX7_season 13 = .ok (.invokevirtual 192, 3) := by decide +kernel
theorem dX7_season_16 : decode cX7_season 16 = .ok (.ireturn, 1) := by decide +kernel
theorem dX7_season_17 : decode cX7_season 17 = .ok (.aload_n 0, 1) := by decide +kernel
theorem dX7_season_18 : decode cX7_season 18 = .ok (.getfield 26, 3) := by decide +kernel
theorem dX7_season_21 : decode cX7_season 21 = .ok (.bipush 24, 2) := by decide +kernel
theorem dX7_season_23 : decode cX7_season 23 = .ok (.iaload, 1) := by decide +kernel
theorem dX7_season_24 : decode cX7_season 24 = .ok (.sipush 200, 3) := by decide +kernel
theorem dX7_season_27 : decode cX7_season 27 = .ok (.if_icmp .ne 9, 3) := by decide +kernel
theorem dX7_season_30 : decode cX7_season 30 = .ok (.aload_n 0, 1) := by decide +kernel
theorem dX7_season_31 : decode cX7_season 31 = .ok (.iconst 3, 1) := by decide +kernel
theorem dX7_season_32 : decode cX7_season 32 = .ok (.invokevirtual 192, 3) := by decide +kernel
theorem dX7_season_35 : decode cX7_season 35 = .ok (.ireturn, 1) := by decide +kernel
theorem dX7_season_36 : decode cX7_season 36 = .ok (.aload_n 0, 1) := by decide +kernel
theorem dX7_season_37 : decode cX7_season 37 = .ok (.invokevirtual 446, 3) := by decide +kernel
theorem dX7_season_40 : decode cX7_season 40 = .ok (.aload_n 0, 1) := by decide +kernel
theorem dX7_season_41 : decode cX7_season 41 = .ok (.aload_n 0, 1) := by decide +kernel
theorem dX7_season_42 : decode cX7_season 42 = .ok (.getfield 26, 3) := by decide +kernel
theorem dX7_season_45 : decode cX7_season 45 = .ok (.bipush 12, 2) := by decide +kernel
theorem dX7_season_47 : decode cX7_season 47 = .ok (.invokevirtual 341, 3) := by decide +kernel
theorem dX7_season_50 : decode cX7_season 50 = .ok (.istore_n 1, 1) := by decide +kernel
theorem dX7_season_51 : decode cX7_season 51 = .ok (.aload_n 0, 1) := by decide +kernel
theorem dX7_season_52 : decode cX7_season 52 = .ok (.aload_n 0, 1) := by decide +kernel
theorem dX7_season_53 : decode cX7_season 53 = .ok (.getfield 26, 3) := by decide +kernel
theorem dX7_season_56 : decode cX7_season 56 = .ok (.invokevirtual 311, 3) := by decide +kernel
theorem dX7_season_59 : decode cX7_season 59 = .ok (.pop, 1) := by decide +kernel
theorem dX7_season_60 : decode cX7_season 60 = .ok (.aload_n 0, 1) := by decide +kernel
theorem dX7_season_61 : decode cX7_season 61 = .ok (.aload_n 0, 1) := by decide +kernel
theorem dX7_season_62 : decode cX7_season 62 = .ok (.getfield 26, 3) := by decide +kernel
theorem dX7_season_65 : decode cX7_season 65 = .ok (.bipush 12, 2) := by decide +kernel
theorem dX7_season_67 : decode cX7_season 67 = .ok (.invokevirtual 341, 3) := by decide +kernel
theorem dX7_season_70 : decode cX7_season 70 = .ok (.iload_n 1, 1) := by decide +kernel
theorem dX7_season_71 : decode cX7_season 71 = .ok (.isub, 1) := by decide +kernel
theorem dX7_season_72 : decode cX7_season 72 = .ok (.ireturn, 1) := by decide +kernel
def f_X7_season : am_F := am_th (i_al 0) (am_th (i_cv 7 0 d_X7_good) (am_th (i_al 0) (am_th (i_gi 7 14) (am_br (b_1 (fun x => decide (¬ x = 0))) (am_th (i_al 0) (am_th (i_gr 7 17) (am_th (i_ic (24)) (am_th (i_ia 0) (am_th (i_ic (200)) (am_br (b_2 (fun x y => decide (¬ x = y))) (am_th (i_al 0) (am_th (i_cv 7 0 d_X7_note) (am_th (i_al 0) (am_th (i_al 0) (am_th (i_gr 7 17) (am_th (i_ic (12)) (am_th (i_cv 7 2 d_X7_sumOf) (am_th (i_is 1) (am_th (i_al 0) (am_th (i_al 0) (am_th (i_gr 7 17) (am_th (i_cv 7 1 d_X7_seasonAsTold) (am_th (i_pop) (am_th (i_al 0) (am_th (i_al 0) (am_th (i_gr 7 17) (am_th (i_ic (12)) (am_th (i_cv 7 2 d_X7_sumOf) (am_th (i_il 1) (am_th (i_2 (fun x y => x - y)) (r_i))))))))))))))))))))) (am_th (i_al 0) (am_th (i_ic (3)) (am_th (i_cv 7 1 d_X7_no) (r_i)))))))))) (am_th (i_al 0) (am_th (i_ic (1)) (am_th (i_cv 7 1 d_X7_no) (r_i))))))))
def d_X7_season : am_D := am_den 2 f_X7_season
set_option maxHeartbeats 4000000 in
set_option maxRecDepth 100000 in
theorem b_X7_season : am_Body yX7_season cX7_season 2 (some .int) 5 114 f_X7_season := by
  intro p l e R s m args below meth c g n0 z0 r0 u0 C hr hn
  have C : am_Cx p l e R s m args below meth c g RX7 cX7_season 2 n0 z0 (am_len u0) (am_wt u0) 5 114 := C
  unfold f_X7_season
  exact (so_th (so_aload_n C dX7_season_0 rfl) (so_th (so_cv C m_X7_good rfl k_594 k_596 k_595 k_597 k_475 ⟨by decide, by decide, by decide +kernel⟩ (by decide) dX7_season_1) (so_th (so_aload_n C dX7_season_4 rfl) (so_th (so_geti C fl_RX7_206 (by decide) dX7_season_5) (so_br (so_if_ne C dX7_season_8 (by decide)) (so_th (so_aload_n C dX7_season_17 rfl) (so_th (so_getr C fl_RX7_26 dX7_season_18) (so_th (so_bipush C dX7_season_21 (by decide)) (so_th (so_iald C dX7_season_23) (so_th (so_sipush C dX7_season_24 (by decide)) (so_br (so_icmp_ne C dX7_season_27 (by decide)) (so_th (so_aload_n C dX7_season_36 rfl) (so_th (so_cv C m_X7_note rfl k_785 k_787 k_786 k_788 k_475 ⟨by decide, by decide, by decide +kernel⟩ (by decide) dX7_season_37) (so_th (so_aload_n C dX7_season_40 rfl) (so_th (so_aload_n C dX7_season_41 rfl) (so_th (so_getr C fl_RX7_26 dX7_season_42) (so_th (so_bipush C dX7_season_45 (by decide)) (so_th (so_cv C m_X7_sumOf rfl k_682 k_684 k_683 k_685 k_475 ⟨by decide, by decide, by decide +kernel⟩ (by decide) dX7_season_47) (so_th (so_istore_n C dX7_season_50 rfl (by decide)) (so_th (so_aload_n C dX7_season_51 rfl) (so_th (so_aload_n C dX7_season_52 rfl) (so_th (so_getr C fl_RX7_26 dX7_season_53) (so_th (so_cv C m_X7_seasonAsTold rfl k_646 k_648 k_647 k_649 k_475 ⟨by decide, by decide, by decide +kernel⟩ (by decide) dX7_season_56) (so_th (so_pop C dX7_season_59) (so_th (so_aload_n C dX7_season_60 rfl) (so_th (so_aload_n C dX7_season_61 rfl) (so_th (so_getr C fl_RX7_26 dX7_season_62) (so_th (so_bipush C dX7_season_65 (by decide)) (so_th (so_cv C m_X7_sumOf rfl k_682 k_684 k_683 k_685 k_475 ⟨by decide, by decide, by decide +kernel⟩ (by decide) dX7_season_67) (so_th (so_iload_n C dX7_season_70 rfl) (so_th (so_isub C dX7_season_71) (so_ri C hr dX7_season_72))))))))))))))))))))) (so_th (so_aload_n C dX7_season_30 rfl) (so_th (so_iconst C dX7_season_31 (by decide)) (so_th (so_cv C m_X7_no rfl k_609 k_611 k_610 k_612 k_475 ⟨by decide, by decide, by decide +kernel⟩ (by decide) dX7_season_32) (so_ri C hr dX7_season_35)))))))))) (so_th (so_aload_n C dX7_season_11 rfl) (so_th (so_iconst C dX7_season_12 (by decide)) (so_th (so_cv C m_X7_no rfl k_609 k_611 k_610 k_612 k_475 ⟨by decide, by decide, by decide +kernel⟩ (by decide) dX7_season_13) (so_ri C hr dX7_season_16)))))))))
theorem m_X7_season : am_M yX7_season cX7_season 2 (some .int) 5 114 d_X7_season := am_M_of (by decide +kernel) b_X7_season
theorem dX7_undo_0 : decode cX7_undo 0 = .ok (.aload_n 0, 1) := by decide +kernel
theorem dX7_undo_1 : decode cX7_undo 1 = .ok (.invokevirtual 189, 3) := by decide +kernel
theorem dX7_undo_4 : decode cX7_undo 4 = .ok (.aload_n 0, 1) := by decide +kernel
theorem dX7_undo_5 : decode cX7_undo 5 = .ok (.getfield 209, 3) := by decide +kernel
theorem dX7_undo_8 : decode cX7_undo 8 = .ok (.ifCond .ne 10, 3) := by decide +kernel
theorem dX7_undo_11 : decode cX7_undo 11 = .ok (.aload_n 0, 1) := by decide +kernel
theorem dX7_undo_12 : decode cX7_undo 12 = .ok (.bipush 6, 2) := by decide +kernel
theorem dX7_undo_14 : decode cX7_undo 14 = .ok (.invokevirtual 449, 3) := by decide +kernel
theorem dX7_undo_17 : decode cX7_undo 17 = .ok (.ireturn, 1) := by decide +kernel
theorem dX7_undo_18 : decode cX7_undo 18 = .ok (.aload_n 0, 1) := by decide +kernel
theorem dX7_undo_19 : decode cX7_undo 19 = .ok (.dup, 1) := by decide +kernel
theorem dX7_undo_20 : decode cX7_undo 20 = .ok (.getfield 209, 3) := by decide +kernel
theorem dX7_undo_23 : decode cX7_undo 23 = .ok (.iconst 1, 1) := by decide +kernel
theorem dX7_undo_24 : decode cX7_undo 24 = .ok (.isub, 1) := by decide +kernel
theorem dX7_undo_25 : decode cX7_undo 25 = .ok (.putfield 209, 3) := by decide +kernel
theorem dX7_undo_28 : decode cX7_undo 28 = .ok (.aload_n 0, 1) := by decide +kernel
theorem dX7_undo_29 : decode cX7_undo 29 = .ok (.getfield 29, 3) := by decide +kernel
theorem dX7_undo_32 : decode cX7_undo 32 = .ok (.bipush 26, 2) := by decide +kernel
theorem dX7_undo_34 : decode cX7_undo 34 = .ok (.aload_n 0, 1) := by decide +kernel
theorem dX7_undo_35 : decode cX7_undo 35 = .ok (.getfield 209, 3) := by decide +kernel
theorem dX7_undo_38 : decode cX7_undo 38 = .ok (.imul, 1) := by decide +kernel
theorem dX7_undo_39 : decode cX7_undo 39 = .ok (.aload_n 0, 1) := by decide +kernel
theorem dX7_undo_40 : decode cX7_undo 40 = .ok (.getfield 26, 3) := by decide +kernel
theorem dX7_undo_43 : decode cX7_undo 43 = .ok (.iconst 0, 1) := by decide +kernel
theorem dX7_undo_44 : decode cX7_undo 44 = .ok (.bipush 26, 2) := by decide +kernel
theorem dX7_undo_46 : decode cX7_undo 46 = .ok (.invokestatic 198, 3) := by decide +kernel
theorem dX7_undo_49 : decode cX7_undo 49 = .ok (.iconst 1, 1) := by decide +kernel
theorem dX7_undo_50 : decode cX7_undo 50 = .ok (.ireturn, 1) := by decide +kernel
def f_X7_undo : am_F := am_th (i_al 0) (am_th (i_cv 7 0 d_X7_good) (am_th (i_al 0) (am_th (i_gi 7 20) (am_br (b_1 (fun x => decide (¬ x = 0))) (am_th (i_al 0) (am_th (i_dup) (am_th (i_gi 7 20) (am_th (i_ic (1)) (am_th (i_2 (fun x y => x - y)) (am_th (i_pi 7 20) (am_th (i_al 0) (am_th (i_gr 7 18) (am_th (i_ic (26)) (am_th (i_al 0) (am_th (i_gi 7 20) (am_th (i_2 (fun x y => x * y)) (am_th (i_al 0) (am_th (i_gr 7 17) (am_th (i_ic (0)) (am_th (i_ic (26)) (am_th (i_cs 5 d_X7_copy) (am_th (i_ic (1)) (r_z))))))))))))))))))) (am_th (i_al 0) (am_th (i_ic (6)) (am_th (i_cv 7 1 d_X7_isNot) (r_z))))))))
def d_X7_undo : am_D := am_den 1 f_X7_undo
set_option maxHeartbeats 4000000 in
set_option maxRecDepth 100000 in
theorem b_X7_undo : am_Body yX7_undo cX7_undo 1 (some .boolean) 1 25 f_X7_undo := by
  intro p l e R s m args below meth c g n0 z0 r0 u0 C hr hn
  have C : am_Cx p l e R s m args below meth c g RX7 cX7_undo 1 n0 z0 (am_len u0) (am_wt u0) 1 25 := C
  unfold f_X7_undo
  exact (so_th (so_aload_n C dX7_undo_0 rfl) (so_th (so_cv C m_X7_good rfl k_594 k_596 k_595 k_597 k_475 ⟨by decide, by decide, by decide +kernel⟩ (by decide) dX7_undo_1) (so_th (so_aload_n C dX7_undo_4 rfl) (so_th (so_geti C fl_RX7_209 (by decide) dX7_undo_5) (so_br (so_if_ne C dX7_undo_8 (by decide)) (so_th (so_aload_n C dX7_undo_18 rfl) (so_th (so_dup C dX7_undo_19) (so_th (so_geti C fl_RX7_209 (by decide) dX7_undo_20) (so_th (so_iconst C dX7_undo_23 (by decide)) (so_th (so_isub C dX7_undo_24) (so_th (so_puti C fl_RX7_209 fp_7 (Or.inl rfl) dX7_undo_25) (so_th (so_aload_n C dX7_undo_28 rfl) (so_th (so_getr C fl_RX7_29 dX7_undo_29) (so_th (so_bipush C dX7_undo_32 (by decide)) (so_th (so_aload_n C dX7_undo_34 rfl) (so_th (so_geti C fl_RX7_209 (by decide) dX7_undo_35) (so_th (so_imul C dX7_undo_38) (so_th (so_aload_n C dX7_undo_39 rfl) (so_th (so_getr C fl_RX7_26 dX7_undo_40) (so_th (so_iconst C dX7_undo_43 (by decide)) (so_th (so_bipush C dX7_undo_44 (by decide)) (so_th (so_cs C m_X7_copy k_602 k_604 k_603 k_475 ⟨by decide, by decide, by decide +kernel⟩ (by decide) dX7_undo_46) (so_th (so_iconst C dX7_undo_49 (by decide)) (so_rz C hr dX7_undo_50))))))))))))))))))) (so_th (so_aload_n C dX7_undo_11 rfl) (so_th (so_bipush C dX7_undo_12 (by decide)) (so_th (so_cv C m_X7_isNot rfl k_789 k_791 k_790 k_792 k_475 ⟨by decide, by decide, by decide +kernel⟩ (by decide) dX7_undo_14) (so_rz C hr dX7_undo_17)))))))))
theorem m_X7_undo : am_M yX7_undo cX7_undo 1 (some .boolean) 1 25 d_X7_undo := am_M_of (by decide +kernel) b_X7_undo
theorem dX7_image_0 : decode cX7_image 0 = .ok (.aload_n 0, 1) := by decide +kernel
theorem dX7_image_1 : decode cX7_image 1 = .ok (.invokevirtual 189, 3) := by decide +kernel
theorem dX7_image_4 : decode cX7_image 4 = .ok (.aload_n 0, 1) := by decide +kernel
theorem dX7_image_5 : decode cX7_image 5 = .ok (.getfield 206, 3) := by decide +kernel
theorem dX7_image_8 : decode cX7_image 8 = .ok (.ifCond .ne 9, 3) := by decide +kernel
theorem dX7_image_11 : decode cX7_image 11 = .ok (.aload_n 0, 1) := by decide +kernel
theorem dX7_image_12 : decode cX7_image 12 = .ok (.iconst 1, 1) := by decide +kernel
theorem dX7_image_13 : decode cX7_image 13 = .ok (.invokevirtual 192, 3) := by decide +kernel
theorem dX7_image_16 : decode cX7_image 16 = .ok (.ireturn, 1) := by decide +kernel
theorem dX7_image_17 : decode cX7_image 17 = .ok (.aload_n 0, 1) := by decide +kernel
theorem dX7_image_18 : decode cX7_image 18 = .ok (.getfield 212, 3) := by decide +kernel
theorem dX7_image_21 : decode cX7_image 21 = .ok (.iconst 3, 1) := by decide +kernel
theorem dX7_image_22 : decode cX7_image 22 = .ok (.if_icmp .ne 9, 3) := by decide +kernel
theorem dX7_image_25 : decode cX7_image 25 = .ok (.aload_n 0, 1) := by decide +kernel
theorem dX7_image_26 : decode cX7_image 26 = .ok (.iconst 3, 1) := by decide +kernel
theorem dX7_image_27 : decode cX7_image 27 = .ok (.invokevirtual 192, 3) := by decide +kernel
theorem dX7_image_30 : decode cX7_image 30 = .ok (.ireturn, 1) := by decide +kernel
theorem dX7_image_31 : decode cX7_image 31 = .ok (.aload_n 0, 1) := by decide +kernel
theorem dX7_image_32 : decode cX7_image 32 = .ok (.getfield 26, 3) := by decide +kernel
theorem dX7_image_35 : decode cX7_image 35 = .ok (.iconst 0, 1) := by decide +kernel
theorem dX7_image_36 : decode cX7_image 36 = .ok (.aload_n 0, 1) := by decide +kernel
theorem dX7_image_37 : decode cX7_image 37 = .ok (.getfield 32, 3) := by decide +kernel
theorem dX7_image_40 : decode cX7_image 40 = .ok (.bipush 26, 2) := by decide +kernel
theorem dX7_image_42 : decode cX7_image 42 = .ok (.aload_n 0, 1) := by decide +kernel
theorem dX7_image_43 : decode cX7_image 43 = .ok (.getfield 212, 3) := by decide +kernel
theorem dX7_image_46 : decode cX7_image 46 = .ok (.imul, 1) := by decide +kernel
theorem dX7_image_47 : decode cX7_image 47 = .ok (.bipush 26, 2) := by decide +kernel
theorem dX7_image_49 : decode cX7_image 49 = .ok (.invokestatic 198, 3) := by decide +kernel
theorem dX7_image_52 : decode cX7_image 52 = .ok (.aload_n 0, 1) := by decide +kernel
theorem dX7_image_53 : decode cX7_image 53 = .ok (.dup, 1) := by decide +kernel
theorem dX7_image_54 : decode cX7_image 54 = .ok (.getfield 212, 3) := by decide +kernel
theorem dX7_image_57 : decode cX7_image 57 = .ok (.iconst 1, 1) := by decide +kernel
theorem dX7_image_58 : decode cX7_image 58 = .ok (.iadd, 1) := by decide +kernel
theorem dX7_image_59 : decode cX7_image 59 = .ok (.putfield 212, 3) := by decide +kernel
theorem dX7_image_62 : decode cX7_image 62 = .ok (.aload_n 0, 1) := by decide +kernel
theorem dX7_image_63 : decode cX7_image 63 = .ok (.getfield 212, 3) := by decide +kernel
theorem dX7_image_66 : decode cX7_image 66 = .ok (.iconst 1, 1) := by decide +kernel
theorem dX7_image_67 : decode cX7_image 67 = .ok (.isub, 1) := by decide +kernel
theorem dX7_image_68 : decode cX7_image 68 = .ok (.ireturn, 1) := by decide +kernel
def f_X7_image : am_F := am_th (i_al 0) (am_th (i_cv 7 0 d_X7_good) (am_th (i_al 0) (am_th (i_gi 7 14) (am_br (b_1 (fun x => decide (¬ x = 0))) (am_th (i_al 0) (am_th (i_gi 7 21) (am_th (i_ic (3)) (am_br (b_2 (fun x y => decide (¬ x = y))) (am_th (i_al 0) (am_th (i_gr 7 17) (am_th (i_ic (0)) (am_th (i_al 0) (am_th (i_gr 7 19) (am_th (i_ic (26)) (am_th (i_al 0) (am_th (i_gi 7 21) (am_th (i_2 (fun x y => x * y)) (am_th (i_ic (26)) (am_th (i_cs 5 d_X7_copy) (am_th (i_al 0) (am_th (i_dup) (am_th (i_gi 7 21) (am_th (i_ic (1)) (am_th (i_2 (fun x y => x + y)) (am_th (i_pi 7 21) (am_th (i_al 0) (am_th (i_gi 7 21) (am_th (i_ic (1)) (am_th (i_2 (fun x y => x - y)) (r_i)))))))))))))))))))))) (am_th (i_al 0) (am_th (i_ic (3)) (am_th (i_cv 7 1 d_X7_no) (r_i)))))))) (am_th (i_al 0) (am_th (i_ic (1)) (am_th (i_cv 7 1 d_X7_no) (r_i))))))))
def d_X7_image : am_D := am_den 1 f_X7_image
set_option maxHeartbeats 4000000 in
set_option maxRecDepth 100000 in
theorem b_X7_image : am_Body yX7_image cX7_image 1 (some .int) 1 25 f_X7_image := by
  intro p l e R s m args below meth c g n0 z0 r0 u0 C hr hn
  have C : am_Cx p l e R s m args below meth c g RX7 cX7_image 1 n0 z0 (am_len u0) (am_wt u0) 1 25 := C
  unfold f_X7_image
  exact (so_th (so_aload_n C dX7_image_0 rfl) (so_th (so_cv C m_X7_good rfl k_594 k_596 k_595 k_597 k_475 ⟨by decide, by decide, by decide +kernel⟩ (by decide) dX7_image_1) (so_th (so_aload_n C dX7_image_4 rfl) (so_th (so_geti C fl_RX7_206 (by decide) dX7_image_5) (so_br (so_if_ne C dX7_image_8 (by decide)) (so_th (so_aload_n C dX7_image_17 rfl) (so_th (so_geti C fl_RX7_212 (by decide) dX7_image_18) (so_th (so_iconst C dX7_image_21 (by decide)) (so_br (so_icmp_ne C dX7_image_22 (by decide)) (so_th (so_aload_n C dX7_image_31 rfl) (so_th (so_getr C fl_RX7_26 dX7_image_32) (so_th (so_iconst C dX7_image_35 (by decide)) (so_th (so_aload_n C dX7_image_36 rfl) (so_th (so_getr C fl_RX7_32 dX7_image_37) (so_th (so_bipush C dX7_image_40 (by decide)) (so_th (so_aload_n C dX7_image_42 rfl) (so_th (so_geti C fl_RX7_212 (by decide) dX7_image_43) (so_th (so_imul C dX7_image_46) (so_th (so_bipush C dX7_image_47 (by decide)) (so_th (so_cs C m_X7_copy k_602 k_604 k_603 k_475 ⟨by decide, by decide, by decide +kernel⟩ (by decide) dX7_image_49) (so_th (so_aload_n C dX7_image_52 rfl) (so_th (so_dup C dX7_image_53) (so_th (so_geti C fl_RX7_212 (by decide) dX7_image_54) (so_th (so_iconst C dX7_image_57 (by decide)) (so_th (so_iadd C dX7_image_58) (so_th (so_puti C fl_RX7_212 fp_7 (Or.inl rfl) dX7_image_59) (so_th (so_aload_n C dX7_image_62 rfl) (so_th (so_geti C fl_RX7_212 (by decide) dX7_image_63) (so_th (so_iconst C dX7_image_66 (by decide)) (so_th (so_isub C dX7_image_67) (so_ri C hr dX7_image_68)))))))))))))))))))))) (so_th (so_aload_n C dX7_image_25 rfl) (so_th (so_iconst C dX7_image_26 (by decide)) (so_th (so_cv C m_X7_no rfl k_609 k_611 k_610 k_612 k_475 ⟨by decide, by decide, by decide +kernel⟩ (by decide) dX7_image_27) (so_ri C hr dX7_image_30)))))))) (so_th (so_aload_n C dX7_image_11 rfl) (so_th (so_iconst C dX7_image_12 (by decide)) (so_th (so_cv C m_X7_no rfl k_609 k_611 k_610 k_612 k_475 ⟨by decide, by decide, by decide +kernel⟩ (by decide) dX7_image_13) (so_ri C hr dX7_image_16)))))))))
theorem m_X7_image : am_M yX7_image cX7_image 1 (some .int) 1 25 d_X7_image := am_M_of (by decide +kernel) b_X7_image
theorem dX7_back_0 : decode cX7_back 0 = .ok (.aload_n 0, 1) := by decide +kernel
theorem dX7_back_1 : decode cX7_back 1 = .ok (.invokevirtual 189, 3) := by decide +kernel
theorem dX7_back_4 : decode cX7_back 4 = .ok (.iload_n 1, 1) := by decide +kernel
theorem dX7_back_5 : decode cX7_back 5 = .ok (.iconst 0, 1) := by decide +kernel
theorem dX7_back_6 : decode cX7_back 6 = .ok (.aload_n 0, 1) := by decide +kernel
theorem dX7_back_7 : decode cX7_back 7 = .ok (.getfield 212, 3) := by decide +kernel
theorem dX7_back_10 : decode cX7_back 10 = .ok (.iconst 1, 1) := by decide +kernel
theorem dX7_back_11 : decode cX7_back 11 = .ok (.isub, 1) := by decide +kernel
theorem dX7_back_12 : decode cX7_back 12 = .ok (.invokestatic 157, 3) := by decide +kernel
theorem dX7_back_15 : decode cX7_back 15 = .ok (.ifCond .ne 9, 3) := by decide +kernel
theorem dX7_back_18 : decode cX7_back 18 = .ok (.aload_n 0, 1) := by decide +kernel
theorem dX7_back_19 : decode cX7_back 19 = .ok (.iconst 1, 1) := by decide +kernel
theorem dX7_back_20 : decode cX7_back 20 = .ok (.invokevirtual 449, 3) := by decide +kernel
theorem dX7_back_23 : decode cX7_back 23 = .ok (.ireturn, 1) := by decide +kernel
theorem dX7_back_24 : decode cX7_back 24 = .ok (.aload_n 0, 1) := by decide +kernel
theorem dX7_back_25 : decode cX7_back 25 = .ok (.getfield 32, 3) := by decide +kernel
theorem dX7_back_28 : decode cX7_back 28 = .ok (.bipush 26, 2) := by decide +kernel
theorem dX7_back_30 : decode cX7_back 30 = .ok (.iload_n 1, 1) := by decide +kernel
theorem dX7_back_31 : decode cX7_back 31 = .ok (.imul, 1) := by decide +kernel
theorem dX7_back_32 : decode cX7_back 32 = .ok (.aload_n 0, 1) := by decide +kernel
theorem dX7_back_33 : decode cX7_back 33 = .ok (.getfield 26, 3) := by decide +kernel
theorem dX7_back_36 : decode cX7_back 36 = .ok (.iconst 0, 1) := by decide +kernel
theorem dX7_back_37 : decode cX7_back 37 = .ok (.bipush 26, 2) := by decide +kernel
theorem dX7_back_39 : decode cX7_back 39 = .ok (.invokestatic 198, 3) := by decide +kernel
theorem dX7_back_42 : decode cX7_back 42 = .ok (.aload_n 0, 1) := by decide +kernel
theorem dX7_back_43 : decode cX7_back 43 = .ok (.iconst 0, 1) := by decide +kernel
theorem dX7_back_44 : decode cX7_back 44 = .ok (.putfield 209, 3) := by decide +kernel
theorem dX7_back_47 : decode cX7_back 47 = .ok (.iconst 1, 1) := by decide +kernel
theorem dX7_back_48 : decode cX7_back 48 = .ok (.ireturn, 1) := by decide +kernel
def f_X7_back : am_F := am_th (i_al 0) (am_th (i_cv 7 0 d_X7_good) (am_th (i_il 1) (am_th (i_ic (0)) (am_th (i_al 0) (am_th (i_gi 7 21) (am_th (i_ic (1)) (am_th (i_2 (fun x y => x - y)) (am_th (i_cs 3 d_X7_in) (am_br (b_1 (fun x => decide (¬ x = 0))) (am_th (i_al 0) (am_th (i_gr 7 19) (am_th (i_ic (26)) (am_th (i_il 1) (am_th (i_2 (fun x y => x * y)) (am_th (i_al 0) (am_th (i_gr 7 17) (am_th (i_ic (0)) (am_th (i_ic (26)) (am_th (i_cs 5 d_X7_copy) (am_th (i_al 0) (am_th (i_ic (0)) (am_th (i_pi 7 20) (am_th (i_ic (1)) (r_z))))))))))))))) (am_th (i_al 0) (am_th (i_ic (1)) (am_th (i_cv 7 1 d_X7_isNot) (r_z)))))))))))))
def d_X7_back : am_D := am_den 2 f_X7_back
set_option maxHeartbeats 4000000 in
set_option maxRecDepth 100000 in
theorem b_X7_back : am_Body yX7_back cX7_back 2 (some .boolean) 1 25 f_X7_back := by
  intro p l e R s m args below meth c g n0 z0 r0 u0 C hr hn
  have C : am_Cx p l e R s m args below meth c g RX7 cX7_back 2 n0 z0 (am_len u0) (am_wt u0) 1 25 := C
  unfold f_X7_back
  exact (so_th (so_aload_n C dX7_back_0 rfl) (so_th (so_cv C m_X7_good rfl k_594 k_596 k_595 k_597 k_475 ⟨by decide, by decide, by decide +kernel⟩ (by decide) dX7_back_1) (so_th (so_iload_n C dX7_back_4 rfl) (so_th (so_iconst C dX7_back_5 (by decide)) (so_th (so_aload_n C dX7_back_6 rfl) (so_th (so_geti C fl_RX7_212 (by decide) dX7_back_7) (so_th (so_iconst C dX7_back_10 (by decide)) (so_th (so_isub C dX7_back_11) (so_th (so_cs C m_X7_in k_511 k_513 k_512 k_475 ⟨by decide, by decide, by decide +kernel⟩ (by decide) dX7_back_12) (so_br (so_if_ne C dX7_back_15 (by decide)) (so_th (so_aload_n C dX7_back_24 rfl) (so_th (so_getr C fl_RX7_32 dX7_back_25) (so_th (so_bipush C dX7_back_28 (by decide)) (so_th (so_iload_n C dX7_back_30 rfl) (so_th (so_imul C dX7_back_31) (so_th (so_aload_n C dX7_back_32 rfl) (so_th (so_getr C fl_RX7_26 dX7_back_33) (so_th (so_iconst C dX7_back_36 (by decide)) (so_th (so_bipush C dX7_back_37 (by decide)) (so_th (so_cs C m_X7_copy k_602 k_604 k_603 k_475 ⟨by decide, by decide, by decide +kernel⟩ (by decide) dX7_back_39) (so_th (so_aload_n C dX7_back_42 rfl) (so_th (so_iconst C dX7_back_43 (by decide)) (so_th (so_puti C fl_RX7_209 fp_7 (Or.inl rfl) dX7_back_44) (so_th (so_iconst C dX7_back_47 (by decide)) (so_rz C hr dX7_back_48))))))))))))))) (so_th (so_aload_n C dX7_back_18 rfl) (so_th (so_iconst C dX7_back_19 (by decide)) (so_th (so_cv C m_X7_isNot rfl k_789 k_791 k_790 k_792 k_475 ⟨by decide, by decide, by decide +kernel⟩ (by decide) dX7_back_20) (so_rz C hr dX7_back_23))))))))))))))
theorem m_X7_back : am_M yX7_back cX7_back 2 (some .boolean) 1 25 d_X7_back := am_M_of (by decide +kernel) b_X7_back
theorem dX7_led_0 : decode cX7_led 0 = .ok (.iconst 0, 1) := by decide +kernel
theorem dX7_led_1 : decode cX7_led 1 = .ok (.istore_n 2, 1) := by decide +kernel
theorem dX7_led_2 : decode cX7_led 2 = .ok (.iconst 0, 1) := by decide +kernel
theorem dX7_led_3 : decode cX7_led 3 = .ok (.istore_n 3, 1) := by decide +kernel
theorem dX7_led_4 : decode cX7_led 4 = .ok (.aload_n 0, 1) := by decide +kernel
theorem dX7_led_5 : decode cX7_led 5 = .ok (.getfield 206, 3) := by decide +kernel
theorem dX7_led_8 : decode cX7_led 8 = .ok (.ifCond .eq 58, 3) := by decide +kernel
theorem dX7_led_11 : decode cX7_led 11 = .ok (.iload_n 3, 1) := by decide +kernel
theorem dX7_led_12 : decode cX7_led 12 = .ok (.aload_n 0, 1) := by decide +kernel
theorem dX7_led_13 : decode cX7_led 13 = .ok (.getfield 20, 3) := by decide +kernel
theorem dX7_led_16 : decode cX7_led 16 = .ok (.bipush 7, 2) := by decide +kernel
theorem dX7_led_18 : decode cX7_led 18 = .ok (.iaload, 1) := by decide +kernel
theorem dX7_led_19 : decode cX7_led 19 = .ok (.if_icmp .ge 47, 3) := by decide +kernel
theorem dX7_led_22 : decode cX7_led 22 = .ok (.aload_n 0, 1) := by decide +kernel
theorem dX7_led_23 : decode cX7_led 23 = .ok (.getfield 26, 3) := by decide +kernel
theorem dX7_led_26 : decode cX7_led 26 = .ok (.iload_n 3, 1) := by decide +kernel
theorem dX7_led_27 : decode cX7_led 27 = .ok (.invokestatic 278, 3) := by decide +kernel
theorem dX7_led_30 : decode cX7_led 30 = .ok (.ifCond .eq 30, 3) := by decide +kernel
theorem dX7_led_33 : decode cX7_led 33 = .ok (.aload_n 0, 1) := by decide +kernel
theorem dX7_led_34 : decode cX7_led 34 = .ok (.getfield 26, 3) := by decide +kernel
theorem dX7_led_37 : decode cX7_led 37 = .ok (.iload_n 3, 1) := by decide +kernel
theorem dX7_led_38 : decode cX7_led 38 = .ok (.iaload, 1) := by decide +kernel
theorem dX7_led_39 : decode cX7_led 39 = .ok (.ifCond .le 6, 3) := by decide +kernel
theorem dX7_led_42 : decode cX7_led 42 = .ok (.goto 18, 3) := by decide +kernel
theorem dX7_led_45 : decode cX7_led 45 = .ok (.iload_n 2, 1) := by decide +kernel
theorem dX7_led_46 : decode cX7_led 46 = .ok (.iload_n 1, 1) := by decide +kernel
theorem dX7_led_47 : decode cX7_led 47 = .ok (.if_icmp .ne 10, 3) := by decide +kernel
theorem dX7_led_50 : decode cX7_led 50 = .ok (.aload_n 0, 1) := by decide +kernel
theorem dX7_led_51 : decode cX7_led 51 = .ok (.iconst 0, 1) := by decide +kernel
theorem dX7_led_52 : decode cX7_led 52 = .ok (.putfield 68, 3) := by decide +kernel
theorem dX7_led_55 : decode cX7_led 55 = .ok (.iload_n 3, 1) := by decide +kernel
theorem dX7_led_56 : decode cX7_led 56 = .ok (.ireturn, 1) := by decide +kernel
theorem dX7_led_57 : decode cX7_led 57 = .ok (.iinc 2 1, 3) := by decide +kernel
theorem dX7_led_60 : decode cX7_led 60 = .ok (.iinc 3 1, 3) := by decide +kernel
theorem dX7_led_63 : decode cX7_led 63 = .ok (.goto (-59), 3) := by decide +kernel
theorem dX7_led_66 : decode cX7_led 66 = .ok (.aload_n 0, 1) := by decide +kernel
theorem dX7_led_67 : decode cX7_led 67 = .ok (.iconst 1, 1) := by decide +kernel
theorem dX7_led_68 : decode cX7_led 68 = .ok (.putfield 68, 3) := by decide +kernel
theorem dX7_led_71 : decode cX7_led 71 = .ok (.iconst 0, 1) := by decide +kernel
theorem dX7_led_72 : decode cX7_led 72 = .ok (.ireturn, 1) := by decide +kernel
def f_X7_led_l4 : am_F := am_th (i_al 0) (am_th (i_gi 7 14) (am_br (b_1 (fun x => decide (x = 0))) (am_to 66) (am_th (i_il 3) (am_th (i_al 0) (am_th (i_gr 7 15) (am_th (i_ic (7)) (am_th (i_ia 0) (am_br (b_2 (fun x y => decide (y ≤ x))) (am_to 66) (am_th (i_al 0) (am_th (i_gr 7 17) (am_th (i_il 3) (am_th (i_cs 2 d_X7_stands) (am_sq 60 (am_br (b_1 (fun x => decide (x = 0))) (am_to 60) (am_th (i_al 0) (am_th (i_gr 7 17) (am_th (i_il 3) (am_th (i_ia 0) (am_br (b_1 (fun x => decide (x ≤ 0))) (am_th (i_il 2) (am_th (i_il 1) (am_br (b_2 (fun x y => decide (¬ x = y))) (am_th (i_inc 2 (1)) (am_to 60)) (am_th (i_al 0) (am_th (i_ic (0)) (am_th (i_pi 7 0) (am_th (i_il 3) (r_i)))))))) (am_to 60))))))) (am_th (i_inc 3 (1)) (am_to 4)))))))))))))))
def f_X7_led : am_F := am_th (i_ic (0)) (am_th (i_is 2) (am_th (i_ic (0)) (am_th (i_is 3) (am_sq 66 (am_lp 5000 4 f_X7_led_l4) (am_th (i_al 0) (am_th (i_ic (1)) (am_th (i_pi 7 0) (am_th (i_ic (0)) (r_i)))))))))
def d_X7_led : am_D := am_den 4 f_X7_led
set_option maxHeartbeats 4000000 in
set_option maxRecDepth 100000 in
theorem b_X7_led : am_Body yX7_led cX7_led 4 (some .int) 1 21 f_X7_led := by
  intro p l e R s m args below meth c g n0 z0 r0 u0 C hr hn
  have C : am_Cx p l e R s m args below meth c g RX7 cX7_led 4 n0 z0 (am_len u0) (am_wt u0) 1 21 := C
  have l4 : am_Snd (am_GM p l e R s m args below meth c g 4 n0 z0 r0 u0) (am_Rt r0 u0) 4 (f_X7_led_l4) := by
    unfold f_X7_led_l4
    exact (so_th (so_aload_n C dX7_led_4 rfl) (so_th (so_geti C fl_RX7_206 (by decide) dX7_led_5) (so_br (so_if_eq C dX7_led_8 (by decide)) (so_to) (so_th (so_iload_n C dX7_led_11 rfl) (so_th (so_aload_n C dX7_led_12 rfl) (so_th (so_getr C fl_RX7_20 dX7_led_13) (so_th (so_bipush C dX7_led_16 (by decide)) (so_th (so_iald C dX7_led_18) (so_br (so_icmp_ge C dX7_led_19 (by decide)) (so_to) (so_th (so_aload_n C dX7_led_22 rfl) (so_th (so_getr C fl_RX7_26 dX7_led_23) (so_th (so_iload_n C dX7_led_26 rfl) (so_th (so_cs C m_X7_stands k_613 k_615 k_614 k_475 ⟨by decide, by decide, by decide +kernel⟩ (by decide) dX7_led_27) (so_sq (so_br (so_if_eq C dX7_led_30 (by decide)) (so_to) (so_th (so_aload_n C dX7_led_33 rfl) (so_th (so_getr C fl_RX7_26 dX7_led_34) (so_th (so_iload_n C dX7_led_37 rfl) (so_th (so_iald C dX7_led_38) (so_br (so_if_le C dX7_led_39 (by decide)) (so_th (so_iload_n C dX7_led_45 rfl) (so_th (so_iload_n C dX7_led_46 rfl) (so_br (so_icmp_ne C dX7_led_47 (by decide)) (so_th (so_iinc C dX7_led_57 (by decide) (by decide)) (so_to)) (so_th (so_aload_n C dX7_led_50 rfl) (so_th (so_iconst C dX7_led_51 (by decide)) (so_th (so_puti C fl_RX7_68 fp_7 (Or.inl rfl) dX7_led_52) (so_th (so_iload_n C dX7_led_55 rfl) (so_ri C hr dX7_led_56)))))))) (so_goto C dX7_led_42 (by decide) (so_to)))))))) (so_th (so_iinc C dX7_led_60 (by decide) (by decide)) (so_goto C dX7_led_63 (by decide) (so_to)))))))))))))))))
  unfold f_X7_led
  exact (so_th (so_iconst C dX7_led_0 (by decide)) (so_th (so_istore_n C dX7_led_1 rfl (by decide)) (so_th (so_iconst C dX7_led_2 (by decide)) (so_th (so_istore_n C dX7_led_3 rfl (by decide)) (so_sq (so_lp l4 5000) (so_th (so_aload_n C dX7_led_66 rfl) (so_th (so_iconst C dX7_led_67 (by decide)) (so_th (so_puti C fl_RX7_68 fp_7 (Or.inl rfl) dX7_led_68) (so_th (so_iconst C dX7_led_71 (by decide)) (so_ri C hr dX7_led_72))))))))))
theorem m_X7_led : am_M yX7_led cX7_led 4 (some .int) 1 21 d_X7_led := am_M_of (by decide +kernel) b_X7_led
theorem dX7_size_0 : decode cX7_size 0 = .ok (.aload_n 0, 1) := by decide +kernel
theorem dX7_size_1 : decode cX7_size 1 = .ok (.iconst 0, 1) := by decide +kernel
theorem dX7_size_2 : decode cX7_size 2 = .ok (.putfield 68, 3) := by decide +kernel
theorem dX7_size_5 : decode cX7_size 5 = .ok (.iload_n 1, 1) := by decide +kernel
theorem dX7_size_6 : decode cX7_size 6 = .ok (.bipush 12, 2) := by decide +kernel
theorem dX7_size_8 : decode cX7_size 8 = .ok (.if_icmp .ne 8, 3) := by decide +kernel
theorem dX7_size_11 : decode cX7_size 11 = .ok (.aload_n 0, 1) := by decide +kernel
theorem dX7_size_12 : decode cX7_size 12 = .ok (.getfield 74, 3) := by decide +kernel
theorem dX7_size_15 : decode cX7_size 15 = .ok (.ireturn, 1) := by decide +kernel
theorem dX7_size_16 : decode cX7_size 16 = .ok (.aload_n 0, 1) := by decide +kernel
theorem dX7_size_17 : decode cX7_size 17 = .ok (.getfield 206, 3) := by decide +kernel
theorem dX7_size_20 : decode cX7_size 20 = .ok (.ifCond .ne 19, 3) := by decide +kernel
theorem dX7_size_23 : decode cX7_size 23 = .ok (.iload_n 1, 1) := by decide +kernel
theorem dX7_size_24 : decode cX7_size 24 = .ok (.iconst 0, 1) := by decide +kernel
theorem dX7_size_25 : decode cX7_size 25 = .ok (.bipush 11, 2) := by decide +kernel
theorem dX7_size_27 : decode cX7_size 27 = .ok (.invokestatic 157, 3) := by decide +kernel
theorem dX7_size_30 : decode cX7_size 30 = .ok (.ifCond .eq 7, 3) := by decide +kernel
theorem dX7_size_33 : decode cX7_size 33 = .ok (.iconst 0, 1) := by decide +kernel
theorem dX7_size_34 : decode cX7_size 34 = .ok (.goto 4, 3) := by decide +kernel
theorem dX7_size_37 : decode cX7_size 37 = .ok (.iconst (-1), 1) := by decide +kernel
theorem dX7_size_38 : decode cX7_size 38 = .ok (.ireturn, 1) := by decide +kernel
theorem dX7_size_39 : decode cX7_size 39 = .ok (.iload_n 1, 1) := by decide +kernel
theorem dX7_size_40 : decode cX7_size 40 = .ok (.tableswitch 152 0 11 #[64, 71, 78, 86, 94, 102, 110, 118, 126, 134, 142, 147], 64) := by decide +kernel
theorem dX7_size_104 : decode cX7_size 104 = .ok (.aload_n 0, 1) := by decide +kernel
theorem dX7_size_105 : decode cX7_size 105 = .ok (.getfield 20, 3) := by decide +kernel
theorem dX7_size_108 : decode cX7_size 108 = .ok (.iconst 0, 1) := by decide +kernel
theorem dX7_size_109 : decode cX7_size 109 = .ok (.iaload, 1) := by decide +kernel
theorem dX7_size_110 : decode cX7_size 110 = .ok (.ireturn, 1) := by decide +kernel
theorem dX7_size_111 : decode cX7_size 111 = .ok (.aload_n 0, 1) := by decide +kernel
theorem dX7_size_112 : decode cX7_size 112 = .ok (.getfield 20, 3) := by decide +kernel
theorem dX7_size_115 : decode cX7_size 115 = .ok (.iconst 1, 1) := by decide +kernel
theorem dX7_size_116 : decode cX7_size 116 = .ok (.iaload, 1) := by decide +kernel
theorem dX7_size_117 : decode cX7_size 117 = .ok (.ireturn, 1) := by decide +kernel
theorem dX7_size_118 : decode cX7_size 118 = .ok (.aload_n 0, 1) := by decide +kernel
theorem dX7_size_119 : decode cX7_size 119 = .ok (.getfield 20, 3) := by decide +kernel
theorem dX7_size_122 : decode cX7_size 122 = .ok (.bipush 6, 2) := by decide +kernel
theorem dX7_size_124 : decode cX7_size 124 = .ok (.iaload, 1) := by decide +kernel
theorem dX7_size_125 : decode cX7_size 125 = .ok (.ireturn, 1) := by decide +kernel
theorem dX7_size_126 : decode cX7_size 126 = .ok (.aload_n 0, 1) := by decide +kernel
theorem dX7_size_127 : decode cX7_size 127 = .ok (.getfield 20, 3) := by decide +kernel
theorem dX7_size_130 : decode cX7_size 130 = .ok (.bipush 7, 2) := by decide +kernel
theorem dX7_size_132 : decode cX7_size 132 = .ok (.iaload, 1) := by decide +kernel
theorem dX7_size_133 : decode cX7_size 133 = .ok (.ireturn, 1) := by decide +kernel
theorem dX7_size_134 : decode cX7_size 134 = .ok (.aload_n 0, 1) := by decide +kernel
theorem dX7_size_135 : decode cX7_size 135 = .ok (.getfield 20, 3) := by decide +kernel
theorem dX7_size_138 : decode cX7_size 138 = .ok (.bipush 8, 2) := by decide +kernel
theorem dX7_size_140 : decode cX7_size 140 = .ok (.iaload, 1) := by decide +kernel
theorem dX7_size_141 : decode cX7_size 141 = .ok (.ireturn, 1) := by decide +kernel
theorem dX7_size_142 : decode cX7_size 142 = .ok (.aload_n 0, 1) := by decide +kernel
theorem dX7_size_143 : decode cX7_size 143 = .ok (.getfield 20, 3) := by decide +kernel
theorem dX7_size_146 : decode cX7_size 146 = .ok (.bipush 9, 2) := by decide +kernel
theorem dX7_size_148 : decode cX7_size 148 = .ok (.iaload, 1) := by decide +kernel
theorem dX7_size_149 : decode cX7_size 149 = .ok (.ireturn, 1) := by decide +kernel
theorem dX7_size_150 : decode cX7_size 150 = .ok (.aload_n 0, 1) := by decide +kernel
theorem dX7_size_151 : decode cX7_size 151 = .ok (.getfield 20, 3) := by decide +kernel
theorem dX7_size_154 : decode cX7_size 154 = .ok (.bipush 10, 2) := by decide +kernel
theorem dX7_size_156 : decode cX7_size 156 = .ok (.iaload, 1) := by decide +kernel
theorem dX7_size_157 : decode cX7_size 157 = .ok (.ireturn, 1) := by decide +kernel
theorem dX7_size_158 : decode cX7_size 158 = .ok (.aload_n 0, 1) := by decide +kernel
theorem dX7_size_159 : decode cX7_size 159 = .ok (.getfield 20, 3) := by decide +kernel
theorem dX7_size_162 : decode cX7_size 162 = .ok (.bipush 11, 2) := by decide +kernel
theorem dX7_size_164 : decode cX7_size 164 = .ok (.iaload, 1) := by decide +kernel
theorem dX7_size_165 : decode cX7_size 165 = .ok (.ireturn, 1) := by decide +kernel
theorem dX7_size_166 : decode cX7_size 166 = .ok (.aload_n 0, 1) := by decide +kernel
theorem dX7_size_167 : decode cX7_size 167 = .ok (.getfield 26, 3) := by decide +kernel
theorem dX7_size_170 : decode cX7_size 170 = .ok (.bipush 24, 2) := by decide +kernel
theorem dX7_size_172 : decode cX7_size 172 = .ok (.iaload, 1) := by decide +kernel
theorem dX7_size_173 : decode cX7_size 173 = .ok (.ireturn, 1) := by decide +kernel
theorem dX7_size_174 : decode cX7_size 174 = .ok (.aload_n 0, 1) := by decide +kernel
theorem dX7_size_175 : decode cX7_size 175 = .ok (.getfield 26, 3) := by decide +kernel
theorem dX7_size_178 : decode cX7_size 178 = .ok (.bipush 25, 2) := by decide +kernel
theorem dX7_size_180 : decode cX7_size 180 = .ok (.iaload, 1) := by decide +kernel
theorem dX7_size_181 : decode cX7_size 181 = .ok (.ireturn, 1) := by decide +kernel
theorem dX7_size_182 : decode cX7_size 182 = .ok (.aload_n 0, 1) := by decide +kernel
theorem dX7_size_183 : decode cX7_size 183 = .ok (.getfield 209, 3) := by decide +kernel
theorem dX7_size_186 : decode cX7_size 186 = .ok (.ireturn, 1) := by decide +kernel
theorem dX7_size_187 : decode cX7_size 187 = .ok (.aload_n 0, 1) := by decide +kernel
theorem dX7_size_188 : decode cX7_size 188 = .ok (.getfield 212, 3) := by decide +kernel
theorem dX7_size_191 : decode cX7_size 191 = .ok (.ireturn, 1) := by decide +kernel
theorem dX7_size_192 : decode cX7_size 192 = .ok (.iconst (-1), 1) := by decide +kernel
theorem dX7_size_193 : decode cX7_size 193 = .ok (.ireturn, 1) := by decide +kernel
def f_X7_size : am_F := am_th (i_al 0) (am_th (i_ic (0)) (am_th (i_pi 7 0) (am_th (i_il 1) (am_th (i_ic (12)) (am_br (b_2 (fun x y => decide (¬ x = y))) (am_th (i_al 0) (am_th (i_gi 7 14) (am_br (b_1 (fun x => decide (¬ x = 0))) (am_th (i_il 1) (am_sw (0) [am_th (i_al 0) (am_th (i_gr 7 15) (am_th (i_ic (0)) (am_th (i_ia 0) (r_i)))), am_th (i_al 0) (am_th (i_gr 7 15) (am_th (i_ic (1)) (am_th (i_ia 0) (r_i)))), am_th (i_al 0) (am_th (i_gr 7 15) (am_th (i_ic (6)) (am_th (i_ia 0) (r_i)))), am_th (i_al 0) (am_th (i_gr 7 15) (am_th (i_ic (7)) (am_th (i_ia 0) (r_i)))), am_th (i_al 0) (am_th (i_gr 7 15) (am_th (i_ic (8)) (am_th (i_ia 0) (r_i)))), am_th (i_al 0) (am_th (i_gr 7 15) (am_th (i_ic (9)) (am_th (i_ia 0) (r_i)))), am_th (i_al 0) (am_th (i_gr 7 15) (am_th (i_ic (10)) (am_th (i_ia 0) (r_i)))), am_th (i_al 0) (am_th (i_gr 7 15) (am_th (i_ic (11)) (am_th (i_ia 0) (r_i)))), am_th (i_al 0) (am_th (i_gr 7 17) (am_th (i_ic (24)) (am_th (i_ia 0) (r_i)))), am_th (i_al 0) (am_th (i_gr 7 17) (am_th (i_ic (25)) (am_th (i_ia 0) (r_i)))), am_th (i_al 0) (am_th (i_gi 7 20) (r_i)), am_th (i_al 0) (am_th (i_gi 7 21) (r_i))] (am_th (i_ic (-1)) (r_i)))) (am_th (i_il 1) (am_th (i_ic (0)) (am_th (i_ic (11)) (am_th (i_cs 3 d_X7_in) (am_br (b_1 (fun x => decide (x = 0))) (am_th (i_ic (-1)) (r_i)) (am_th (i_ic (0)) (r_i)))))))))) (am_th (i_al 0) (am_th (i_gi 7 2) (r_i))))))))
def d_X7_size : am_D := am_den 2 f_X7_size
set_option maxHeartbeats 4000000 in
set_option maxRecDepth 100000 in
theorem b_X7_size : am_Body yX7_size cX7_size 2 (some .int) 1 22 f_X7_size := by
  intro p l e R s m args below meth c g n0 z0 r0 u0 C hr hn
  have C : am_Cx p l e R s m args below meth c g RX7 cX7_size 2 n0 z0 (am_len u0) (am_wt u0) 1 22 := C
  unfold f_X7_size
  exact (so_th (so_aload_n C dX7_size_0 rfl) (so_th (so_iconst C dX7_size_1 (by decide)) (so_th (so_puti C fl_RX7_68 fp_7 (Or.inl rfl) dX7_size_2) (so_th (so_iload_n C dX7_size_5 rfl) (so_th (so_bipush C dX7_size_6 (by decide)) (so_br (so_icmp_ne C dX7_size_8 (by decide)) (so_th (so_aload_n C dX7_size_16 rfl) (so_th (so_geti C fl_RX7_206 (by decide) dX7_size_17) (so_br (so_if_ne C dX7_size_20 (by decide)) (so_th (so_iload_n C dX7_size_39 rfl) (so_sw C dX7_size_40 rfl (by decide) (td := 192) (by decide) (so_th (so_iconst C dX7_size_192 (by decide)) (so_ri C hr dX7_size_193)) (fun k f hk => match k, hk with
      | 0, hk => ⟨(64), 104, rfl, by decide, (Option.some.inj hk) ▸ (so_th (so_aload_n C dX7_size_104 rfl) (so_th (so_getr C fl_RX7_20 dX7_size_105) (so_th (so_iconst C dX7_size_108 (by decide)) (so_th (so_iald C dX7_size_109) (so_ri C hr dX7_size_110)))))⟩
      | 1, hk => ⟨(71), 111, rfl, by decide, (Option.some.inj hk) ▸ (so_th (so_aload_n C dX7_size_111 rfl) (so_th (so_getr C fl_RX7_20 dX7_size_112) (so_th (so_iconst C dX7_size_115 (by decide)) (so_th (so_iald C dX7_size_116) (so_ri C hr dX7_size_117)))))⟩
      | 2, hk => ⟨(78), 118, rfl, by decide, (Option.some.inj hk) ▸ (so_th (so_aload_n C dX7_size_118 rfl) (so_th (so_getr C fl_RX7_20 dX7_size_119) (so_th (so_bipush C dX7_size_122 (by decide)) (so_th (so_iald C dX7_size_124) (so_ri C hr dX7_size_125)))))⟩
      | 3, hk => ⟨(86), 126, rfl, by decide, (Option.some.inj hk) ▸ (so_th (so_aload_n C dX7_size_126 rfl) (so_th (so_getr C fl_RX7_20 dX7_size_127) (so_th (so_bipush C dX7_size_130 (by decide)) (so_th (so_iald C dX7_size_132) (so_ri C hr dX7_size_133)))))⟩
      | 4, hk => ⟨(94), 134, rfl, by decide, (Option.some.inj hk) ▸ (so_th (so_aload_n C dX7_size_134 rfl) (so_th (so_getr C fl_RX7_20 dX7_size_135) (so_th (so_bipush C dX7_size_138 (by decide)) (so_th (so_iald C dX7_size_140) (so_ri C hr dX7_size_141)))))⟩
      | 5, hk => ⟨(102), 142, rfl, by decide, (Option.some.inj hk) ▸ (so_th (so_aload_n C dX7_size_142 rfl) (so_th (so_getr C fl_RX7_20 dX7_size_143) (so_th (so_bipush C dX7_size_146 (by decide)) (so_th (so_iald C dX7_size_148) (so_ri C hr dX7_size_149)))))⟩
      | 6, hk => ⟨(110), 150, rfl, by decide, (Option.some.inj hk) ▸ (so_th (so_aload_n C dX7_size_150 rfl) (so_th (so_getr C fl_RX7_20 dX7_size_151) (so_th (so_bipush C dX7_size_154 (by decide)) (so_th (so_iald C dX7_size_156) (so_ri C hr dX7_size_157)))))⟩
      | 7, hk => ⟨(118), 158, rfl, by decide, (Option.some.inj hk) ▸ (so_th (so_aload_n C dX7_size_158 rfl) (so_th (so_getr C fl_RX7_20 dX7_size_159) (so_th (so_bipush C dX7_size_162 (by decide)) (so_th (so_iald C dX7_size_164) (so_ri C hr dX7_size_165)))))⟩
      | 8, hk => ⟨(126), 166, rfl, by decide, (Option.some.inj hk) ▸ (so_th (so_aload_n C dX7_size_166 rfl) (so_th (so_getr C fl_RX7_26 dX7_size_167) (so_th (so_bipush C dX7_size_170 (by decide)) (so_th (so_iald C dX7_size_172) (so_ri C hr dX7_size_173)))))⟩
      | 9, hk => ⟨(134), 174, rfl, by decide, (Option.some.inj hk) ▸ (so_th (so_aload_n C dX7_size_174 rfl) (so_th (so_getr C fl_RX7_26 dX7_size_175) (so_th (so_bipush C dX7_size_178 (by decide)) (so_th (so_iald C dX7_size_180) (so_ri C hr dX7_size_181)))))⟩
      | 10, hk => ⟨(142), 182, rfl, by decide, (Option.some.inj hk) ▸ (so_th (so_aload_n C dX7_size_182 rfl) (so_th (so_geti C fl_RX7_209 (by decide) dX7_size_183) (so_ri C hr dX7_size_186)))⟩
      | 11, hk => ⟨(147), 187, rfl, by decide, (Option.some.inj hk) ▸ (so_th (so_aload_n C dX7_size_187 rfl) (so_th (so_geti C fl_RX7_212 (by decide) dX7_size_188) (so_ri C hr dX7_size_191)))⟩
      | k + 12, hk => by simp at hk))) (so_th (so_iload_n C dX7_size_23 rfl) (so_th (so_iconst C dX7_size_24 (by decide)) (so_th (so_bipush C dX7_size_25 (by decide)) (so_th (so_cs C m_X7_in k_511 k_513 k_512 k_475 ⟨by decide, by decide, by decide +kernel⟩ (by decide) dX7_size_27) (so_br (so_if_eq C dX7_size_30 (by decide)) (so_th (so_iconst C dX7_size_37 (by decide)) (so_ri C hr dX7_size_38)) (so_th (so_iconst C dX7_size_33 (by decide)) (so_goto C dX7_size_34 (by decide) (so_ri C hr dX7_size_38))))))))))) (so_th (so_aload_n C dX7_size_11 rfl) (so_th (so_geti C fl_RX7_74 (by decide) dX7_size_12) (so_ri C hr dX7_size_15)))))))))
theorem m_X7_size : am_M yX7_size cX7_size 2 (some .int) 1 22 d_X7_size := am_M_of (by decide +kernel) b_X7_size
theorem dX7_trouble_0 : decode cX7_trouble 0 = .ok (.aload_n 0, 1) := by decide +kernel
theorem dX7_trouble_1 : decode cX7_trouble 1 = .ok (.iconst 0, 1) := by decide +kernel
theorem dX7_trouble_2 : decode cX7_trouble 2 = .ok (.putfield 68, 3) := by decide +kernel
theorem dX7_trouble_5 : decode cX7_trouble 5 = .ok (.aload_n 0, 1) := by decide +kernel
theorem dX7_trouble_6 : decode cX7_trouble 6 = .ok (.getfield 71, 3) := by decide +kernel
theorem dX7_trouble_9 : decode cX7_trouble 9 = .ok (.ireturn, 1) := by decide +kernel
def f_X7_trouble : am_F := am_th (i_al 0) (am_th (i_ic (0)) (am_th (i_pi 7 0) (am_th (i_al 0) (am_th (i_gi 7 11) (r_i)))))
def d_X7_trouble : am_D := am_den 1 f_X7_trouble
set_option maxHeartbeats 4000000 in
set_option maxRecDepth 100000 in
theorem b_X7_trouble : am_Body yX7_trouble cX7_trouble 1 (some .int) 0 0 f_X7_trouble := by
  intro p l e R s m args below meth c g n0 z0 r0 u0 C hr hn
  have C : am_Cx p l e R s m args below meth c g RX7 cX7_trouble 1 n0 z0 (am_len u0) (am_wt u0) 0 0 := C
  unfold f_X7_trouble
  exact (so_th (so_aload_n C dX7_trouble_0 rfl) (so_th (so_iconst C dX7_trouble_1 (by decide)) (so_th (so_puti C fl_RX7_68 fp_7 (Or.inl rfl) dX7_trouble_2) (so_th (so_aload_n C dX7_trouble_5 rfl) (so_th (so_geti C fl_RX7_71 (by decide) dX7_trouble_6) (so_ri C hr dX7_trouble_9))))))
theorem m_X7_trouble : am_M yX7_trouble cX7_trouble 1 (some .int) 0 0 d_X7_trouble := am_M_of (by decide +kernel) b_X7_trouble
