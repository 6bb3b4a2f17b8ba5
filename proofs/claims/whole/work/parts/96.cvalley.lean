-- THE CLASS'S VALLEY
/-- what the call gives back -/
def CVal (u u2 : am_St) (t : Nat → Nat) (tv sv : Nat) (r : pR) (b : Int32) : Prop := u2.1 = u.1 ∧ u2.2.1 0 1 = 0 ∧ (∀ a, a ≠ 2 → a ≠ 3 → a ≠ 4 → u2.2.2.1 a = u.2.2.1 a) ∧ match r with
  | .inl q => (∀ a j, ¬ (a = 2 ∧ (j = 2 ∨ j = 4)) → u2.2.2.2 a j = u.2.2.2 a j) ∧ (∀ a, a ≠ 0 → a ≠ 2 → (a < sv ∨ sv + 9 < a) → u2.2.1 a = u.2.1 a) ∧ (∀ j, j ≠ 1 → j ≠ 16 → u2.2.1 0 j = u.2.1 0 j) ∧ b = -1 ∧ u2.2.1 0 16 = nI 4 ∧ u2.2.1 2 0 = nI q.1 ∧ u2.2.1 2 1 = nI q.2
  | .inr q => (∀ a j, ¬ (a = 2 ∧ (j = 2 ∨ j = 4)) → ¬ (a = 0 ∧ (j = 3 ∨ j = 4)) → u2.2.2.2 a j = u.2.2.2 a j) ∧ u2.2.2.2 0 3 = some sv ∧ u2.2.2.2 0 4 = some tv ∧ (∀ a, a ≠ 0 → a ≠ 2 → (a < sv ∨ sv + 9 < a) → (a < 25 ∨ 29 < a) → u2.2.1 a = u.2.1 a) ∧ (∀ j, j ≠ 1 → j ≠ 5 → j ≠ 9 → j ≠ 11 → j ≠ 14 → j ≠ 16 → u2.2.1 0 j = u.2.1 0 j) ∧ b = nI (v_Q q.1.1) ∧ (u2.2.1 0 5 = 1 ∧ u2.2.1 0 9 = 0 ∧ u2.2.1 0 11 = 0 ∧ u2.2.1 0 14 = 0 ∧ u2.2.1 0 16 = 0 ∧ u2.2.1 2 0 = 0) ∧ vl_at u2 sv q.1.1 ∧ gd_at u2 25 (s_plant q.1.1) ∧ PI t q.1.1 q.1.2.1 q.1.2.2.1 q.1.2.2.2 ∧ 0 < v_Q q.1.1
section
variable {u u0 u1 u2 u3 : am_St} {t : Nat → Nat} {n p i k tv : Nat} {V : vS} {G : gS} {hs : Bool}
theorem c_valley_2 {x : Int32} (hC : cl_ok u) (hk : u.2.1 0 1 = nI k) (hx : ¬ (0 ≤ x ∧ x ≤ nI k)) : d_X6_valley [.ref 0, .int x] u = some (some (.int (-1)), am_uI u 0 16 (nI 2)) := by
  have er := e_refuse (u := u) (x := nI 2) hC.1
  have k0 := hC.1
  by_cases c : x < 0
  · have cz : (x < 0) = True := eq_true c
    simp (disch := omega) only [d_X6_valley, f_X6_valley, ev_il0, ev_ll0, ev_al0, ev_il1, ev_ll1, ev_al1, ev_il2, ev_ll2, ev_al2, ev_il3, ev_ll3, ev_al3, ev_il4, ev_ll4, ev_al4, ev_il5, ev_ll5, ev_al5, ev_il6, ev_ll6, ev_al6, ev_il7, ev_ll7, ev_al7, ev_il8, ev_ll8, ev_al8, ev_il9, ev_ll9, ev_al9, ev_il10, ev_ll10, ev_al10, ev_il11, ev_ll11, ev_al11, ev_il12, ev_ll12, ev_al12, ev_il13, ev_ll13, ev_al13, ev_il14, ev_ll14, ev_al14, ev_il15, ev_ll15, ev_al15, ev_il16, ev_ll16, ev_al16, ev_il17, ev_ll17, ev_al17, ev_il18, ev_ll18, ev_al18, ev_il19, ev_ll19, ev_al19, am_k1_i, am_k1_r, am_k1_l, am_k1_n, ev_is0, ev_as0, ev_ls0, ev_inc0, ev_is1, ev_as1, ev_ls1, ev_inc1, ev_is2, ev_as2, ev_ls2, ev_inc2, ev_is3, ev_as3, ev_ls3, ev_inc3, ev_is4, ev_as4, ev_ls4, ev_inc4, ev_is5, ev_as5, ev_ls5, ev_inc5, ev_is6, ev_as6, ev_ls6, ev_inc6, ev_is7, ev_as7, ev_ls7, ev_inc7, ev_is8, ev_as8, ev_ls8, ev_inc8, ev_is9, ev_as9, ev_ls9, ev_inc9, ev_is10, ev_as10, ev_ls10, ev_inc10, ev_is11, ev_as11, ev_ls11, ev_inc11, ev_is12, ev_as12, ev_ls12, ev_inc12, ev_is13, ev_as13, ev_ls13, ev_inc13, ev_is14, ev_as14, ev_ls14, ev_inc14, ev_is15, ev_as15, ev_ls15, ev_inc15, ev_is16, ev_as16, ev_ls16, ev_inc16, ev_is17, ev_as17, ev_ls17, ev_inc17, ev_is18, ev_as18, ev_ls18, ev_inc18, ev_is19, ev_as19, ev_ls19, ev_inc19, ev_ic, ev_lc, ev_sg, ev_1, ev_2, ev_2n, ev_j2, ev_j2n, ev_cmp, ev_i2l, ev_dup_int, ev_pop_int, ev_dup_ref, ev_pop_ref, ev_dup2, am_sm_nil, am_sm_i, am_sm_r, am_sm_l, ev_oi, ev_mx, ev_gi, ev_gl, ev_gr, ev_pi, ev_pl, ev_pr, ev_pz, ev_ia, ev_la, ev_aa, ev_iS, ev_bS, ev_lS, ev_aS, am_ret_s, am_ret_n, ev_cs0, ev_cv0, ev_ct0, ev_cs1, ev_cv1, ev_ct1, ev_cs2, ev_cv2, ev_cs3, ev_cv3, ev_cs4, ev_cv4, ev_cs5, ev_cv5, ev_cs6, ev_to, ev_b1, ev_b2, ev_sq, am_jn_l, am_jn_r, am_jn_n, am_jn_if, ev_rv, ev_ri, ev_rl, ev_rz, am_fin_r, am_fin_n, am_fin_if, am_den_eq, am_ent_nil, am_ent_i, am_ent_r, am_ent_l, am_rf_s, am_rf_n, am_kd_I, am_kd_J, am_kd_R, am_sz_I, am_sz_J, am_sz_R, am_h_I, am_h_J, am_h_R, am_len_I, am_len_J, am_len_R, am_wt_I, am_wt_J, am_wt_R, am_II, am_IJ, am_IR, am_JI, am_JJ, am_JR, am_RI, am_RJ, am_RR, not_false_eq_true, not_true_eq_false, and_self, and_true, true_and, and_false, false_and, or_self, or_true, true_or, or_false, false_or, if_true, if_false, ↓reduceIte, ite_not, Nat.le_refl, Nat.zero_le, List.length_cons, List.length_nil, List.replicate, List.append_nil, List.cons_append, List.nil_append, Nat.reduceAdd, Nat.reduceSub, Nat.reduceLeDiff, Nat.reduceEqDiff, decide_eq_true_eq, decide_eq_false_iff_not, nx_neg, nx_le, nx_leI, nx_ltI, nx_eqI, am_clm, nI_1, nI_add, nx_b01, nx_b0, nx_b1, nx_pos, nx_le0, nx_ge0, nx_eq0, nx_em, nx_i10, nx_i01, nx_4, nx_12, nx_2, nx_6, nx_div, nx_rem, nx_rem2, nx_rem3, nx_mul, Nat.not_lt_zero, Nat.lt_irrefl, Nat.reduceLT, nz_0, nz_1, nz_00, nz_10, nz_a0, nz_0a, Nat.reduceMul, Nat.reduceDiv, Nat.reduceMod, nl_2, nl_3, nl_4, nl_5, nl_6, nl_8, nl_10, nl_11, nl_12, nl_16, nl_18, nl_20, nl_24, nl_25, nl_26, nl_30, nl_48, nl_60, nl_64, nl_75, nl_74, nl_99, nl_100, nl_112, nl_124, nl_200, nl_220, nl_255, nl_900, nl_999, nl_1000000, nl_65536, nl_65537, nl_7, nl_9, nl_14, nl_13, nl_15, nl_17, nl_19, nl_21, nl_22, nl_23, nl_27, nl_32, nl_40, nl_50, nl_57, nl_97, nl_108, nl_122, k0, cz, er]
  · have cz : (x < 0) = False := eq_false c
    have c2 : (x ≤ nI k) = False := eq_false (fun q => hx ⟨Int32.not_lt.mp c, q⟩)
    simp (disch := omega) only [d_X6_valley, f_X6_valley, ev_il0, ev_ll0, ev_al0, ev_il1, ev_ll1, ev_al1, ev_il2, ev_ll2, ev_al2, ev_il3, ev_ll3, ev_al3, ev_il4, ev_ll4, ev_al4, ev_il5, ev_ll5, ev_al5, ev_il6, ev_ll6, ev_al6, ev_il7, ev_ll7, ev_al7, ev_il8, ev_ll8, ev_al8, ev_il9, ev_ll9, ev_al9, ev_il10, ev_ll10, ev_al10, ev_il11, ev_ll11, ev_al11, ev_il12, ev_ll12, ev_al12, ev_il13, ev_ll13, ev_al13, ev_il14, ev_ll14, ev_al14, ev_il15, ev_ll15, ev_al15, ev_il16, ev_ll16, ev_al16, ev_il17, ev_ll17, ev_al17, ev_il18, ev_ll18, ev_al18, ev_il19, ev_ll19, ev_al19, am_k1_i, am_k1_r, am_k1_l, am_k1_n, ev_is0, ev_as0, ev_ls0, ev_inc0, ev_is1, ev_as1, ev_ls1, ev_inc1, ev_is2, ev_as2, ev_ls2, ev_inc2, ev_is3, ev_as3, ev_ls3, ev_inc3, ev_is4, ev_as4, ev_ls4, ev_inc4, ev_is5, ev_as5, ev_ls5, ev_inc5, ev_is6, ev_as6, ev_ls6, ev_inc6, ev_is7, ev_as7, ev_ls7, ev_inc7, ev_is8, ev_as8, ev_ls8, ev_inc8, ev_is9, ev_as9, ev_ls9, ev_inc9, ev_is10, ev_as10, ev_ls10, ev_inc10, ev_is11, ev_as11, ev_ls11, ev_inc11, ev_is12, ev_as12, ev_ls12, ev_inc12, ev_is13, ev_as13, ev_ls13, ev_inc13, ev_is14, ev_as14, ev_ls14, ev_inc14, ev_is15, ev_as15, ev_ls15, ev_inc15, ev_is16, ev_as16, ev_ls16, ev_inc16, ev_is17, ev_as17, ev_ls17, ev_inc17, ev_is18, ev_as18, ev_ls18, ev_inc18, ev_is19, ev_as19, ev_ls19, ev_inc19, ev_ic, ev_lc, ev_sg, ev_1, ev_2, ev_2n, ev_j2, ev_j2n, ev_cmp, ev_i2l, ev_dup_int, ev_pop_int, ev_dup_ref, ev_pop_ref, ev_dup2, am_sm_nil, am_sm_i, am_sm_r, am_sm_l, ev_oi, ev_mx, ev_gi, ev_gl, ev_gr, ev_pi, ev_pl, ev_pr, ev_pz, ev_ia, ev_la, ev_aa, ev_iS, ev_bS, ev_lS, ev_aS, am_ret_s, am_ret_n, ev_cs0, ev_cv0, ev_ct0, ev_cs1, ev_cv1, ev_ct1, ev_cs2, ev_cv2, ev_cs3, ev_cv3, ev_cs4, ev_cv4, ev_cs5, ev_cv5, ev_cs6, ev_to, ev_b1, ev_b2, ev_sq, am_jn_l, am_jn_r, am_jn_n, am_jn_if, ev_rv, ev_ri, ev_rl, ev_rz, am_fin_r, am_fin_n, am_fin_if, am_den_eq, am_ent_nil, am_ent_i, am_ent_r, am_ent_l, am_rf_s, am_rf_n, am_kd_I, am_kd_J, am_kd_R, am_sz_I, am_sz_J, am_sz_R, am_h_I, am_h_J, am_h_R, am_len_I, am_len_J, am_len_R, am_wt_I, am_wt_J, am_wt_R, am_II, am_IJ, am_IR, am_JI, am_JJ, am_JR, am_RI, am_RJ, am_RR, not_false_eq_true, not_true_eq_false, and_self, and_true, true_and, and_false, false_and, or_self, or_true, true_or, or_false, false_or, if_true, if_false, ↓reduceIte, ite_not, Nat.le_refl, Nat.zero_le, List.length_cons, List.length_nil, List.replicate, List.append_nil, List.cons_append, List.nil_append, Nat.reduceAdd, Nat.reduceSub, Nat.reduceLeDiff, Nat.reduceEqDiff, decide_eq_true_eq, decide_eq_false_iff_not, nx_neg, nx_le, nx_leI, nx_ltI, nx_eqI, am_clm, nI_1, nI_add, nx_b01, nx_b0, nx_b1, nx_pos, nx_le0, nx_ge0, nx_eq0, nx_em, nx_i10, nx_i01, nx_4, nx_12, nx_2, nx_6, nx_div, nx_rem, nx_rem2, nx_rem3, nx_mul, Nat.not_lt_zero, Nat.lt_irrefl, Nat.reduceLT, nz_0, nz_1, nz_00, nz_10, nz_a0, nz_0a, Nat.reduceMul, Nat.reduceDiv, Nat.reduceMod, nl_2, nl_3, nl_4, nl_5, nl_6, nl_8, nl_10, nl_11, nl_12, nl_16, nl_18, nl_20, nl_24, nl_25, nl_26, nl_30, nl_48, nl_60, nl_64, nl_75, nl_74, nl_99, nl_100, nl_112, nl_124, nl_200, nl_220, nl_255, nl_900, nl_999, nl_1000000, nl_65536, nl_65537, nl_7, nl_9, nl_14, nl_13, nl_15, nl_17, nl_19, nl_21, nl_22, nl_23, nl_27, nl_32, nl_40, nl_50, nl_57, nl_97, nl_108, nl_122, k0, cz, c2, hk, er]
theorem c_valley (hW : CW u hs tv V G) (h4 : u.2.2.2 0 4 = some (20 - tv)) (hvs : vl_ok u (20 - tv)) (hk : u.2.1 0 1 = nI k) (hnk : n ≤ k) (hk9 : k ≤ 900) (ht1 : ∀ j, j < n → u.2.1 1 j = cbt (t j)) (ht2 : ∀ j, t j < 256) : ∃ u2 b V0, Z0 V0 E0 ∧ d_X6_valley [.ref 0, .int (nI n)] u = some (some (.int b), u2) ∧ CVal u u2 t tv (20 - tv) (pl_all t n V0 E0 nm0 nm0) b := by
  obtain ⟨hC, h3, htv, h5, ⟨g25, -, -, -⟩, -⟩ := hW
  have hC0 := hC
  have hsv : 20 - tv = 5 ∨ 20 - tv = 15 := by omega
  generalize hsvd : 20 - tv = sv at *
  obtain ⟨u2, b, V0, hZ, e1, F, RR⟩ := e_readValley (u := am_uI u 0 1 0) (sv := sv) (n := n) (t := t) (cl_r (u := u) rfl (fun _ _ _ => rfl) hC) (vok_r (u := u) rfl rfl hvs) hsv (by omega) (fun j hj => by rw [uI_o (by omega)]; exact ht1 j hj) ht2
  obtain ⟨f1, f2, f3, f4⟩ := F
  obtain ⟨hk2, hz2, l2, w2⟩ := sk f1
  obtain ⟨ck0, ck1, ck2, ck3, ck4, ck35, ck36, ck37, ck38, ck39, ck40, ck41, ck42, ck43, ck44, ck45, ck46, ck47, ck48, ck49, ck60, cz1, cz3, cz4, cz35, cz36, cz38, cz39, cz40, cz41, cz42, cz44, cz45, cz46, cz47, cz48, cz60, cr0_0, cr0_2, cr0_6, cr0_7, cr0_8, cr0_10, cr0_12, cr0_13, cr0_15, cr2_12, cr2_13, cr36_0, cr36_1, cr36_2, cr37_3, cr37_4, cr37_5, cr37_6, cr37_7, cr43_0, cr43_1, cr43_2, cr43_3, cr43_9, cr49_0, cr49_1, cr49_2⟩ := hC
  have q03 : u2.2.2.2 0 3 = some tv := (f2 0 3 (by omega)).trans h3
  have q04 : u2.2.2.2 0 4 = some sv := (f2 0 4 (by omega)).trans h4
  have q06 : u2.2.2.2 0 6 = some 25 := (f2 0 6 (by omega)).trans cr0_6
  have kv : am_kd u sv = some 9 := hvs.1
  have kg : am_kd u 25 = some 6 := g25.1
  have k0 : am_kd u2 0 = some 10 := by rw [hk2]; exact ck0
  refine (?_ : ∃ u3 b3, d_X6_valley [.ref 0, .int (nI n)] u = some (some (.int b3), u3) ∧ CVal u u3 t tv sv (pl_all t n V0 E0 nm0 nm0) b3).elim (fun u3 h => h.elim (fun b3 h => ⟨u3, b3, V0, hZ, h⟩))
  cases hr : pl_all t n V0 E0 nm0 nm0 with
  | inl q =>
    rw [hr] at RR
    obtain ⟨rfl, r1, r2⟩ := RR
    have er := e_refuse (u := u2) (x := nI 4) k0
    refine ⟨am_uI u2 0 16 (nI 4), -1, ?_, f1, ?_, fun a b1 b2 b3 => f4 a b1 b2 b3, f2, fun a b1 b2 b3 => ?_, fun j b1 b2 => ?_, rfl, uI_s, ?_, ?_⟩
    · simp (disch := omega) only [d_X6_valley, f_X6_valley, ev_il0, ev_ll0, ev_al0, ev_il1, ev_ll1, ev_al1, ev_il2, ev_ll2, ev_al2, ev_il3, ev_ll3, ev_al3, ev_il4, ev_ll4, ev_al4, ev_il5, ev_ll5, ev_al5, ev_il6, ev_ll6, ev_al6, ev_il7, ev_ll7, ev_al7, ev_il8, ev_ll8, ev_al8, ev_il9, ev_ll9, ev_al9, ev_il10, ev_ll10, ev_al10, ev_il11, ev_ll11, ev_al11, ev_il12, ev_ll12, ev_al12, ev_il13, ev_ll13, ev_al13, ev_il14, ev_ll14, ev_al14, ev_il15, ev_ll15, ev_al15, ev_il16, ev_ll16, ev_al16, ev_il17, ev_ll17, ev_al17, ev_il18, ev_ll18, ev_al18, ev_il19, ev_ll19, ev_al19, am_k1_i, am_k1_r, am_k1_l, am_k1_n, ev_is0, ev_as0, ev_ls0, ev_inc0, ev_is1, ev_as1, ev_ls1, ev_inc1, ev_is2, ev_as2, ev_ls2, ev_inc2, ev_is3, ev_as3, ev_ls3, ev_inc3, ev_is4, ev_as4, ev_ls4, ev_inc4, ev_is5, ev_as5, ev_ls5, ev_inc5, ev_is6, ev_as6, ev_ls6, ev_inc6, ev_is7, ev_as7, ev_ls7, ev_inc7, ev_is8, ev_as8, ev_ls8, ev_inc8, ev_is9, ev_as9, ev_ls9, ev_inc9, ev_is10, ev_as10, ev_ls10, ev_inc10, ev_is11, ev_as11, ev_ls11, ev_inc11, ev_is12, ev_as12, ev_ls12, ev_inc12, ev_is13, ev_as13, ev_ls13, ev_inc13, ev_is14, ev_as14, ev_ls14, ev_inc14, ev_is15, ev_as15, ev_ls15, ev_inc15, ev_is16, ev_as16, ev_ls16, ev_inc16, ev_is17, ev_as17, ev_ls17, ev_inc17, ev_is18, ev_as18, ev_ls18, ev_inc18, ev_is19, ev_as19, ev_ls19, ev_inc19, ev_ic, ev_lc, ev_sg, ev_1, ev_2, ev_2n, ev_j2, ev_j2n, ev_cmp, ev_i2l, ev_dup_int, ev_pop_int, ev_dup_ref, ev_pop_ref, ev_dup2, am_sm_nil, am_sm_i, am_sm_r, am_sm_l, ev_oi, ev_mx, ev_gi, ev_gl, ev_gr, ev_pi, ev_pl, ev_pr, ev_pz, ev_ia, ev_la, ev_aa, ev_iS, ev_bS, ev_lS, ev_aS, am_ret_s, am_ret_n, ev_cs0, ev_cv0, ev_ct0, ev_cs1, ev_cv1, ev_ct1, ev_cs2, ev_cv2, ev_cs3, ev_cv3, ev_cs4, ev_cv4, ev_cs5, ev_cv5, ev_cs6, ev_to, ev_b1, ev_b2, ev_sq, am_jn_l, am_jn_r, am_jn_n, am_jn_if, ev_rv, ev_ri, ev_rl, ev_rz, am_fin_r, am_fin_n, am_fin_if, am_den_eq, am_ent_nil, am_ent_i, am_ent_r, am_ent_l, am_rf_s, am_rf_n, am_kd_I, am_kd_J, am_kd_R, am_sz_I, am_sz_J, am_sz_R, am_h_I, am_h_J, am_h_R, am_len_I, am_len_J, am_len_R, am_wt_I, am_wt_J, am_wt_R, am_II, am_IJ, am_IR, am_JI, am_JJ, am_JR, am_RI, am_RJ, am_RR, not_false_eq_true, not_true_eq_false, and_self, and_true, true_and, and_false, false_and, or_self, or_true, true_or, or_false, false_or, if_true, if_false, ↓reduceIte, ite_not, Nat.le_refl, Nat.zero_le, List.length_cons, List.length_nil, List.replicate, List.append_nil, List.cons_append, List.nil_append, Nat.reduceAdd, Nat.reduceSub, Nat.reduceLeDiff, Nat.reduceEqDiff, decide_eq_true_eq, decide_eq_false_iff_not, nx_neg, nx_le, nx_leI, nx_ltI, nx_eqI, am_clm, nI_1, nI_add, nx_b01, nx_b0, nx_b1, nx_pos, nx_le0, nx_ge0, nx_eq0, nx_em, nx_i10, nx_i01, nx_4, nx_12, nx_2, nx_6, nx_div, nx_rem, nx_rem2, nx_rem3, nx_mul, Nat.not_lt_zero, Nat.lt_irrefl, Nat.reduceLT, nz_0, nz_1, nz_00, nz_10, nz_a0, nz_0a, Nat.reduceMul, Nat.reduceDiv, Nat.reduceMod, nl_2, nl_3, nl_4, nl_5, nl_6, nl_8, nl_10, nl_11, nl_12, nl_16, nl_18, nl_20, nl_24, nl_25, nl_26, nl_30, nl_48, nl_60, nl_64, nl_75, nl_74, nl_99, nl_100, nl_112, nl_124, nl_200, nl_220, nl_255, nl_900, nl_999, nl_1000000, nl_65536, nl_65537, nl_7, nl_9, nl_14, nl_13, nl_15, nl_17, nl_19, nl_21, nl_22, nl_23, nl_27, nl_32, nl_40, nl_50, nl_57, nl_97, nl_108, nl_122, ck0, ck1, ck2, ck3, ck4, ck35, ck36, ck37, ck38, ck39, ck40, ck41, ck42, ck43, ck44, ck45, ck46, ck47, ck48, ck49, ck60, cz1, cz3, cz4, cz35, cz36, cz38, cz39, cz40, cz41, cz42, cz44, cz45, cz46, cz47, cz48, cz60, cr0_0, cr0_2, cr0_6, cr0_7, cr0_8, cr0_10, cr0_12, cr0_13, cr0_15, cr2_12, cr2_13, cr36_0, cr36_1, cr36_2, cr37_3, cr37_4, cr37_5, cr37_6, cr37_7, cr43_0, cr43_1, cr43_2, cr43_3, cr43_9, cr49_0, cr49_1, cr49_2, hk, hnk, h3, h4, e1, hk2, hz2, l2, w2, er]
    · rw [uI_n (by omega), f3 0 (by omega) (by omega), uI_s]
    · rw [uI_o b1, f3 a b2 b3, uI_o b1]
    · rw [uI_n b2, f3 0 (by omega) (by omega), uI_n b1]
    · rw [uI_o (by omega)]; exact r1
    · rw [uI_o (by omega)]; exact r2
  | inr q =>
    rw [hr] at RR
    obtain ⟨rfl, r1, r2, r3, r4⟩ := RR
    have hQ := vp_Q r3.1
    -- the two valleys change places
    have a1 : (am_uI (am_uR (am_uR u2 0 3 (some sv)) 0 4 (some tv)) 0 5 1).1 = u2.1 := rfl
    have a2 : ∀ a j, ¬ (a = 0 ∧ (j = 3 ∨ j = 4)) → (am_uI (am_uR (am_uR u2 0 3 (some sv)) 0 4 (some tv)) 0 5 1).2.2.2 a j = u2.2.2.2 a j := fun a j h => by
      show (am_uR (am_uR u2 0 3 (some sv)) 0 4 (some tv)).2.2.2 a j = _
      rw [am_RR, if_neg (fun q => h ⟨q.1, Or.inr q.2⟩), am_RR, if_neg (fun q => h ⟨q.1, Or.inl q.2⟩)]
    have a3 : (am_uI (am_uR (am_uR u2 0 3 (some sv)) 0 4 (some tv)) 0 5 1).2.2.2 0 3 = some sv := by
      show (am_uR (am_uR u2 0 3 (some sv)) 0 4 (some tv)).2.2.2 0 3 = _
      rw [am_RR, if_neg (by omega), am_RR, if_pos ⟨rfl, rfl⟩]
    have a4 : (am_uI (am_uR (am_uR u2 0 3 (some sv)) 0 4 (some tv)) 0 5 1).2.2.2 0 4 = some tv := by
      show (am_uR (am_uR u2 0 3 (some sv)) 0 4 (some tv)).2.2.2 0 4 = _
      rw [am_RR, if_pos ⟨rfl, rfl⟩]
    have a5 : ∀ a, a ≠ 0 → (am_uI (am_uR (am_uR u2 0 3 (some sv)) 0 4 (some tv)) 0 5 1).2.1 a = u2.2.1 a := fun a ha => uI_o ha
    have a6 : ∀ j, j ≠ 5 → (am_uI (am_uR (am_uR u2 0 3 (some sv)) 0 4 (some tv)) 0 5 1).2.1 0 j = u2.2.1 0 j := fun j hj => uI_n hj
    have a7 : (am_uI (am_uR (am_uR u2 0 3 (some sv)) 0 4 (some tv)) 0 5 1).2.1 0 5 = 1 := uI_s
    have a8 : (am_uI (am_uR (am_uR u2 0 3 (some sv)) 0 4 (some tv)) 0 5 1).2.2.1 = u2.2.2.1 := rfl
    have x0 : d_X6_valley [.ref 0, .int (nI n)] u = d_X6_valley [.ref 0, .int (nI n)] u := rfl
    have g25' : gd_ok (am_uI (am_uR (am_uR u2 0 3 (some sv)) 0 4 (some tv)) 0 5 1) 25 := gok_r (u := u) (a1.trans f1) (by funext j; rw [a2 25 j (by omega), f2 25 j (by omega)]; rfl) g25
    have hv' : vl_at (am_uI (am_uR (am_uR u2 0 3 (some sv)) 0 4 (some tv)) 0 5 1) sv q.1.1 := vl_r (u := u2) a1 (by funext j; exact a2 sv j (by omega)) (fun a b1 b2 => a5 a (by omega)) r2
    have ep := e_plant2 (g := 25) g25' hv' hQ (by omega)
    generalize hu3 : am_uI (am_uR (am_uR u2 0 3 (some sv)) 0 4 (some tv)) 0 5 1 = u3 at *
    obtain ⟨hk3, hz3, l3, w3⟩ := sk a1
    have gp1 : (gput u3 25 (s_plant q.1.1)).1 = u3.1 := rfl
    have gp2 : (gput u3 25 (s_plant q.1.1)).2.2 = u3.2.2 := rfl
    have gp3 : ∀ a, (a < 25 ∨ 29 < a) → (gput u3 25 (s_plant q.1.1)).2.1 a = u3.2.1 a := fun a ha => gp_o (by omega)
    have gp4 : gd_at (gput u3 25 (s_plant q.1.1)) 25 (s_plant q.1.1) := gp_at g25'
    generalize gput u3 25 (s_plant q.1.1) = u4 at *
    obtain ⟨hk4, hz4, l4, w4⟩ := sk gp1
    have p03 : u4.2.2.2 0 3 = some sv := by rw [gp2]; exact a3
    have pQ : u4.2.1 sv 3 = nI (v_Q q.1.1) := by rw [gp3 sv (by omega)]; exact hv'.2.1.2.2.2.1
    have k4 : am_kd u4 0 = some 10 := by rw [hk4, hk3]; exact k0
    have er := e_answer (u := am_uI (am_uI (am_uI u4 0 9 0) 0 11 0) 0 14 0) (x := nI (v_Q q.1.1)) k4
    have q06' : u3.2.2.2 0 6 = some 25 := (a2 0 6 (by omega)).trans q06
    have o0 : sv ≠ 0 := by omega
    refine ⟨am_uI (am_uI (am_uI (am_uI u4 0 9 0) 0 11 0) 0 14 0) 0 16 0, nI (v_Q q.1.1), ?_, (gp1.trans a1).trans f1, ?_, fun a b1 b2 b3 => ?_, fun a j b1 b2 => ?_, ?_, ?_, fun a b1 b2 b3 b4 => ?_, fun j b1 b2 b3 b4 b5 b6 => ?_, rfl, ⟨?_, ?_, ?_, ?_, uI_s, ?_⟩, ?_, ?_, r3, r4⟩
    · sorry
    · rw [uI_n (by omega), uI_n (by omega), uI_n (by omega), uI_n (by omega), gp3 0 (by omega), a6 1 (by omega), f3 0 (by omega) (by omega), uI_s]
    · show u4.2.2.1 a = _
      rw [gp2, a8, f4 a b1 b2 b3]; rfl
    · show u4.2.2.2 a j = _
      rw [gp2, a2 a j b2, f2 a j b1]; rfl
    · show u4.2.2.2 0 3 = _
      exact p03
    · show u4.2.2.2 0 4 = _
      rw [gp2]; exact a4
    · rw [uI_o b1, uI_o b1, uI_o b1, uI_o b1, gp3 a b4, a5 a b1, f3 a b2 b3, uI_o b1]
    · rw [uI_n b6, uI_n b5, uI_n b4, uI_n b3, gp3 0 (by omega), a6 j b2, f3 0 (by omega) (by omega), uI_n b1]
    · rw [uI_n (by omega), uI_n (by omega), uI_n (by omega), uI_n (by omega), gp3 0 (by omega)]; exact a7
    · rw [uI_n (by omega), uI_n (by omega), uI_n (by omega), uI_s]
    · rw [uI_n (by omega), uI_n (by omega), uI_s]
    · rw [uI_n (by omega), uI_s]
    · rw [uI_o (by omega), uI_o (by omega), uI_o (by omega), uI_o (by omega), gp3 2 (by omega), a5 2 (by omega)]; exact r1
    · exact vl_r (u := u3) gp1 (by show u4.2.2.2 sv = _; rw [gp2]) (fun a b1 b2 => by rw [uI_o (by omega), uI_o (by omega), uI_o (by omega), uI_o (by omega), gp3 a (by omega)]) hv'
    · exact gd_r (u := u4) rfl rfl (fun a b1 b2 => by rw [uI_o (by omega), uI_o (by omega), uI_o (by omega), uI_o (by omega)]) gp4
end
