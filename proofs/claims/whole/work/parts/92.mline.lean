-- THE REFERENCE READS A LINE, whole
section
variable {u u1 u2 u3 : am_St} {t : Nat → Nat} {n p i s k : Nat} {told : Bool} {V : vS} {E : xE} {tab fn qn : Nat → Nat × Nat} {x : Int32}
theorem rl_0 (hP : MP u t n told V E tab) (hT : MT u t n p) (hp : p ≤ n) (h : isw t n p 0 = false) : f_X7_readLine ([some (.ref 156)], [], u) = (rlN 1 6 6 d_X7_familyLine (rlN 2 7 6 d_X7_quarrelLine (rlN 3 8 10 d_X7_lawLine (rlP 5 d_X7_potLine (rlN 4 9 12 d_X7_deedLine (rlN 6 10 6 d_X7_fellLine rlW)))))) ([some (.ref 156)], [], u) := by
  have ew := w_isWord (k := 1000000) (s := 0) hP hT hp rfl (by omega)
  rw [h] at ew
  obtain ⟨⟨hm, hX, h13⟩, -⟩ := hP
  obtain ⟨km, ⟨mk157, mk158, mk159, mk160, mk161, mk162, mk163, mk164, mk165, mk166, mk167, mk168, mk169, mk170, mk171, mk172, mk173, mk174⟩, ⟨mz157, mz158, mz159, mz160, mz161, mz162, mz163, mz164, mz165, mz166, mz167, mz168, mz169, mz170, mz171, mz172, mz173, mz174⟩, mr1, mr12, mr15, mr16, mr17, mr18, mr19, mr22, mr23, mr24, mr25, mr26, mr27, mr28, mr29, mr33, mr34, mr36⟩ := hm
  simp (disch := omega) only [rl_eq, ev_il0, ev_ll0, ev_al0, ev_il1, ev_ll1, ev_al1, ev_il2, ev_ll2, ev_al2, ev_il3, ev_ll3, ev_al3, ev_il4, ev_ll4, ev_al4, ev_il5, ev_ll5, ev_al5, ev_il6, ev_ll6, ev_al6, ev_il7, ev_ll7, ev_al7, ev_il8, ev_ll8, ev_al8, ev_il9, ev_ll9, ev_al9, ev_il10, ev_ll10, ev_al10, ev_il11, ev_ll11, ev_al11, ev_il12, ev_ll12, ev_al12, ev_il13, ev_ll13, ev_al13, ev_il14, ev_ll14, ev_al14, ev_il15, ev_ll15, ev_al15, ev_il16, ev_ll16, ev_al16, ev_il17, ev_ll17, ev_al17, ev_il18, ev_ll18, ev_al18, ev_il19, ev_ll19, ev_al19, am_k1_i, am_k1_r, am_k1_l, am_k1_n, ev_is0, ev_as0, ev_ls0, ev_inc0, ev_is1, ev_as1, ev_ls1, ev_inc1, ev_is2, ev_as2, ev_ls2, ev_inc2, ev_is3, ev_as3, ev_ls3, ev_inc3, ev_is4, ev_as4, ev_ls4, ev_inc4, ev_is5, ev_as5, ev_ls5, ev_inc5, ev_is6, ev_as6, ev_ls6, ev_inc6, ev_is7, ev_as7, ev_ls7, ev_inc7, ev_is8, ev_as8, ev_ls8, ev_inc8, ev_is9, ev_as9, ev_ls9, ev_inc9, ev_is10, ev_as10, ev_ls10, ev_inc10, ev_is11, ev_as11, ev_ls11, ev_inc11, ev_is12, ev_as12, ev_ls12, ev_inc12, ev_is13, ev_as13, ev_ls13, ev_inc13, ev_is14, ev_as14, ev_ls14, ev_inc14, ev_is15, ev_as15, ev_ls15, ev_inc15, ev_is16, ev_as16, ev_ls16, ev_inc16, ev_is17, ev_as17, ev_ls17, ev_inc17, ev_is18, ev_as18, ev_ls18, ev_inc18, ev_is19, ev_as19, ev_ls19, ev_inc19, ev_ic, ev_lc, ev_sg, ev_1, ev_2, ev_2n, ev_j2, ev_j2n, ev_cmp, ev_i2l, ev_dup_int, ev_pop_int, ev_dup_ref, ev_pop_ref, ev_dup2, am_sm_nil, am_sm_i, am_sm_r, am_sm_l, ev_oi, ev_mx, ev_gi, ev_gl, ev_gr, ev_pi, ev_pl, ev_pr, ev_pz, ev_ia, ev_la, ev_aa, ev_iS, ev_bS, ev_lS, ev_aS, am_ret_s, am_ret_n, ev_cs0, ev_cv0, ev_ct0, ev_cs1, ev_cv1, ev_ct1, ev_cs2, ev_cv2, ev_cs3, ev_cv3, ev_cs4, ev_cv4, ev_cs5, ev_cv5, ev_cs6, ev_to, ev_b1, ev_b2, ev_sq, am_jn_l, am_jn_r, am_jn_n, am_jn_if, ev_rv, ev_ri, ev_rl, ev_rz, am_fin_r, am_fin_n, am_fin_if, am_den_eq, am_ent_nil, am_ent_i, am_ent_r, am_ent_l, am_rf_s, am_rf_n, am_kd_I, am_kd_J, am_kd_R, am_sz_I, am_sz_J, am_sz_R, am_h_I, am_h_J, am_h_R, am_len_I, am_len_J, am_len_R, am_wt_I, am_wt_J, am_wt_R, am_II, am_IJ, am_IR, am_JI, am_JJ, am_JR, am_RI, am_RJ, am_RR, not_false_eq_true, not_true_eq_false, and_self, and_true, true_and, and_false, false_and, or_self, or_true, true_or, or_false, false_or, if_true, if_false, ↓reduceIte, ite_not, Nat.le_refl, Nat.zero_le, List.length_cons, List.length_nil, List.replicate, List.append_nil, List.cons_append, List.nil_append, Nat.reduceAdd, Nat.reduceSub, Nat.reduceLeDiff, Nat.reduceEqDiff, decide_eq_true_eq, decide_eq_false_iff_not, nx_neg, nx_le, nx_leI, nx_ltI, nx_eqI, am_clm, nI_1, nI_add, nx_b01, nx_b0, nx_b1, nx_pos, nx_le0, nx_ge0, nx_eq0, nx_em, nx_i10, nx_i01, nx_4, nx_12, nx_2, nx_6, nx_div, nx_rem, nx_rem2, nx_rem3, nx_mul, Nat.not_lt_zero, Nat.lt_irrefl, Nat.reduceLT, nz_0, nz_1, nz_00, nz_10, nz_a0, nz_0a, Nat.reduceMul, Nat.reduceDiv, Nat.reduceMod, nl_2, nl_3, nl_4, nl_5, nl_6, nl_8, nl_10, nl_11, nl_12, nl_16, nl_18, nl_20, nl_24, nl_25, nl_26, nl_30, nl_48, nl_60, nl_64, nl_75, nl_74, nl_99, nl_100, nl_112, nl_124, nl_200, nl_220, nl_255, nl_900, nl_999, nl_1000000, nl_65536, nl_65537, nl_7, nl_9, nl_14, nl_13, nl_15, nl_17, nl_19, nl_21, nl_22, nl_23, nl_27, nl_32, nl_40, nl_50, nl_57, nl_97, nl_108, nl_122, km, mk157, mk158, mk159, mk160, mk161, mk162, mk163, mk164, mk165, mk166, mk167, mk168, mk169, mk170, mk171, mk172, mk173, mk174, mz157, mz158, mz159, mz160, mz161, mz162, mz163, mz164, mz165, mz166, mz167, mz168, mz169, mz170, mz171, mz172, mz173, mz174, mr1, mr12, mr15, mr16, mr17, mr18, mr19, mr22, mr23, mr24, mr25, mr26, mr27, mr28, mr29, mr33, mr34, mr36, ew, Bool.false_eq_true]
theorem rl_v (hP : MP u t n told V E tab) (hT : MT u t n p) (hp : p ≤ n) (h : isw t n p 0 = true) (hM : d_X7_valleyLine [.ref 156] u = some (none, u2)) (hq : qfr u u2) : f_X7_readLine ([some (.ref 156)], [], u) = some (.inr (none, u2)) := by
  have ew := w_isWord (k := 1000000) (s := 0) hP hT hp rfl (by omega)
  rw [h] at ew
  obtain ⟨⟨hm, hX, h13⟩, -⟩ := hP
  obtain ⟨hk2, hz2, l2, w2, r2⟩ := qf_x hq
  obtain ⟨km, ⟨mk157, mk158, mk159, mk160, mk161, mk162, mk163, mk164, mk165, mk166, mk167, mk168, mk169, mk170, mk171, mk172, mk173, mk174⟩, ⟨mz157, mz158, mz159, mz160, mz161, mz162, mz163, mz164, mz165, mz166, mz167, mz168, mz169, mz170, mz171, mz172, mz173, mz174⟩, mr1, mr12, mr15, mr16, mr17, mr18, mr19, mr22, mr23, mr24, mr25, mr26, mr27, mr28, mr29, mr33, mr34, mr36⟩ := hm
  simp (disch := omega) only [rl_eq, ev_il0, ev_ll0, ev_al0, ev_il1, ev_ll1, ev_al1, ev_il2, ev_ll2, ev_al2, ev_il3, ev_ll3, ev_al3, ev_il4, ev_ll4, ev_al4, ev_il5, ev_ll5, ev_al5, ev_il6, ev_ll6, ev_al6, ev_il7, ev_ll7, ev_al7, ev_il8, ev_ll8, ev_al8, ev_il9, ev_ll9, ev_al9, ev_il10, ev_ll10, ev_al10, ev_il11, ev_ll11, ev_al11, ev_il12, ev_ll12, ev_al12, ev_il13, ev_ll13, ev_al13, ev_il14, ev_ll14, ev_al14, ev_il15, ev_ll15, ev_al15, ev_il16, ev_ll16, ev_al16, ev_il17, ev_ll17, ev_al17, ev_il18, ev_ll18, ev_al18, ev_il19, ev_ll19, ev_al19, am_k1_i, am_k1_r, am_k1_l, am_k1_n, ev_is0, ev_as0, ev_ls0, ev_inc0, ev_is1, ev_as1, ev_ls1, ev_inc1, ev_is2, ev_as2, ev_ls2, ev_inc2, ev_is3, ev_as3, ev_ls3, ev_inc3, ev_is4, ev_as4, ev_ls4, ev_inc4, ev_is5, ev_as5, ev_ls5, ev_inc5, ev_is6, ev_as6, ev_ls6, ev_inc6, ev_is7, ev_as7, ev_ls7, ev_inc7, ev_is8, ev_as8, ev_ls8, ev_inc8, ev_is9, ev_as9, ev_ls9, ev_inc9, ev_is10, ev_as10, ev_ls10, ev_inc10, ev_is11, ev_as11, ev_ls11, ev_inc11, ev_is12, ev_as12, ev_ls12, ev_inc12, ev_is13, ev_as13, ev_ls13, ev_inc13, ev_is14, ev_as14, ev_ls14, ev_inc14, ev_is15, ev_as15, ev_ls15, ev_inc15, ev_is16, ev_as16, ev_ls16, ev_inc16, ev_is17, ev_as17, ev_ls17, ev_inc17, ev_is18, ev_as18, ev_ls18, ev_inc18, ev_is19, ev_as19, ev_ls19, ev_inc19, ev_ic, ev_lc, ev_sg, ev_1, ev_2, ev_2n, ev_j2, ev_j2n, ev_cmp, ev_i2l, ev_dup_int, ev_pop_int, ev_dup_ref, ev_pop_ref, ev_dup2, am_sm_nil, am_sm_i, am_sm_r, am_sm_l, ev_oi, ev_mx, ev_gi, ev_gl, ev_gr, ev_pi, ev_pl, ev_pr, ev_pz, ev_ia, ev_la, ev_aa, ev_iS, ev_bS, ev_lS, ev_aS, am_ret_s, am_ret_n, ev_cs0, ev_cv0, ev_ct0, ev_cs1, ev_cv1, ev_ct1, ev_cs2, ev_cv2, ev_cs3, ev_cv3, ev_cs4, ev_cv4, ev_cs5, ev_cv5, ev_cs6, ev_to, ev_b1, ev_b2, ev_sq, am_jn_l, am_jn_r, am_jn_n, am_jn_if, ev_rv, ev_ri, ev_rl, ev_rz, am_fin_r, am_fin_n, am_fin_if, am_den_eq, am_ent_nil, am_ent_i, am_ent_r, am_ent_l, am_rf_s, am_rf_n, am_kd_I, am_kd_J, am_kd_R, am_sz_I, am_sz_J, am_sz_R, am_h_I, am_h_J, am_h_R, am_len_I, am_len_J, am_len_R, am_wt_I, am_wt_J, am_wt_R, am_II, am_IJ, am_IR, am_JI, am_JJ, am_JR, am_RI, am_RJ, am_RR, not_false_eq_true, not_true_eq_false, and_self, and_true, true_and, and_false, false_and, or_self, or_true, true_or, or_false, false_or, if_true, if_false, ↓reduceIte, ite_not, Nat.le_refl, Nat.zero_le, List.length_cons, List.length_nil, List.replicate, List.append_nil, List.cons_append, List.nil_append, Nat.reduceAdd, Nat.reduceSub, Nat.reduceLeDiff, Nat.reduceEqDiff, decide_eq_true_eq, decide_eq_false_iff_not, nx_neg, nx_le, nx_leI, nx_ltI, nx_eqI, am_clm, nI_1, nI_add, nx_b01, nx_b0, nx_b1, nx_pos, nx_le0, nx_ge0, nx_eq0, nx_em, nx_i10, nx_i01, nx_4, nx_12, nx_2, nx_6, nx_div, nx_rem, nx_rem2, nx_rem3, nx_mul, Nat.not_lt_zero, Nat.lt_irrefl, Nat.reduceLT, nz_0, nz_1, nz_00, nz_10, nz_a0, nz_0a, Nat.reduceMul, Nat.reduceDiv, Nat.reduceMod, nl_2, nl_3, nl_4, nl_5, nl_6, nl_8, nl_10, nl_11, nl_12, nl_16, nl_18, nl_20, nl_24, nl_25, nl_26, nl_30, nl_48, nl_60, nl_64, nl_75, nl_74, nl_99, nl_100, nl_112, nl_124, nl_200, nl_220, nl_255, nl_900, nl_999, nl_1000000, nl_65536, nl_65537, nl_7, nl_9, nl_14, nl_13, nl_15, nl_17, nl_19, nl_21, nl_22, nl_23, nl_27, nl_32, nl_40, nl_50, nl_57, nl_97, nl_108, nl_122, km, mk157, mk158, mk159, mk160, mk161, mk162, mk163, mk164, mk165, mk166, mk167, mk168, mk169, mk170, mk171, mk172, mk173, mk174, mz157, mz158, mz159, mz160, mz161, mz162, mz163, mz164, mz165, mz166, mz167, mz168, mz169, mz170, mz171, mz172, mz173, mz174, mr1, mr12, mr15, mr16, mr17, mr18, mr19, mr22, mr23, mr24, mr25, mr26, mr27, mr28, mr29, mr33, mr34, mr36, ew, hM, hk2, hz2, l2, w2, r2]
/-- a valley told twice -/
theorem ml_val2 (hP : MP u t n told V E tab) (hT : MT u t n p) (hb : 0 < v_be V) (hb2 : v_be V ≤ 30) : ∃ u2, d_X7_valleyLine [.ref 156] u = some (none, u2) ∧ WF u u2 3 p := by
  obtain ⟨⟨hm, hX, h13⟩, hml, -⟩ := hP
  have m1 : u.2.1 160 1 = nI (v_be V) := hml.1.2.1
  have hb' : ¬ v_be V ≤ 0 := by omega
  have hb3 : ¬ v_be V = 0 := by omega
  have h4 := hT.1
  have eg := w_wrong (u := u) (x := nI 3) (y := nI p) hm.1 h13
  have f := wf_w (u := u) (p := p) (c := 3) (x := nI 3) rfl
  generalize hu : am_uI (am_uI (am_uI u 156 13 1) 156 9 (nI 3)) 156 10 (nI p) = u2 at *
  obtain ⟨hk, hz, l, w, hr, h160, f13⟩ := wf_x f hm
  refine ⟨u2, ?_, f⟩
  obtain ⟨km, ⟨mk157, mk158, mk159, mk160, mk161, mk162, mk163, mk164, mk165, mk166, mk167, mk168, mk169, mk170, mk171, mk172, mk173, mk174⟩, ⟨mz157, mz158, mz159, mz160, mz161, mz162, mz163, mz164, mz165, mz166, mz167, mz168, mz169, mz170, mz171, mz172, mz173, mz174⟩, mr1, mr12, mr15, mr16, mr17, mr18, mr19, mr22, mr23, mr24, mr25, mr26, mr27, mr28, mr29, mr33, mr34, mr36⟩ := hm
  simp (disch := omega) only [d_X7_valleyLine, f_X7_valleyLine, ev_il0, ev_ll0, ev_al0, ev_il1, ev_ll1, ev_al1, ev_il2, ev_ll2, ev_al2, ev_il3, ev_ll3, ev_al3, ev_il4, ev_ll4, ev_al4, ev_il5, ev_ll5, ev_al5, ev_il6, ev_ll6, ev_al6, ev_il7, ev_ll7, ev_al7, ev_il8, ev_ll8, ev_al8, ev_il9, ev_ll9, ev_al9, ev_il10, ev_ll10, ev_al10, ev_il11, ev_ll11, ev_al11, ev_il12, ev_ll12, ev_al12, ev_il13, ev_ll13, ev_al13, ev_il14, ev_ll14, ev_al14, ev_il15, ev_ll15, ev_al15, ev_il16, ev_ll16, ev_al16, ev_il17, ev_ll17, ev_al17, ev_il18, ev_ll18, ev_al18, ev_il19, ev_ll19, ev_al19, am_k1_i, am_k1_r, am_k1_l, am_k1_n, ev_is0, ev_as0, ev_ls0, ev_inc0, ev_is1, ev_as1, ev_ls1, ev_inc1, ev_is2, ev_as2, ev_ls2, ev_inc2, ev_is3, ev_as3, ev_ls3, ev_inc3, ev_is4, ev_as4, ev_ls4, ev_inc4, ev_is5, ev_as5, ev_ls5, ev_inc5, ev_is6, ev_as6, ev_ls6, ev_inc6, ev_is7, ev_as7, ev_ls7, ev_inc7, ev_is8, ev_as8, ev_ls8, ev_inc8, ev_is9, ev_as9, ev_ls9, ev_inc9, ev_is10, ev_as10, ev_ls10, ev_inc10, ev_is11, ev_as11, ev_ls11, ev_inc11, ev_is12, ev_as12, ev_ls12, ev_inc12, ev_is13, ev_as13, ev_ls13, ev_inc13, ev_is14, ev_as14, ev_ls14, ev_inc14, ev_is15, ev_as15, ev_ls15, ev_inc15, ev_is16, ev_as16, ev_ls16, ev_inc16, ev_is17, ev_as17, ev_ls17, ev_inc17, ev_is18, ev_as18, ev_ls18, ev_inc18, ev_is19, ev_as19, ev_ls19, ev_inc19, ev_ic, ev_lc, ev_sg, ev_1, ev_2, ev_2n, ev_j2, ev_j2n, ev_cmp, ev_i2l, ev_dup_int, ev_pop_int, ev_dup_ref, ev_pop_ref, ev_dup2, am_sm_nil, am_sm_i, am_sm_r, am_sm_l, ev_oi, ev_mx, ev_gi, ev_gl, ev_gr, ev_pi, ev_pl, ev_pr, ev_pz, ev_ia, ev_la, ev_aa, ev_iS, ev_bS, ev_lS, ev_aS, am_ret_s, am_ret_n, ev_cs0, ev_cv0, ev_ct0, ev_cs1, ev_cv1, ev_ct1, ev_cs2, ev_cv2, ev_cs3, ev_cv3, ev_cs4, ev_cv4, ev_cs5, ev_cv5, ev_cs6, ev_to, ev_b1, ev_b2, ev_sq, am_jn_l, am_jn_r, am_jn_n, am_jn_if, ev_rv, ev_ri, ev_rl, ev_rz, am_fin_r, am_fin_n, am_fin_if, am_den_eq, am_ent_nil, am_ent_i, am_ent_r, am_ent_l, am_rf_s, am_rf_n, am_kd_I, am_kd_J, am_kd_R, am_sz_I, am_sz_J, am_sz_R, am_h_I, am_h_J, am_h_R, am_len_I, am_len_J, am_len_R, am_wt_I, am_wt_J, am_wt_R, am_II, am_IJ, am_IR, am_JI, am_JJ, am_JR, am_RI, am_RJ, am_RR, not_false_eq_true, not_true_eq_false, and_self, and_true, true_and, and_false, false_and, or_self, or_true, true_or, or_false, false_or, if_true, if_false, ↓reduceIte, ite_not, Nat.le_refl, Nat.zero_le, List.length_cons, List.length_nil, List.replicate, List.append_nil, List.cons_append, List.nil_append, Nat.reduceAdd, Nat.reduceSub, Nat.reduceLeDiff, Nat.reduceEqDiff, decide_eq_true_eq, decide_eq_false_iff_not, nx_neg, nx_le, nx_leI, nx_ltI, nx_eqI, am_clm, nI_1, nI_add, nx_b01, nx_b0, nx_b1, nx_pos, nx_le0, nx_ge0, nx_eq0, nx_em, nx_i10, nx_i01, nx_4, nx_12, nx_2, nx_6, nx_div, nx_rem, nx_rem2, nx_rem3, nx_mul, Nat.not_lt_zero, Nat.lt_irrefl, Nat.reduceLT, nz_0, nz_1, nz_00, nz_10, nz_a0, nz_0a, Nat.reduceMul, Nat.reduceDiv, Nat.reduceMod, nl_2, nl_3, nl_4, nl_5, nl_6, nl_8, nl_10, nl_11, nl_12, nl_16, nl_18, nl_20, nl_24, nl_25, nl_26, nl_30, nl_48, nl_60, nl_64, nl_75, nl_74, nl_99, nl_100, nl_112, nl_124, nl_200, nl_220, nl_255, nl_900, nl_999, nl_1000000, nl_65536, nl_65537, nl_7, nl_9, nl_14, nl_13, nl_15, nl_17, nl_19, nl_21, nl_22, nl_23, nl_27, nl_32, nl_40, nl_50, nl_57, nl_97, nl_108, nl_122, km, mk157, mk158, mk159, mk160, mk161, mk162, mk163, mk164, mk165, mk166, mk167, mk168, mk169, mk170, mk171, mk172, mk173, mk174, mz157, mz158, mz159, mz160, mz161, mz162, mz163, mz164, mz165, mz166, mz167, mz168, mz169, mz170, mz171, mz172, mz173, mz174, mr1, mr12, mr15, mr16, mr17, mr18, mr19, mr22, mr23, mr24, mr25, mr26, mr27, mr28, mr29, mr33, mr34, mr36, m1, hb', hb3, h4, eg, hk, hz, l, w, hr, f13]
theorem rl_den {o : Option Value} (h : f_X7_readLine ([some (.ref 156)], [], u) = some (.inr (o, u2))) : d_X7_readLine [.ref 156] u = some (o, u2) := by
  simp (disch := omega) only [d_X7_readLine, ev_il0, ev_ll0, ev_al0, ev_il1, ev_ll1, ev_al1, ev_il2, ev_ll2, ev_al2, ev_il3, ev_ll3, ev_al3, ev_il4, ev_ll4, ev_al4, ev_il5, ev_ll5, ev_al5, ev_il6, ev_ll6, ev_al6, ev_il7, ev_ll7, ev_al7, ev_il8, ev_ll8, ev_al8, ev_il9, ev_ll9, ev_al9, ev_il10, ev_ll10, ev_al10, ev_il11, ev_ll11, ev_al11, ev_il12, ev_ll12, ev_al12, ev_il13, ev_ll13, ev_al13, ev_il14, ev_ll14, ev_al14, ev_il15, ev_ll15, ev_al15, ev_il16, ev_ll16, ev_al16, ev_il17, ev_ll17, ev_al17, ev_il18, ev_ll18, ev_al18, ev_il19, ev_ll19, ev_al19, am_k1_i, am_k1_r, am_k1_l, am_k1_n, ev_is0, ev_as0, ev_ls0, ev_inc0, ev_is1, ev_as1, ev_ls1, ev_inc1, ev_is2, ev_as2, ev_ls2, ev_inc2, ev_is3, ev_as3, ev_ls3, ev_inc3, ev_is4, ev_as4, ev_ls4, ev_inc4, ev_is5, ev_as5, ev_ls5, ev_inc5, ev_is6, ev_as6, ev_ls6, ev_inc6, ev_is7, ev_as7, ev_ls7, ev_inc7, ev_is8, ev_as8, ev_ls8, ev_inc8, ev_is9, ev_as9, ev_ls9, ev_inc9, ev_is10, ev_as10, ev_ls10, ev_inc10, ev_is11, ev_as11, ev_ls11, ev_inc11, ev_is12, ev_as12, ev_ls12, ev_inc12, ev_is13, ev_as13, ev_ls13, ev_inc13, ev_is14, ev_as14, ev_ls14, ev_inc14, ev_is15, ev_as15, ev_ls15, ev_inc15, ev_is16, ev_as16, ev_ls16, ev_inc16, ev_is17, ev_as17, ev_ls17, ev_inc17, ev_is18, ev_as18, ev_ls18, ev_inc18, ev_is19, ev_as19, ev_ls19, ev_inc19, ev_ic, ev_lc, ev_sg, ev_1, ev_2, ev_2n, ev_j2, ev_j2n, ev_cmp, ev_i2l, ev_dup_int, ev_pop_int, ev_dup_ref, ev_pop_ref, ev_dup2, am_sm_nil, am_sm_i, am_sm_r, am_sm_l, ev_oi, ev_mx, ev_gi, ev_gl, ev_gr, ev_pi, ev_pl, ev_pr, ev_pz, ev_ia, ev_la, ev_aa, ev_iS, ev_bS, ev_lS, ev_aS, am_ret_s, am_ret_n, ev_cs0, ev_cv0, ev_ct0, ev_cs1, ev_cv1, ev_ct1, ev_cs2, ev_cv2, ev_cs3, ev_cv3, ev_cs4, ev_cv4, ev_cs5, ev_cv5, ev_cs6, ev_to, ev_b1, ev_b2, ev_sq, am_jn_l, am_jn_r, am_jn_n, am_jn_if, ev_rv, ev_ri, ev_rl, ev_rz, am_fin_r, am_fin_n, am_fin_if, am_den_eq, am_ent_nil, am_ent_i, am_ent_r, am_ent_l, am_rf_s, am_rf_n, am_kd_I, am_kd_J, am_kd_R, am_sz_I, am_sz_J, am_sz_R, am_h_I, am_h_J, am_h_R, am_len_I, am_len_J, am_len_R, am_wt_I, am_wt_J, am_wt_R, am_II, am_IJ, am_IR, am_JI, am_JJ, am_JR, am_RI, am_RJ, am_RR, not_false_eq_true, not_true_eq_false, and_self, and_true, true_and, and_false, false_and, or_self, or_true, true_or, or_false, false_or, if_true, if_false, ↓reduceIte, ite_not, Nat.le_refl, Nat.zero_le, List.length_cons, List.length_nil, List.replicate, List.append_nil, List.cons_append, List.nil_append, Nat.reduceAdd, Nat.reduceSub, Nat.reduceLeDiff, Nat.reduceEqDiff, decide_eq_true_eq, decide_eq_false_iff_not, nx_neg, nx_le, nx_leI, nx_ltI, nx_eqI, am_clm, nI_1, nI_add, nx_b01, nx_b0, nx_b1, nx_pos, nx_le0, nx_ge0, nx_eq0, nx_em, nx_i10, nx_i01, nx_4, nx_12, nx_2, nx_6, nx_div, nx_rem, nx_rem2, nx_rem3, nx_mul, Nat.not_lt_zero, Nat.lt_irrefl, Nat.reduceLT, h]
theorem rl_c1 (hP : MP u t n told V E tab) (hT : MT u t n p) (hp : p ≤ n) (hB : v_F V ≤ 6 ∧ v_Q V ≤ 6 ∧ v_la V ≤ 10 ∧ v_de V ≤ 12 ∧ v_fe V ≤ 6) (h0 : isw t n p 0 = false) : f_X7_readLine ([some (.ref 156)], [], u) = (rlN 1 6 6 d_X7_familyLine (rlN 2 7 6 d_X7_quarrelLine (rlN 3 8 10 d_X7_lawLine (rlP 5 d_X7_potLine (rlN 4 9 12 d_X7_deedLine (rlN 6 10 6 d_X7_fellLine rlW)))))) ([some (.ref 156)], [], u) := by
  exact rl_0 hP hT hp h0
theorem rl_c2 (hP : MP u t n told V E tab) (hT : MT u t n p) (hp : p ≤ n) (hB : v_F V ≤ 6 ∧ v_Q V ≤ 6 ∧ v_la V ≤ 10 ∧ v_de V ≤ 12 ∧ v_fe V ≤ 6) (h0 : isw t n p 0 = false) (h1 : isw t n p 1 = false) : f_X7_readLine ([some (.ref 156)], [], u) = (rlN 2 7 6 d_X7_quarrelLine (rlN 3 8 10 d_X7_lawLine (rlP 5 d_X7_potLine (rlN 4 9 12 d_X7_deedLine (rlN 6 10 6 d_X7_fellLine rlW))))) ([some (.ref 156)], [], u) := by
  rw [rl_c1 hP hT hp hB h0]
  exact rl_n (i := 6) (l := 6) (v := v_F V) rfl rfl hP.1.1 (by omega) hP.2.1.1.2.2.1 (by omega) (by omega) (fun x => bg_n hP hT hp (by omega) h1)
theorem rl_c3 (hP : MP u t n told V E tab) (hT : MT u t n p) (hp : p ≤ n) (hB : v_F V ≤ 6 ∧ v_Q V ≤ 6 ∧ v_la V ≤ 10 ∧ v_de V ≤ 12 ∧ v_fe V ≤ 6) (h0 : isw t n p 0 = false) (h1 : isw t n p 1 = false) (h2 : isw t n p 2 = false) : f_X7_readLine ([some (.ref 156)], [], u) = (rlN 3 8 10 d_X7_lawLine (rlP 5 d_X7_potLine (rlN 4 9 12 d_X7_deedLine (rlN 6 10 6 d_X7_fellLine rlW)))) ([some (.ref 156)], [], u) := by
  rw [rl_c2 hP hT hp hB h0 h1]
  exact rl_n (i := 7) (l := 6) (v := v_Q V) rfl rfl hP.1.1 (by omega) hP.2.1.1.2.2.2.1 (by omega) (by omega) (fun x => bg_n hP hT hp (by omega) h2)
theorem rl_c5 (hP : MP u t n told V E tab) (hT : MT u t n p) (hp : p ≤ n) (hB : v_F V ≤ 6 ∧ v_Q V ≤ 6 ∧ v_la V ≤ 10 ∧ v_de V ≤ 12 ∧ v_fe V ≤ 6) (h0 : isw t n p 0 = false) (h1 : isw t n p 1 = false) (h2 : isw t n p 2 = false) (h3 : isw t n p 3 = false) : f_X7_readLine ([some (.ref 156)], [], u) = (rlP 5 d_X7_potLine (rlN 4 9 12 d_X7_deedLine (rlN 6 10 6 d_X7_fellLine rlW))) ([some (.ref 156)], [], u) := by
  rw [rl_c3 hP hT hp hB h0 h1 h2]
  exact rl_n (i := 8) (l := 10) (v := v_la V) rfl rfl hP.1.1 (by omega) hP.2.1.1.2.2.2.2.1 (by omega) (by omega) (fun x => bg_n hP hT hp (by omega) h3)
theorem rl_c4 (hP : MP u t n told V E tab) (hT : MT u t n p) (hp : p ≤ n) (hB : v_F V ≤ 6 ∧ v_Q V ≤ 6 ∧ v_la V ≤ 10 ∧ v_de V ≤ 12 ∧ v_fe V ≤ 6) (h0 : isw t n p 0 = false) (h1 : isw t n p 1 = false) (h2 : isw t n p 2 = false) (h3 : isw t n p 3 = false) (h5 : isw t n p 5 = false) : f_X7_readLine ([some (.ref 156)], [], u) = (rlN 4 9 12 d_X7_deedLine (rlN 6 10 6 d_X7_fellLine rlW)) ([some (.ref 156)], [], u) := by
  rw [rl_c5 hP hT hp hB h0 h1 h2 h3]
  exact rl_p hP.1.1 (fun x => bg_n hP hT hp (by omega) h5)
theorem rl_c6 (hP : MP u t n told V E tab) (hT : MT u t n p) (hp : p ≤ n) (hB : v_F V ≤ 6 ∧ v_Q V ≤ 6 ∧ v_la V ≤ 10 ∧ v_de V ≤ 12 ∧ v_fe V ≤ 6) (h0 : isw t n p 0 = false) (h1 : isw t n p 1 = false) (h2 : isw t n p 2 = false) (h3 : isw t n p 3 = false) (h5 : isw t n p 5 = false) (h4 : isw t n p 4 = false) : f_X7_readLine ([some (.ref 156)], [], u) = (rlN 6 10 6 d_X7_fellLine rlW) ([some (.ref 156)], [], u) := by
  rw [rl_c4 hP hT hp hB h0 h1 h2 h3 h5]
  exact rl_n (i := 9) (l := 12) (v := v_de V) rfl rfl hP.1.1 (by omega) hP.2.1.1.2.2.2.2.2.1 (by omega) (by omega) (fun x => bg_n hP hT hp (by omega) h4)
theorem rl_c7 (hP : MP u t n told V E tab) (hT : MT u t n p) (hp : p ≤ n) (hB : v_F V ≤ 6 ∧ v_Q V ≤ 6 ∧ v_la V ≤ 10 ∧ v_de V ≤ 12 ∧ v_fe V ≤ 6) (h0 : isw t n p 0 = false) (h1 : isw t n p 1 = false) (h2 : isw t n p 2 = false) (h3 : isw t n p 3 = false) (h5 : isw t n p 5 = false) (h4 : isw t n p 4 = false) (h6 : isw t n p 6 = false) : f_X7_readLine ([some (.ref 156)], [], u) = rlW ([some (.ref 156)], [], u) := by
  rw [rl_c6 hP hT hp hB h0 h1 h2 h3 h5 h4]
  exact rl_n (i := 10) (l := 6) (v := v_fe V) rfl rfl hP.1.1 (by omega) hP.2.1.1.2.2.2.2.2.2.1 (by omega) (by omega) (fun x => bg_n hP hT hp (by omega) h6)
theorem rl_k1 (hP : MP u t n told V E (tabn fn (v_F V) qn (v_Q V))) (hT : MT u t n p) (hp : p ≤ n) (hI : (told = false ∧ Z0 V E) ∨ (told = true ∧ PI t V E fn qn)) (hk : kwd t n p = 1) (hn : ∀ b, b < 7 → b ≠ 1 → isw t n p b = false) : ∃ u2, f_X7_readLine ([some (.ref 156)], [], u) = some (.inr (none, u2)) ∧ MRes u u2 t n (pl_line t n told V E fn qn p) := by
  have hy : isw t n p 1 = true := (kw_u (by omega)).mp hk
  rcases hI with ⟨rfl, hz⟩ | ⟨rfl, hI⟩
  · obtain ⟨⟨z1, z2, z3, z4, z5, z6, z7⟩, -⟩ := hz
    obtain ⟨u2, e2, f2⟩ := bg_e hP hT hp (by omega) hy z7
    have hM := fa_l_f (wf_md f2 hP.1.1) f2.2.2.2.2.1
    refine ⟨u2, ?_, mr_f (c := 6) (p := p) ?_ (qf_wf f2) (wl_f f2)⟩
    · rw [rl_c1 hP hT hp ⟨by omega, by omega, by omega, by omega, by omega⟩ (hn 0 (by omega) (by omega))]
      exact rl_y (i := 6) (l := 6) (v := v_F V) rfl rfl hP.1.1 (by omega) hP.2.1.1.2.2.1 (by omega) (by omega) (by rw [if_neg (by omega)]; exact e2) (qf_wf f2) hM qf_0
    · have hfu : full V 1 = false := decide_eq_false (by omega)
      unfold pl_line
      rw [hk, if_neg (by omega), if_neg (by omega), hfu, if_neg (by simp), if_pos ⟨by omega, rfl⟩]
  · have hI0 := hI
    obtain ⟨hv, ⟨hnf, hnq⟩, hnd⟩ := hI
    have hI := hI0
    have b1 := vp_F hv
    have b2 := vp_Q hv
    have b3 := vp_la hv
    have b4 := vp_de hv
    have b5 := vp_fe hv
    have b6 := vp_be hv
    have b7 := vp_be4 hv
    by_cases d : 6 ≤ v_F V
    · obtain ⟨u2, e2, f2⟩ := bg_5 hP hT hp (by omega) hy (by omega) b6
      have hM := fa_l_f (wf_md f2 hP.1.1) f2.2.2.2.2.1
      refine ⟨u2, ?_, mr_f (c := 5) (p := p) ?_ (qf_wf f2) (wl_f f2)⟩
      · rw [rl_c1 hP hT hp ⟨by omega, by omega, by omega, by omega, by omega⟩ (hn 0 (by omega) (by omega))]
        exact rl_y (i := 6) (l := 6) (v := v_F V) rfl rfl hP.1.1 (by omega) hP.2.1.1.2.2.1 (by omega) (by omega) (by rw [if_pos d]; exact e2) (qf_wf f2) hM qf_0
      · have hfu : full V 1 = true := decide_eq_true (by omega)
        unfold pl_line
        rw [hk, if_neg (by omega), if_neg (by omega), hfu, if_pos rfl]
    · obtain ⟨u2, e2, s2, T2⟩ := bg_y hP hT hp (by omega) hy (by omega) b6
      obtain ⟨u3, e3, R3⟩ := ml_fam (mp_ns s2 hP) T2 (nxp_le hp) ⟨vp_F hv, vp_Q hv, vp_de hv, vp_fe hv⟩ hnf hnq (by omega)
      refine ⟨u3, ?_, ?_⟩
      · rw [rl_c1 hP hT hp ⟨by omega, by omega, by omega, by omega, by omega⟩ (hn 0 (by omega) (by omega))]
        exact rl_y (i := 6) (l := 6) (v := v_F V) rfl rfl hP.1.1 (by omega) hP.2.1.1.2.2.1 (by omega) (by omega) (by rw [if_neg (by omega)]; exact e2) (qf_ns s2) e3 R3.1
      · have hfu : full V 1 = false := decide_eq_false (by omega)
        have hpl : pl_line t n true V E fn qn p = pl_fam t n V E fn qn (nxp t n p) := by
          unfold pl_line
          rw [hk, if_neg (by omega), if_neg (by omega), hfu, if_neg (by simp), if_neg (fun q => by cases q.2)]
          rfl
        rw [hpl]
        exact mr_ns s2 R3
theorem rl_k2 (hP : MP u t n told V E (tabn fn (v_F V) qn (v_Q V))) (hT : MT u t n p) (hp : p ≤ n) (hI : (told = false ∧ Z0 V E) ∨ (told = true ∧ PI t V E fn qn)) (hk : kwd t n p = 2) (hn : ∀ b, b < 7 → b ≠ 2 → isw t n p b = false) : ∃ u2, f_X7_readLine ([some (.ref 156)], [], u) = some (.inr (none, u2)) ∧ MRes u u2 t n (pl_line t n told V E fn qn p) := by
  have hy : isw t n p 2 = true := (kw_u (by omega)).mp hk
  rcases hI with ⟨rfl, hz⟩ | ⟨rfl, hI⟩
  · obtain ⟨⟨z1, z2, z3, z4, z5, z6, z7⟩, -⟩ := hz
    obtain ⟨u2, e2, f2⟩ := bg_e hP hT hp (by omega) hy z7
    have hM := qu_l_f (wf_md f2 hP.1.1) f2.2.2.2.2.1
    refine ⟨u2, ?_, mr_f (c := 6) (p := p) ?_ (qf_wf f2) (wl_f f2)⟩
    · rw [rl_c2 hP hT hp ⟨by omega, by omega, by omega, by omega, by omega⟩ (hn 0 (by omega) (by omega)) (hn 1 (by omega) (by omega))]
      exact rl_y (i := 7) (l := 6) (v := v_Q V) rfl rfl hP.1.1 (by omega) hP.2.1.1.2.2.2.1 (by omega) (by omega) (by rw [if_neg (by omega)]; exact e2) (qf_wf f2) hM qf_0
    · have hfu : full V 2 = false := decide_eq_false (by omega)
      unfold pl_line
      rw [hk, if_neg (by omega), if_neg (by omega), hfu, if_neg (by simp), if_pos ⟨by omega, rfl⟩]
  · have hI0 := hI
    obtain ⟨hv, ⟨hnf, hnq⟩, hnd⟩ := hI
    have hI := hI0
    have b1 := vp_F hv
    have b2 := vp_Q hv
    have b3 := vp_la hv
    have b4 := vp_de hv
    have b5 := vp_fe hv
    have b6 := vp_be hv
    have b7 := vp_be4 hv
    by_cases d : 6 ≤ v_Q V
    · obtain ⟨u2, e2, f2⟩ := bg_5 hP hT hp (by omega) hy (by omega) b6
      have hM := qu_l_f (wf_md f2 hP.1.1) f2.2.2.2.2.1
      refine ⟨u2, ?_, mr_f (c := 5) (p := p) ?_ (qf_wf f2) (wl_f f2)⟩
      · rw [rl_c2 hP hT hp ⟨by omega, by omega, by omega, by omega, by omega⟩ (hn 0 (by omega) (by omega)) (hn 1 (by omega) (by omega))]
        exact rl_y (i := 7) (l := 6) (v := v_Q V) rfl rfl hP.1.1 (by omega) hP.2.1.1.2.2.2.1 (by omega) (by omega) (by rw [if_pos d]; exact e2) (qf_wf f2) hM qf_0
      · have hfu : full V 2 = true := decide_eq_true (by omega)
        unfold pl_line
        rw [hk, if_neg (by omega), if_neg (by omega), hfu, if_pos rfl]
    · obtain ⟨u2, e2, s2, T2⟩ := bg_y hP hT hp (by omega) hy (by omega) b6
      obtain ⟨u3, e3, R3⟩ := ml_qua (mp_ns s2 hP) T2 (nxp_le hp) hI (by omega)
      refine ⟨u3, ?_, ?_⟩
      · rw [rl_c2 hP hT hp ⟨by omega, by omega, by omega, by omega, by omega⟩ (hn 0 (by omega) (by omega)) (hn 1 (by omega) (by omega))]
        exact rl_y (i := 7) (l := 6) (v := v_Q V) rfl rfl hP.1.1 (by omega) hP.2.1.1.2.2.2.1 (by omega) (by omega) (by rw [if_neg (by omega)]; exact e2) (qf_ns s2) e3 R3.1
      · have hfu : full V 2 = false := decide_eq_false (by omega)
        have hpl : pl_line t n true V E fn qn p = pl_qua t n V E fn qn (nxp t n p) := by
          unfold pl_line
          rw [hk, if_neg (by omega), if_neg (by omega), hfu, if_neg (by simp), if_neg (fun q => by cases q.2)]
          rfl
        rw [hpl]
        exact mr_ns s2 R3
theorem rl_k3 (hP : MP u t n told V E (tabn fn (v_F V) qn (v_Q V))) (hT : MT u t n p) (hp : p ≤ n) (hI : (told = false ∧ Z0 V E) ∨ (told = true ∧ PI t V E fn qn)) (hk : kwd t n p = 3) (hn : ∀ b, b < 7 → b ≠ 3 → isw t n p b = false) : ∃ u2, f_X7_readLine ([some (.ref 156)], [], u) = some (.inr (none, u2)) ∧ MRes u u2 t n (pl_line t n told V E fn qn p) := by
  have hy : isw t n p 3 = true := (kw_u (by omega)).mp hk
  rcases hI with ⟨rfl, hz⟩ | ⟨rfl, hI⟩
  · obtain ⟨⟨z1, z2, z3, z4, z5, z6, z7⟩, -⟩ := hz
    obtain ⟨u2, e2, f2⟩ := bg_e hP hT hp (by omega) hy z7
    have hM := la_l_f (wf_md f2 hP.1.1) f2.2.2.2.2.1
    refine ⟨u2, ?_, mr_f (c := 6) (p := p) ?_ (qf_wf f2) (wl_f f2)⟩
    · rw [rl_c3 hP hT hp ⟨by omega, by omega, by omega, by omega, by omega⟩ (hn 0 (by omega) (by omega)) (hn 1 (by omega) (by omega)) (hn 2 (by omega) (by omega))]
      exact rl_y (i := 8) (l := 10) (v := v_la V) rfl rfl hP.1.1 (by omega) hP.2.1.1.2.2.2.2.1 (by omega) (by omega) (by rw [if_neg (by omega)]; exact e2) (qf_wf f2) hM qf_0
    · have hfu : full V 3 = false := decide_eq_false (by omega)
      unfold pl_line
      rw [hk, if_neg (by omega), if_neg (by omega), hfu, if_neg (by simp), if_pos ⟨by omega, rfl⟩]
  · have hI0 := hI
    obtain ⟨hv, ⟨hnf, hnq⟩, hnd⟩ := hI
    have hI := hI0
    have b1 := vp_F hv
    have b2 := vp_Q hv
    have b3 := vp_la hv
    have b4 := vp_de hv
    have b5 := vp_fe hv
    have b6 := vp_be hv
    have b7 := vp_be4 hv
    by_cases d : 10 ≤ v_la V
    · obtain ⟨u2, e2, f2⟩ := bg_5 hP hT hp (by omega) hy (by omega) b6
      have hM := la_l_f (wf_md f2 hP.1.1) f2.2.2.2.2.1
      refine ⟨u2, ?_, mr_f (c := 5) (p := p) ?_ (qf_wf f2) (wl_f f2)⟩
      · rw [rl_c3 hP hT hp ⟨by omega, by omega, by omega, by omega, by omega⟩ (hn 0 (by omega) (by omega)) (hn 1 (by omega) (by omega)) (hn 2 (by omega) (by omega))]
        exact rl_y (i := 8) (l := 10) (v := v_la V) rfl rfl hP.1.1 (by omega) hP.2.1.1.2.2.2.2.1 (by omega) (by omega) (by rw [if_pos d]; exact e2) (qf_wf f2) hM qf_0
      · have hfu : full V 3 = true := decide_eq_true (by omega)
        unfold pl_line
        rw [hk, if_neg (by omega), if_neg (by omega), hfu, if_pos rfl]
    · obtain ⟨u2, e2, s2, T2⟩ := bg_y hP hT hp (by omega) hy (by omega) b6
      obtain ⟨u3, e3, R3⟩ := ml_law (mp_ns s2 hP) T2 (nxp_le hp) ⟨vp_F hv, vp_Q hv, vp_de hv, vp_fe hv⟩ (vp_od hv)
      refine ⟨u3, ?_, ?_⟩
      · rw [rl_c3 hP hT hp ⟨by omega, by omega, by omega, by omega, by omega⟩ (hn 0 (by omega) (by omega)) (hn 1 (by omega) (by omega)) (hn 2 (by omega) (by omega))]
        exact rl_y (i := 8) (l := 10) (v := v_la V) rfl rfl hP.1.1 (by omega) hP.2.1.1.2.2.2.2.1 (by omega) (by omega) (by rw [if_neg (by omega)]; exact e2) (qf_ns s2) e3 R3.1
      · have hfu : full V 3 = false := decide_eq_false (by omega)
        have hpl : pl_line t n true V E fn qn p = pl_law t n V E fn qn (nxp t n p) := by
          unfold pl_line
          rw [hk, if_neg (by omega), if_neg (by omega), hfu, if_neg (by simp), if_neg (fun q => by cases q.2)]
          rfl
        rw [hpl]
        exact mr_ns s2 R3
theorem rl_k5 (hP : MP u t n told V E (tabn fn (v_F V) qn (v_Q V))) (hT : MT u t n p) (hp : p ≤ n) (hI : (told = false ∧ Z0 V E) ∨ (told = true ∧ PI t V E fn qn)) (hk : kwd t n p = 5) (hn : ∀ b, b < 7 → b ≠ 5 → isw t n p b = false) : ∃ u2, f_X7_readLine ([some (.ref 156)], [], u) = some (.inr (none, u2)) ∧ MRes u u2 t n (pl_line t n told V E fn qn p) := by
  have hy : isw t n p 5 = true := (kw_u (by omega)).mp hk
  rcases hI with ⟨rfl, hz⟩ | ⟨rfl, hI⟩
  · obtain ⟨⟨z1, z2, z3, z4, z5, z6, z7⟩, -⟩ := hz
    obtain ⟨u2, e2, f2⟩ := bg_e hP hT hp (by omega) hy z7
    have hM := po_l_f (wf_md f2 hP.1.1) f2.2.2.2.2.1
    refine ⟨u2, ?_, mr_f (c := 6) (p := p) ?_ (qf_wf f2) (wl_f f2)⟩
    · rw [rl_c5 hP hT hp ⟨by omega, by omega, by omega, by omega, by omega⟩ (hn 0 (by omega) (by omega)) (hn 1 (by omega) (by omega)) (hn 2 (by omega) (by omega)) (hn 3 (by omega) (by omega))]
      exact rl_q hP.1.1 e2 (qf_wf f2) hM qf_0
    · have hfu : full V 5 = false := decide_eq_false (by omega)
      unfold pl_line
      rw [hk, if_neg (by omega), if_neg (by omega), hfu, if_neg (by simp), if_pos ⟨by omega, rfl⟩]
  · have hI0 := hI
    obtain ⟨hv, ⟨hnf, hnq⟩, hnd⟩ := hI
    have hI := hI0
    have b1 := vp_F hv
    have b2 := vp_Q hv
    have b3 := vp_la hv
    have b4 := vp_de hv
    have b5 := vp_fe hv
    have b6 := vp_be hv
    have b7 := vp_be4 hv
    obtain ⟨u2, e2, s2, T2⟩ := bg_y hP hT hp (by omega) hy (by omega) b6
    obtain ⟨u3, e3, R3⟩ := ml_pot (mp_ns s2 hP) T2 (nxp_le hp) hI
    refine ⟨u3, ?_, ?_⟩
    · rw [rl_c5 hP hT hp ⟨by omega, by omega, by omega, by omega, by omega⟩ (hn 0 (by omega) (by omega)) (hn 1 (by omega) (by omega)) (hn 2 (by omega) (by omega)) (hn 3 (by omega) (by omega))]
      exact rl_q hP.1.1 e2 (qf_ns s2) e3 R3.1
    · have hfu : full V 5 = false := decide_eq_false (by omega)
      have hpl : pl_line t n true V E fn qn p = pl_pot t n V E fn qn (nxp t n p) := by
        unfold pl_line
        rw [hk, if_neg (by omega), if_neg (by omega), hfu, if_neg (by simp), if_neg (fun q => by cases q.2)]
        rfl
      rw [hpl]
      exact mr_ns s2 R3
theorem rl_k4 (hP : MP u t n told V E (tabn fn (v_F V) qn (v_Q V))) (hT : MT u t n p) (hp : p ≤ n) (hI : (told = false ∧ Z0 V E) ∨ (told = true ∧ PI t V E fn qn)) (hk : kwd t n p = 4) (hn : ∀ b, b < 7 → b ≠ 4 → isw t n p b = false) : ∃ u2, f_X7_readLine ([some (.ref 156)], [], u) = some (.inr (none, u2)) ∧ MRes u u2 t n (pl_line t n told V E fn qn p) := by
  have hy : isw t n p 4 = true := (kw_u (by omega)).mp hk
  rcases hI with ⟨rfl, hz⟩ | ⟨rfl, hI⟩
  · obtain ⟨⟨z1, z2, z3, z4, z5, z6, z7⟩, -⟩ := hz
    obtain ⟨u2, e2, f2⟩ := bg_e hP hT hp (by omega) hy z7
    have hM := de_l_f (wf_md f2 hP.1.1) f2.2.2.2.2.1
    refine ⟨u2, ?_, mr_f (c := 6) (p := p) ?_ (qf_wf f2) (wl_f f2)⟩
    · rw [rl_c4 hP hT hp ⟨by omega, by omega, by omega, by omega, by omega⟩ (hn 0 (by omega) (by omega)) (hn 1 (by omega) (by omega)) (hn 2 (by omega) (by omega)) (hn 3 (by omega) (by omega)) (hn 5 (by omega) (by omega))]
      exact rl_y (i := 9) (l := 12) (v := v_de V) rfl rfl hP.1.1 (by omega) hP.2.1.1.2.2.2.2.2.1 (by omega) (by omega) (by rw [if_neg (by omega)]; exact e2) (qf_wf f2) hM qf_0
    · have hfu : full V 4 = false := decide_eq_false (by omega)
      unfold pl_line
      rw [hk, if_neg (by omega), if_neg (by omega), hfu, if_neg (by simp), if_pos ⟨by omega, rfl⟩]
  · have hI0 := hI
    obtain ⟨hv, ⟨hnf, hnq⟩, hnd⟩ := hI
    have hI := hI0
    have b1 := vp_F hv
    have b2 := vp_Q hv
    have b3 := vp_la hv
    have b4 := vp_de hv
    have b5 := vp_fe hv
    have b6 := vp_be hv
    have b7 := vp_be4 hv
    by_cases d : 12 ≤ v_de V
    · obtain ⟨u2, e2, f2⟩ := bg_5 hP hT hp (by omega) hy (by omega) b6
      have hM := de_l_f (wf_md f2 hP.1.1) f2.2.2.2.2.1
      refine ⟨u2, ?_, mr_f (c := 5) (p := p) ?_ (qf_wf f2) (wl_f f2)⟩
      · rw [rl_c4 hP hT hp ⟨by omega, by omega, by omega, by omega, by omega⟩ (hn 0 (by omega) (by omega)) (hn 1 (by omega) (by omega)) (hn 2 (by omega) (by omega)) (hn 3 (by omega) (by omega)) (hn 5 (by omega) (by omega))]
        exact rl_y (i := 9) (l := 12) (v := v_de V) rfl rfl hP.1.1 (by omega) hP.2.1.1.2.2.2.2.2.1 (by omega) (by omega) (by rw [if_pos d]; exact e2) (qf_wf f2) hM qf_0
      · have hfu : full V 4 = true := decide_eq_true (by omega)
        unfold pl_line
        rw [hk, if_neg (by omega), if_neg (by omega), hfu, if_pos rfl]
    · obtain ⟨u2, e2, s2, T2⟩ := bg_y hP hT hp (by omega) hy (by omega) b6
      obtain ⟨u3, e3, R3⟩ := ml_dee (mp_ns s2 hP) T2 (nxp_le hp) hI (by omega)
      refine ⟨u3, ?_, ?_⟩
      · rw [rl_c4 hP hT hp ⟨by omega, by omega, by omega, by omega, by omega⟩ (hn 0 (by omega) (by omega)) (hn 1 (by omega) (by omega)) (hn 2 (by omega) (by omega)) (hn 3 (by omega) (by omega)) (hn 5 (by omega) (by omega))]
        exact rl_y (i := 9) (l := 12) (v := v_de V) rfl rfl hP.1.1 (by omega) hP.2.1.1.2.2.2.2.2.1 (by omega) (by omega) (by rw [if_neg (by omega)]; exact e2) (qf_ns s2) e3 R3.1
      · have hfu : full V 4 = false := decide_eq_false (by omega)
        have hpl : pl_line t n true V E fn qn p = pl_dee t n V E fn qn (nxp t n p) := by
          unfold pl_line
          rw [hk, if_neg (by omega), if_neg (by omega), hfu, if_neg (by simp), if_neg (fun q => by cases q.2)]
          rfl
        rw [hpl]
        exact mr_ns s2 R3
theorem rl_k6 (hP : MP u t n told V E (tabn fn (v_F V) qn (v_Q V))) (hT : MT u t n p) (hp : p ≤ n) (hI : (told = false ∧ Z0 V E) ∨ (told = true ∧ PI t V E fn qn)) (hk : kwd t n p = 6) (hn : ∀ b, b < 7 → b ≠ 6 → isw t n p b = false) : ∃ u2, f_X7_readLine ([some (.ref 156)], [], u) = some (.inr (none, u2)) ∧ MRes u u2 t n (pl_line t n told V E fn qn p) := by
  have hy : isw t n p 6 = true := (kw_u (by omega)).mp hk
  rcases hI with ⟨rfl, hz⟩ | ⟨rfl, hI⟩
  · obtain ⟨⟨z1, z2, z3, z4, z5, z6, z7⟩, -⟩ := hz
    obtain ⟨u2, e2, f2⟩ := bg_e hP hT hp (by omega) hy z7
    have hM := fe_l_f (wf_md f2 hP.1.1) f2.2.2.2.2.1
    refine ⟨u2, ?_, mr_f (c := 6) (p := p) ?_ (qf_wf f2) (wl_f f2)⟩
    · rw [rl_c6 hP hT hp ⟨by omega, by omega, by omega, by omega, by omega⟩ (hn 0 (by omega) (by omega)) (hn 1 (by omega) (by omega)) (hn 2 (by omega) (by omega)) (hn 3 (by omega) (by omega)) (hn 5 (by omega) (by omega)) (hn 4 (by omega) (by omega))]
      exact rl_y (i := 10) (l := 6) (v := v_fe V) rfl rfl hP.1.1 (by omega) hP.2.1.1.2.2.2.2.2.2.1 (by omega) (by omega) (by rw [if_neg (by omega)]; exact e2) (qf_wf f2) hM qf_0
    · have hfu : full V 6 = false := decide_eq_false (by omega)
      unfold pl_line
      rw [hk, if_neg (by omega), if_neg (by omega), hfu, if_neg (by simp), if_pos ⟨by omega, rfl⟩]
  · have hI0 := hI
    obtain ⟨hv, ⟨hnf, hnq⟩, hnd⟩ := hI
    have hI := hI0
    have b1 := vp_F hv
    have b2 := vp_Q hv
    have b3 := vp_la hv
    have b4 := vp_de hv
    have b5 := vp_fe hv
    have b6 := vp_be hv
    have b7 := vp_be4 hv
    by_cases d : 6 ≤ v_fe V
    · obtain ⟨u2, e2, f2⟩ := bg_5 hP hT hp (by omega) hy (by omega) b6
      have hM := fe_l_f (wf_md f2 hP.1.1) f2.2.2.2.2.1
      refine ⟨u2, ?_, mr_f (c := 5) (p := p) ?_ (qf_wf f2) (wl_f f2)⟩
      · rw [rl_c6 hP hT hp ⟨by omega, by omega, by omega, by omega, by omega⟩ (hn 0 (by omega) (by omega)) (hn 1 (by omega) (by omega)) (hn 2 (by omega) (by omega)) (hn 3 (by omega) (by omega)) (hn 5 (by omega) (by omega)) (hn 4 (by omega) (by omega))]
        exact rl_y (i := 10) (l := 6) (v := v_fe V) rfl rfl hP.1.1 (by omega) hP.2.1.1.2.2.2.2.2.2.1 (by omega) (by omega) (by rw [if_pos d]; exact e2) (qf_wf f2) hM qf_0
      · have hfu : full V 6 = true := decide_eq_true (by omega)
        unfold pl_line
        rw [hk, if_neg (by omega), if_neg (by omega), hfu, if_pos rfl]
    · obtain ⟨u2, e2, s2, T2⟩ := bg_y hP hT hp (by omega) hy (by omega) b6
      obtain ⟨u3, e3, R3⟩ := ml_fel (mp_ns s2 hP) T2 (nxp_le hp) hI (by omega)
      refine ⟨u3, ?_, ?_⟩
      · rw [rl_c6 hP hT hp ⟨by omega, by omega, by omega, by omega, by omega⟩ (hn 0 (by omega) (by omega)) (hn 1 (by omega) (by omega)) (hn 2 (by omega) (by omega)) (hn 3 (by omega) (by omega)) (hn 5 (by omega) (by omega)) (hn 4 (by omega) (by omega))]
        exact rl_y (i := 10) (l := 6) (v := v_fe V) rfl rfl hP.1.1 (by omega) hP.2.1.1.2.2.2.2.2.2.1 (by omega) (by omega) (by rw [if_neg (by omega)]; exact e2) (qf_ns s2) e3 R3.1
      · have hfu : full V 6 = false := decide_eq_false (by omega)
        have hpl : pl_line t n true V E fn qn p = pl_fel t n V E fn qn (nxp t n p) := by
          unfold pl_line
          rw [hk, if_neg (by omega), if_neg (by omega), hfu, if_neg (by simp), if_neg (fun q => by cases q.2)]
          rfl
        rw [hpl]
        exact mr_ns s2 R3
/-- A LINE -/
theorem ml_line (hP : MP u t n told V E (tabn fn (v_F V) qn (v_Q V))) (hT : MT u t n p) (hp : p ≤ n) (hI : (told = false ∧ Z0 V E) ∨ (told = true ∧ PI t V E fn qn)) : ∃ u2, d_X7_readLine [.ref 156] u = some (none, u2) ∧ MRes u u2 t n (pl_line t n told V E fn qn p) := by
  suffices h : ∃ u2, f_X7_readLine ([some (.ref 156)], [], u) = some (.inr (none, u2)) ∧ MRes u u2 t n (pl_line t n told V E fn qn p) by
    obtain ⟨u2, h1, h2⟩ := h
    exact ⟨u2, rl_den h1, h2⟩
  have hn : ∀ b, b < 7 → b ≠ kwd t n p → isw t n p b = false := by
    intro b hb hne
    cases c : isw t n p b
    · rfl
    · exact absurd ((kw_u hb).mpr c).symm hne
  have hk := kwd_le (t := t) (n := n) (p := p)
  have hk' : kwd t n p = 0 ∨ kwd t n p = 1 ∨ kwd t n p = 2 ∨ kwd t n p = 3 ∨ kwd t n p = 4 ∨ kwd t n p = 5 ∨ kwd t n p = 6 ∨ kwd t n p = 7 := by omega
  rcases hk' with h | h | h | h | h | h | h | h
  · have hy : isw t n p 0 = true := (kw_u (by omega)).mp h
    rcases hI with ⟨rfl, hz⟩ | ⟨rfl, hI⟩
    · obtain ⟨u2, e2, R2⟩ := ml_val hP hT hp hz
      refine ⟨u2, rl_v hP hT hp hy e2 R2.1, ?_⟩
      have hfu : full V 0 = false := decide_eq_false (by omega)
      have hpl : pl_line t n false V E fn qn p = pl_val t n V E fn qn (nxp t n p) := by
        unfold pl_line
        rw [h, if_neg (by omega), if_neg (fun q => by cases q.2), hfu, if_neg (by simp), if_neg (fun q => q.1 rfl)]
        rfl
      rw [hpl]
      exact R2
    · obtain ⟨u2, e2, f2⟩ := ml_val2 hP hT (by have := vp_be4 hI.1; omega) (vp_be hI.1)
      refine ⟨u2, rl_v hP hT hp hy e2 (qf_wf f2), mr_f (c := 3) (p := p) ?_ (qf_wf f2) (wl_f f2)⟩
      unfold pl_line
      rw [h, if_neg (by omega), if_pos ⟨rfl, rfl⟩]
  · exact rl_k1 hP hT hp hI h (fun b hb hne => hn b hb (by omega))
  · exact rl_k2 hP hT hp hI h (fun b hb hne => hn b hb (by omega))
  · exact rl_k3 hP hT hp hI h (fun b hb hne => hn b hb (by omega))
  · exact rl_k4 hP hT hp hI h (fun b hb hne => hn b hb (by omega))
  · exact rl_k5 hP hT hp hI h (fun b hb hne => hn b hb (by omega))
  · exact rl_k6 hP hT hp hI h (fun b hb hne => hn b hb (by omega))
  · have f := wf_w (u := u) (p := p) (c := 1) (x := 1) rfl
    refine ⟨_, ?_, mr_f (c := 1) (p := p) ?_ (qf_wf f) (wl_f f)⟩
    · have hB : v_F V ≤ 6 ∧ v_Q V ≤ 6 ∧ v_la V ≤ 10 ∧ v_de V ≤ 12 ∧ v_fe V ≤ 6 := by
        rcases hI with ⟨-, hz⟩ | ⟨-, hI⟩
        · obtain ⟨⟨z1, z2, z3, z4, z5, z6, z7⟩, -⟩ := hz
          omega
        · exact ⟨vp_F hI.1, vp_Q hI.1, vp_la hI.1, vp_de hI.1, vp_fe hI.1⟩
      rw [rl_c7 hP hT hp hB (hn 0 (by omega) (by omega)) (hn 1 (by omega) (by omega)) (hn 2 (by omega) (by omega)) (hn 3 (by omega) (by omega)) (hn 5 (by omega) (by omega)) (hn 4 (by omega) (by omega)) (hn 6 (by omega) (by omega))]
      exact rl_w hP.1.1 hT.1 hP.1.2.2
    · unfold pl_line
      rw [if_pos h]
end
