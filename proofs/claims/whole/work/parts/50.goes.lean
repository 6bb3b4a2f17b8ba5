section
variable {u : am_St} {c o n : Nat} {f : Nat → Int32}
theorem rn_kd {a : Nat} : am_kd (rng u c o n f) a = am_kd u a := (rfl)
theorem rn_sz {a : Nat} : am_sz (rng u c o n f) a = am_sz u a := (rfl)
theorem rn_len : am_len (rng u c o n f) = am_len u := (rfl)
theorem rn_wt : am_wt (rng u c o n f) = am_wt u := (rfl)
theorem rn_2 : (rng u c o n f).2.2 = u.2.2 := (rfl)
theorem rn_h : (rng u c o n f).1 = u.1 := (rfl)
theorem rn_oo {a : Nat} (h : a ≠ c) : (rng u c o n f).2.1 a = u.2.1 a := by simp [rng, h]
theorem rn_in {j : Nat} (h1 : o ≤ j) (h2 : j < o + n) : (rng u c o n f).2.1 c j = f (j - o) := by simp [rng, h1, h2]
theorem rn_at {j : Nat} (h2 : j < n) : (rng u c o n f).2.1 c (o + j) = f j := by
  rw [rn_in (by omega) (by omega), Nat.add_sub_cancel_left]
theorem rn_a0 {j : Nat} (h2 : j < n) : (rng u c 0 n f).2.1 c j = f j := by
  rw [rn_in (by omega) (by omega), Nat.sub_zero]
theorem rn_out {j : Nat} (h : j < o ∨ o + n ≤ j) : (rng u c o n f).2.1 c j = u.2.1 c j := by
  simp only [rng, if_true]
  rw [if_neg (by omega)]
theorem rn_z : rng u c o 0 f = u := by
  refine gp_ext rfl rfl fun a j => ?_
  simp only [rng]
  by_cases e : a = c
  · subst e
    rw [if_pos rfl, if_neg (by omega)]
  · rw [if_neg e]
theorem rn_s {x : Int32} (hx : x = f n) : am_uI (rng u c o n f) c (o + n) x = rng u c o (n + 1) f := by
  subst hx
  refine gp_ext rfl rfl fun a j => ?_
  rw [am_II]
  simp only [rng]
  by_cases e : a = c
  · subst e
    by_cases ej : j = o + n
    · subst ej
      rw [if_pos ⟨rfl, rfl⟩, if_pos rfl, if_pos (by omega), Nat.add_sub_cancel_left]
    · rw [if_neg (fun q => ej q.2), if_pos rfl, if_pos rfl]
      by_cases h : o ≤ j ∧ j < o + n
      · rw [if_pos h, if_pos (by omega)]
      · rw [if_neg h, if_neg (by omega)]
  · rw [if_neg (fun q => e q.1), if_neg e, if_neg e]
theorem rn_s0 {x : Int32} (hx : x = f n) : am_uI (rng u c 0 n f) c n x = rng u c 0 (n + 1) f := by
  have := rn_s (u := u) (c := c) (o := 0) hx
  rwa [Nat.zero_add] at this
theorem rn_c {f2 : Nat → Int32} (h : ∀ j, j < n → f j = f2 j) : rng u c o n f = rng u c o n f2 := by
  refine gp_ext rfl rfl fun a j => ?_
  simp only [rng]
  by_cases e : a = c
  · subst e
    rw [if_pos rfl, if_pos rfl]
    by_cases q : o ≤ j ∧ j < o + n
    · rw [if_pos q, if_pos q, h _ (by omega)]
    · rw [if_neg q, if_neg q]
  · rw [if_neg e, if_neg e]
theorem rn_26 {G : gS} : rng u c 0 26 (enc G) = rput u c G := by
  refine gp_ext rfl rfl fun a j => ?_
  simp only [rng, rput]
  by_cases e : a = c
  · subst e
    rw [if_pos rfl, if_pos rfl]
    by_cases q : j < 26
    · rw [if_pos (by omega), if_pos q, Nat.sub_zero]
    · rw [if_neg (by omega), if_neg q]
  · rw [if_neg e, if_neg e]
theorem rp_uI {G : gS} {d j : Nat} {x : Int32} (h : d ≠ c) : am_uI (rput u c G) d j x = rput (am_uI u d j x) c G := by
  refine gp_ext rfl rfl fun a i => ?_
  rw [am_II]
  by_cases e : a = c
  · subst e
    rw [if_neg (fun q => h q.1.symm)]
    simp only [rput, if_true]
    by_cases q : i < 26
    · rw [if_pos q, if_pos q]
    · rw [if_neg q, if_neg q, am_II, if_neg (fun q => h q.1.symm)]
  · rw [rp_oo e, rp_oo e, am_II]
/-- the row fed -/
def fdp (u : am_St) (f : Nat → Int32) : am_St := rng u 164 0 6 f
theorem fdp_self : fdp u (u.2.1 164) = u := by
  refine gp_ext rfl rfl fun a j => ?_
  simp only [fdp, rng]
  by_cases e : a = 164
  · subst e
    rw [if_pos rfl, Nat.sub_zero, ite_self]
  · rw [if_neg e]
theorem fdp_s {i : Nat} {x : Int32} (hi : i < 6) : am_uI (fdp u f) 164 i x = fdp u (va_up f i x) := by
  refine gp_ext rfl rfl fun a j => ?_
  rw [am_II]
  simp only [fdp, rng, va_up]
  by_cases e : a = 164
  · subst e
    by_cases ej : j = i
    · subst ej
      rw [if_pos ⟨rfl, rfl⟩, if_pos rfl, if_pos (by omega), Nat.sub_zero, if_pos rfl]
    · rw [if_neg (fun q => ej q.2), if_pos rfl, if_pos rfl, Nat.sub_zero, if_neg ej]
  · rw [if_neg (fun q => e q.1), if_neg e, if_neg e]
end
section
variable {u : am_St} {c : Nat} {G : gS} {V : vS} {E : xE} {B S : Nat}
def s_pass (V : vS) (G : gS) : gS := s_ripen V (s_feed V G)
def s_pfell (V : vS) (G : gS) : Int32 := s_fell V (s_feed V G)
theorem ml_fdp {f : Nat → Int32} (hl : ml_at u 159 V E) : ml_at (fdp u f) 159 V E := by
  have e : (fdp u f).2.1 159 = u.2.1 159 := rn_oo (by omega)
  unfold ml_at
  rw [e]
  exact hl
theorem w_seasonAsTold {f : Nat → Int32} (hm : md_ok u) (hl : ml_at u 159 V E) (hE : VE V E) (hc : c ≠ 159) (hc2 : c ≠ 164) (hk : am_kd u c = some 0) (hz : am_sz u c = 26) (hG : GI V G B S) (hB : B < 800000) (hS : S < 900) : ∃ f', d_X7_seasonAsTold [.ref 156, .ref c] (rput (fdp u f) c G) = some (some (.int (s_pfell V G)), rput (fdp u f') c (s_pass V G)) := by
  have hQ := ve_Q hE
  have hro := gi_r6 hG
  have hvi : ∀ j, j < 6 → g_vi G j < 900000 := fun j hj => by have := gi_vi hG j hj; omega
  have hse : g_se G < 1000 := by have := gi_S hG; omega
  have hl' := fun f => ml_rp (G := G) (ml_fdp (f := f) hl) hc
  have n7 : ∀ f, (rput (fdp u f) c G).2.1 159 7 = nI (v_Q V) := fun f => (hl' f).1.2.2.2.1
  have hd := fun f q hq => w_deedsFor (u := rput (fdp u f) c G) (q := q) (s := g_se G) hm (hl' f) hE rp_at hk hz hro hq (by omega)
  have hm0 := hm
  obtain ⟨km, ⟨mk157, mk158, mk159, mk160, mk161, mk162, mk163, mk164, mk165, mk166, mk167, mk168, mk169, mk170, mk171, mk172, mk173, mk174⟩, ⟨mz157, mz158, mz159, mz160, mz161, mz162, mz163, mz164, mz165, mz166, mz167, mz168, mz169, mz170, mz171, mz172, mz173, mz174⟩, mr1, mr12, mr15, mr16, mr17, mr18, mr19, mr22, mr23, mr24, mr25, mr26, mr27, mr28, mr29, mr33, mr34, mr36⟩ := hm
  have fk : ∀ f a, am_kd (fdp u f) a = am_kd u a := fun f a => rfl
  have fz : ∀ f a, am_sz (fdp u f) a = am_sz u a := fun f a => rfl
  have f2 : ∀ f, (fdp u f).2.2 = u.2.2 := fun f => rfl
  have fl : ∀ f, am_len (fdp u f) = am_len u := fun f => rfl
  have fw : ∀ f, am_wt (fdp u f) = am_wt u := fun f => rfl
  have l : am_lp 5000 2 f_X7_seasonAsTold_l2 ([some (.ref 156), some (.ref c), some (.int 0)], [], rput (fdp u f) c G) = some (.inl (35, [some (.ref 156), some (.ref c), some (.int (nI (v_Q V)))], [], rput (fdp u (fun j => if j < v_Q V then nI (s_ded V E G j (g_se G)) else f j)) c G)) := by
    refine am_fr0 (fun k => ([some (.ref 156), some (.ref c), some (.int (nI k))], [], rput (fdp u (fun j => if j < k then nI (s_ded V E G j (g_se G)) else f j)) c G)) (v_Q V) (by simp [nI]) (by omega) (by decide) ?_ ?_
    · intro k hkk
      have h2 : ¬ v_Q V ≤ k := by omega
      have e9 : va_up (fun j => if j < k then nI (s_ded V E G j (g_se G)) else f j) k (nI (s_ded V E G k (g_se G))) = fun j => if j < k + 1 then nI (s_ded V E G j (g_se G)) else f j := by
        funext j
        unfold va_up
        by_cases e : j = k
        · subst e; simp
        · have : j < k + 1 ↔ j < k := by omega
          simp [e, this]
      simp (disch := omega) only [f_X7_seasonAsTold_l2, ev_il0, ev_ll0, ev_al0, ev_il1, ev_ll1, ev_al1, ev_il2, ev_ll2, ev_al2, ev_il3, ev_ll3, ev_al3, ev_il4, ev_ll4, ev_al4, ev_il5, ev_ll5, ev_al5, ev_il6, ev_ll6, ev_al6, ev_il7, ev_ll7, ev_al7, ev_il8, ev_ll8, ev_al8, ev_il9, ev_ll9, ev_al9, ev_il10, ev_ll10, ev_al10, ev_il11, ev_ll11, ev_al11, ev_il12, ev_ll12, ev_al12, ev_il13, ev_ll13, ev_al13, ev_il14, ev_ll14, ev_al14, ev_il15, ev_ll15, ev_al15, ev_il16, ev_ll16, ev_al16, ev_il17, ev_ll17, ev_al17, ev_il18, ev_ll18, ev_al18, ev_il19, ev_ll19, ev_al19, am_k1_i, am_k1_r, am_k1_l, am_k1_n, ev_is0, ev_as0, ev_ls0, ev_inc0, ev_is1, ev_as1, ev_ls1, ev_inc1, ev_is2, ev_as2, ev_ls2, ev_inc2, ev_is3, ev_as3, ev_ls3, ev_inc3, ev_is4, ev_as4, ev_ls4, ev_inc4, ev_is5, ev_as5, ev_ls5, ev_inc5, ev_is6, ev_as6, ev_ls6, ev_inc6, ev_is7, ev_as7, ev_ls7, ev_inc7, ev_is8, ev_as8, ev_ls8, ev_inc8, ev_is9, ev_as9, ev_ls9, ev_inc9, ev_is10, ev_as10, ev_ls10, ev_inc10, ev_is11, ev_as11, ev_ls11, ev_inc11, ev_is12, ev_as12, ev_ls12, ev_inc12, ev_is13, ev_as13, ev_ls13, ev_inc13, ev_is14, ev_as14, ev_ls14, ev_inc14, ev_is15, ev_as15, ev_ls15, ev_inc15, ev_is16, ev_as16, ev_ls16, ev_inc16, ev_is17, ev_as17, ev_ls17, ev_inc17, ev_is18, ev_as18, ev_ls18, ev_inc18, ev_is19, ev_as19, ev_ls19, ev_inc19, ev_ic, ev_lc, ev_sg, ev_1, ev_2, ev_2n, ev_j2, ev_j2n, ev_cmp, ev_i2l, ev_dup_int, ev_pop_int, ev_dup_ref, ev_pop_ref, ev_dup2, am_sm_nil, am_sm_i, am_sm_r, am_sm_l, ev_oi, ev_mx, ev_gi, ev_gl, ev_gr, ev_pi, ev_pl, ev_pr, ev_pz, ev_ia, ev_la, ev_aa, ev_iS, ev_bS, ev_lS, ev_aS, am_ret_s, am_ret_n, ev_cs0, ev_cv0, ev_ct0, ev_cs1, ev_cv1, ev_ct1, ev_cs2, ev_cv2, ev_cs3, ev_cv3, ev_cs4, ev_cv4, ev_cs5, ev_cv5, ev_cs6, ev_to, ev_b1, ev_b2, ev_sq, am_jn_l, am_jn_r, am_jn_n, am_jn_if, ev_rv, ev_ri, ev_rl, ev_rz, am_fin_r, am_fin_n, am_fin_if, am_den_eq, am_ent_nil, am_ent_i, am_ent_r, am_ent_l, am_rf_s, am_rf_n, am_kd_I, am_kd_J, am_kd_R, am_sz_I, am_sz_J, am_sz_R, am_h_I, am_h_J, am_h_R, am_len_I, am_len_J, am_len_R, am_wt_I, am_wt_J, am_wt_R, am_II, am_IJ, am_IR, am_JI, am_JJ, am_JR, am_RI, am_RJ, am_RR, not_false_eq_true, not_true_eq_false, and_self, and_true, true_and, and_false, false_and, or_self, or_true, true_or, or_false, false_or, if_true, if_false, ↓reduceIte, ite_not, Nat.le_refl, Nat.zero_le, List.length_cons, List.length_nil, List.replicate, List.append_nil, List.cons_append, List.nil_append, Nat.reduceAdd, Nat.reduceSub, Nat.reduceLeDiff, Nat.reduceEqDiff, decide_eq_true_eq, decide_eq_false_iff_not, nx_neg, nx_le, nx_leI, nx_ltI, nx_eqI, am_clm, nI_1, nI_add, nx_b01, nx_b0, nx_b1, nx_pos, nx_le0, nx_ge0, nx_eq0, nx_em, nx_i10, nx_i01, nx_4, nx_12, nx_2, nx_6, nx_div, nx_rem, nx_rem2, nx_rem3, nx_mul, Nat.not_lt_zero, Nat.lt_irrefl, Nat.reduceLT, nz_0, nz_1, nz_00, nz_10, nz_a0, nz_0a, Nat.reduceMul, Nat.reduceDiv, Nat.reduceMod, nl_2, nl_3, nl_4, nl_5, nl_6, nl_8, nl_10, nl_11, nl_12, nl_16, nl_18, nl_20, nl_24, nl_25, nl_26, nl_30, nl_48, nl_60, nl_64, nl_75, nl_74, nl_99, nl_100, nl_112, nl_124, nl_200, nl_220, nl_255, nl_900, nl_999, nl_1000000, nl_65536, nl_65537, nl_7, nl_9, nl_14, nl_13, nl_15, nl_17, nl_19, nl_21, nl_22, nl_23, nl_27, nl_32, nl_40, nl_50, nl_57, nl_97, nl_108, nl_122, km, mk157, mk158, mk159, mk160, mk161, mk162, mk163, mk164, mk165, mk166, mk167, mk168, mk169, mk170, mk171, mk172, mk173, mk174, mz157, mz158, mz159, mz160, mz161, mz162, mz163, mz164, mz165, mz166, mz167, mz168, mz169, mz170, mz171, mz172, mz173, mz174, mr1, mr12, mr15, mr16, mr17, mr18, mr19, mr22, mr23, mr24, mr25, mr26, mr27, mr28, mr29, mr33, mr34, mr36, rp_2, rp_kd, rp_sz, rp_len, rp_wt, rp_vi, rp_on, rp_fr, rp_su, rp_se, rp_pa, rs_vi, rs_fr, rs_su, rs_se, rs_pa, rs_vi0, g_se_m, g_pa_m, g_vi_m, g_ro_m, g_fr_m, g_su_m, n7, hd, hk, hz, h2, fk, fz, f2, fl, fw, rp_uI, fdp_s]
      rw [e9]
    · simp (disch := omega) only [f_X7_seasonAsTold_l2, ev_il0, ev_ll0, ev_al0, ev_il1, ev_ll1, ev_al1, ev_il2, ev_ll2, ev_al2, ev_il3, ev_ll3, ev_al3, ev_il4, ev_ll4, ev_al4, ev_il5, ev_ll5, ev_al5, ev_il6, ev_ll6, ev_al6, ev_il7, ev_ll7, ev_al7, ev_il8, ev_ll8, ev_al8, ev_il9, ev_ll9, ev_al9, ev_il10, ev_ll10, ev_al10, ev_il11, ev_ll11, ev_al11, ev_il12, ev_ll12, ev_al12, ev_il13, ev_ll13, ev_al13, ev_il14, ev_ll14, ev_al14, ev_il15, ev_ll15, ev_al15, ev_il16, ev_ll16, ev_al16, ev_il17, ev_ll17, ev_al17, ev_il18, ev_ll18, ev_al18, ev_il19, ev_ll19, ev_al19, am_k1_i, am_k1_r, am_k1_l, am_k1_n, ev_is0, ev_as0, ev_ls0, ev_inc0, ev_is1, ev_as1, ev_ls1, ev_inc1, ev_is2, ev_as2, ev_ls2, ev_inc2, ev_is3, ev_as3, ev_ls3, ev_inc3, ev_is4, ev_as4, ev_ls4, ev_inc4, ev_is5, ev_as5, ev_ls5, ev_inc5, ev_is6, ev_as6, ev_ls6, ev_inc6, ev_is7, ev_as7, ev_ls7, ev_inc7, ev_is8, ev_as8, ev_ls8, ev_inc8, ev_is9, ev_as9, ev_ls9, ev_inc9, ev_is10, ev_as10, ev_ls10, ev_inc10, ev_is11, ev_as11, ev_ls11, ev_inc11, ev_is12, ev_as12, ev_ls12, ev_inc12, ev_is13, ev_as13, ev_ls13, ev_inc13, ev_is14, ev_as14, ev_ls14, ev_inc14, ev_is15, ev_as15, ev_ls15, ev_inc15, ev_is16, ev_as16, ev_ls16, ev_inc16, ev_is17, ev_as17, ev_ls17, ev_inc17, ev_is18, ev_as18, ev_ls18, ev_inc18, ev_is19, ev_as19, ev_ls19, ev_inc19, ev_ic, ev_lc, ev_sg, ev_1, ev_2, ev_2n, ev_j2, ev_j2n, ev_cmp, ev_i2l, ev_dup_int, ev_pop_int, ev_dup_ref, ev_pop_ref, ev_dup2, am_sm_nil, am_sm_i, am_sm_r, am_sm_l, ev_oi, ev_mx, ev_gi, ev_gl, ev_gr, ev_pi, ev_pl, ev_pr, ev_pz, ev_ia, ev_la, ev_aa, ev_iS, ev_bS, ev_lS, ev_aS, am_ret_s, am_ret_n, ev_cs0, ev_cv0, ev_ct0, ev_cs1, ev_cv1, ev_ct1, ev_cs2, ev_cv2, ev_cs3, ev_cv3, ev_cs4, ev_cv4, ev_cs5, ev_cv5, ev_cs6, ev_to, ev_b1, ev_b2, ev_sq, am_jn_l, am_jn_r, am_jn_n, am_jn_if, ev_rv, ev_ri, ev_rl, ev_rz, am_fin_r, am_fin_n, am_fin_if, am_den_eq, am_ent_nil, am_ent_i, am_ent_r, am_ent_l, am_rf_s, am_rf_n, am_kd_I, am_kd_J, am_kd_R, am_sz_I, am_sz_J, am_sz_R, am_h_I, am_h_J, am_h_R, am_len_I, am_len_J, am_len_R, am_wt_I, am_wt_J, am_wt_R, am_II, am_IJ, am_IR, am_JI, am_JJ, am_JR, am_RI, am_RJ, am_RR, not_false_eq_true, not_true_eq_false, and_self, and_true, true_and, and_false, false_and, or_self, or_true, true_or, or_false, false_or, if_true, if_false, ↓reduceIte, ite_not, Nat.le_refl, Nat.zero_le, List.length_cons, List.length_nil, List.replicate, List.append_nil, List.cons_append, List.nil_append, Nat.reduceAdd, Nat.reduceSub, Nat.reduceLeDiff, Nat.reduceEqDiff, decide_eq_true_eq, decide_eq_false_iff_not, nx_neg, nx_le, nx_leI, nx_ltI, nx_eqI, am_clm, nI_1, nI_add, nx_b01, nx_b0, nx_b1, nx_pos, nx_le0, nx_ge0, nx_eq0, nx_em, nx_i10, nx_i01, nx_4, nx_12, nx_2, nx_6, nx_div, nx_rem, nx_rem2, nx_rem3, nx_mul, Nat.not_lt_zero, Nat.lt_irrefl, Nat.reduceLT, nz_0, nz_1, nz_00, nz_10, nz_a0, nz_0a, Nat.reduceMul, Nat.reduceDiv, Nat.reduceMod, nl_2, nl_3, nl_4, nl_5, nl_6, nl_8, nl_10, nl_11, nl_12, nl_16, nl_18, nl_20, nl_24, nl_25, nl_26, nl_30, nl_48, nl_60, nl_64, nl_75, nl_74, nl_99, nl_100, nl_112, nl_124, nl_200, nl_220, nl_255, nl_900, nl_999, nl_1000000, nl_65536, nl_65537, nl_7, nl_9, nl_14, nl_13, nl_15, nl_17, nl_19, nl_21, nl_22, nl_23, nl_27, nl_32, nl_40, nl_50, nl_57, nl_97, nl_108, nl_122, km, mk157, mk158, mk159, mk160, mk161, mk162, mk163, mk164, mk165, mk166, mk167, mk168, mk169, mk170, mk171, mk172, mk173, mk174, mz157, mz158, mz159, mz160, mz161, mz162, mz163, mz164, mz165, mz166, mz167, mz168, mz169, mz170, mz171, mz172, mz173, mz174, mr1, mr12, mr15, mr16, mr17, mr18, mr19, mr22, mr23, mr24, mr25, mr26, mr27, mr28, mr29, mr33, mr34, mr36, rp_2, rp_kd, rp_sz, rp_len, rp_wt, rp_vi, rp_on, rp_fr, rp_su, rp_se, rp_pa, rs_vi, rs_fr, rs_su, rs_se, rs_pa, rs_vi0, g_se_m, g_pa_m, g_vi_m, g_ro_m, g_fr_m, g_su_m, n7, fk, fz, f2]
  have hB2 := w_seasonBy (u := fdp u (fun j => if j < v_Q V then nI (s_ded V E G j (g_se G)) else f j)) (c := c) (G := G) (fd := fun j => s_ded V E G j (g_se G)) hm0 (ml_fdp hl) hE hc hc2 hk hz hro hvi hse (fun j hj => by
    unfold fdp
    rw [rn_a0 (by omega), if_pos hj]) (fun j hj => by have := s_ded_le (G := G) (q := j) (s := g_se G) hE; omega)
  have e1 := fell_c hQ (fd_eq hE hG)
  have e2 := rp_c (u := fdp u (fun j => if j < v_Q V then nI (s_ded V E G j (g_se G)) else f j)) (c := c) (ripen_c hQ (fd_eq hE hG))
  rw [e1, e2] at hB2
  refine ⟨fun j => if j < v_Q V then nI (s_ded V E G j (g_se G)) else f j, ?_⟩
  simp (disch := omega) only [d_X7_seasonAsTold, f_X7_seasonAsTold, ev_il0, ev_ll0, ev_al0, ev_il1, ev_ll1, ev_al1, ev_il2, ev_ll2, ev_al2, ev_il3, ev_ll3, ev_al3, ev_il4, ev_ll4, ev_al4, ev_il5, ev_ll5, ev_al5, ev_il6, ev_ll6, ev_al6, ev_il7, ev_ll7, ev_al7, ev_il8, ev_ll8, ev_al8, ev_il9, ev_ll9, ev_al9, ev_il10, ev_ll10, ev_al10, ev_il11, ev_ll11, ev_al11, ev_il12, ev_ll12, ev_al12, ev_il13, ev_ll13, ev_al13, ev_il14, ev_ll14, ev_al14, ev_il15, ev_ll15, ev_al15, ev_il16, ev_ll16, ev_al16, ev_il17, ev_ll17, ev_al17, ev_il18, ev_ll18, ev_al18, ev_il19, ev_ll19, ev_al19, am_k1_i, am_k1_r, am_k1_l, am_k1_n, ev_is0, ev_as0, ev_ls0, ev_inc0, ev_is1, ev_as1, ev_ls1, ev_inc1, ev_is2, ev_as2, ev_ls2, ev_inc2, ev_is3, ev_as3, ev_ls3, ev_inc3, ev_is4, ev_as4, ev_ls4, ev_inc4, ev_is5, ev_as5, ev_ls5, ev_inc5, ev_is6, ev_as6, ev_ls6, ev_inc6, ev_is7, ev_as7, ev_ls7, ev_inc7, ev_is8, ev_as8, ev_ls8, ev_inc8, ev_is9, ev_as9, ev_ls9, ev_inc9, ev_is10, ev_as10, ev_ls10, ev_inc10, ev_is11, ev_as11, ev_ls11, ev_inc11, ev_is12, ev_as12, ev_ls12, ev_inc12, ev_is13, ev_as13, ev_ls13, ev_inc13, ev_is14, ev_as14, ev_ls14, ev_inc14, ev_is15, ev_as15, ev_ls15, ev_inc15, ev_is16, ev_as16, ev_ls16, ev_inc16, ev_is17, ev_as17, ev_ls17, ev_inc17, ev_is18, ev_as18, ev_ls18, ev_inc18, ev_is19, ev_as19, ev_ls19, ev_inc19, ev_ic, ev_lc, ev_sg, ev_1, ev_2, ev_2n, ev_j2, ev_j2n, ev_cmp, ev_i2l, ev_dup_int, ev_pop_int, ev_dup_ref, ev_pop_ref, ev_dup2, am_sm_nil, am_sm_i, am_sm_r, am_sm_l, ev_oi, ev_mx, ev_gi, ev_gl, ev_gr, ev_pi, ev_pl, ev_pr, ev_pz, ev_ia, ev_la, ev_aa, ev_iS, ev_bS, ev_lS, ev_aS, am_ret_s, am_ret_n, ev_cs0, ev_cv0, ev_ct0, ev_cs1, ev_cv1, ev_ct1, ev_cs2, ev_cv2, ev_cs3, ev_cv3, ev_cs4, ev_cv4, ev_cs5, ev_cv5, ev_cs6, ev_to, ev_b1, ev_b2, ev_sq, am_jn_l, am_jn_r, am_jn_n, am_jn_if, ev_rv, ev_ri, ev_rl, ev_rz, am_fin_r, am_fin_n, am_fin_if, am_den_eq, am_ent_nil, am_ent_i, am_ent_r, am_ent_l, am_rf_s, am_rf_n, am_kd_I, am_kd_J, am_kd_R, am_sz_I, am_sz_J, am_sz_R, am_h_I, am_h_J, am_h_R, am_len_I, am_len_J, am_len_R, am_wt_I, am_wt_J, am_wt_R, am_II, am_IJ, am_IR, am_JI, am_JJ, am_JR, am_RI, am_RJ, am_RR, not_false_eq_true, not_true_eq_false, and_self, and_true, true_and, and_false, false_and, or_self, or_true, true_or, or_false, false_or, if_true, if_false, ↓reduceIte, ite_not, Nat.le_refl, Nat.zero_le, List.length_cons, List.length_nil, List.replicate, List.append_nil, List.cons_append, List.nil_append, Nat.reduceAdd, Nat.reduceSub, Nat.reduceLeDiff, Nat.reduceEqDiff, decide_eq_true_eq, decide_eq_false_iff_not, nx_neg, nx_le, nx_leI, nx_ltI, nx_eqI, am_clm, nI_1, nI_add, nx_b01, nx_b0, nx_b1, nx_pos, nx_le0, nx_ge0, nx_eq0, nx_em, nx_i10, nx_i01, nx_4, nx_12, nx_2, nx_6, nx_div, nx_rem, nx_rem2, nx_rem3, nx_mul, Nat.not_lt_zero, Nat.lt_irrefl, Nat.reduceLT, nz_0, nz_1, nz_00, nz_10, nz_a0, nz_0a, Nat.reduceMul, Nat.reduceDiv, Nat.reduceMod, nl_2, nl_3, nl_4, nl_5, nl_6, nl_8, nl_10, nl_11, nl_12, nl_16, nl_18, nl_20, nl_24, nl_25, nl_26, nl_30, nl_48, nl_60, nl_64, nl_75, nl_74, nl_99, nl_100, nl_112, nl_124, nl_200, nl_220, nl_255, nl_900, nl_999, nl_1000000, nl_65536, nl_65537, nl_7, nl_9, nl_14, nl_13, nl_15, nl_17, nl_19, nl_21, nl_22, nl_23, nl_27, nl_32, nl_40, nl_50, nl_57, nl_97, nl_108, nl_122, km, mk157, mk158, mk159, mk160, mk161, mk162, mk163, mk164, mk165, mk166, mk167, mk168, mk169, mk170, mk171, mk172, mk173, mk174, mz157, mz158, mz159, mz160, mz161, mz162, mz163, mz164, mz165, mz166, mz167, mz168, mz169, mz170, mz171, mz172, mz173, mz174, mr1, mr12, mr15, mr16, mr17, mr18, mr19, mr22, mr23, mr24, mr25, mr26, mr27, mr28, mr29, mr33, mr34, mr36, rp_2, rp_kd, rp_sz, rp_len, rp_wt, rp_vi, rp_on, rp_fr, rp_su, rp_se, rp_pa, rs_vi, rs_fr, rs_su, rs_se, rs_pa, rs_vi0, g_se_m, g_pa_m, g_vi_m, g_ro_m, g_fr_m, g_su_m, l, fk, fz, f2, fl, fw, hB2]
  rfl
-- what is kept of a garden
theorem gi_c {G2 : gS} (h : gd_eq G G2) (hG : GI V G B S) (hQ : v_Q V ≤ 6) : GI V G2 B S := by
  obtain ⟨h1, h2, h3, h4, h5, h6⟩ := h
  obtain ⟨a1, a2, a3, a4, a5, a6, a7, a8, a9⟩ := hG
  refine ⟨fun j hj => ?_, fun j hj => ?_, fun j hj => ?_, fun j q hj => ?_, fun j hj => ?_, fun j q hj => ?_, ?_, ?_, fun j hj => ?_⟩
  · rw [← h4 j hj]; exact a1 j hj
  · rw [← h4 j (by omega)]; exact a2 j hj
  · rw [← h4 j hj, ← h4 _ (a1 j hj)]; exact a3 j hj
  · rw [← h4 j hj]; exact a4 j q hj
  · rw [← h4 j hj, ← h3 j hj]; exact a5 j hj
  · rw [← h3 j hj, ← h5 j hj, ← h6 j hj]; exact a6 j q hj
  · rw [← sumf_c 6 h3]; exact a7
  · rw [← h1]; exact a8
  · rw [← h5 j hj, ← h6 j hj]; exact a9 j hj
theorem s_fv_sum (hfo : ∀ j, j < 144 → v_fo V j ≤ 108) (hro : ∀ j, j < 6 → g_ro G j < 6) : ∀ n, n ≤ 6 → sumf (s_fv V G n) 6 ≤ sumf (g_vi G) 6 + n * 108
  | 0, _ => by simp [s_fv]
  | n + 1, hn => by
    have ih := s_fv_sum hfo hro n (by omega)
    have h := sumf_up (f := s_fv V G n) (i := g_ro G n) (x := s_fv V G n (g_ro G n) + v_fd V n (g_se G)) 6 (hro n (by omega))
    have h2 := v_fd_le (V := V) (q := n) (s := g_se G) hfo (by omega)
    show sumf (va_up (s_fv V G n) (g_ro G n) (s_fv V G n (g_ro G n) + v_fd V n (g_se G))) 6 ≤ _
    omega
theorem gi_feed (hE : VE V E) (hG : GI V G B S) : GI V (s_feed V G) (B + 648) S := by
  have hQ := ve_Q hE
  have hz : ∀ j, (∀ k, k < v_Q V → g_ro G k ≠ j) → s_fv V G (v_Q V) j = g_vi G j := by
    intro j hj
    rw [s_fv_eq, sumf_c (g := fun _ => 0) _ (fun k hk => if_neg (hj k hk)), sumf_z, Nat.add_zero]
  refine ⟨hG.1, hG.2.1, hG.2.2.1, hG.2.2.2.1, fun j hj h => ?_, fun j hq hj => ⟨?_, (gi_z hG j hq hj).2⟩, ?_, hG.2.2.2.2.2.2.2.1, hG.2.2.2.2.2.2.2.2⟩
  · show s_fv V G (v_Q V) j = 0
    rw [hz j (fun k hk q => h (by rw [← q]; exact gi_rr hG k (by omega)))]
    exact gi_v0 hG j hj h
  · show s_fv V G (v_Q V) j = 0
    rw [hz j (fun k hk q => by have := gi_rQ hG k hk; omega)]
    exact (gi_z hG j hq hj).1
  · have := s_fv_sum (ve_fo hE) (gi_r6 hG) (v_Q V) hQ
    have h2 := gi_B hG
    show sumf (s_fv V G (v_Q V)) 6 ≤ B + 648
    omega
theorem gi_ripen (hQ : v_Q V ≤ 6) (hG : GI V G B S) : GI V (s_ripen V G) B (S + 1) := by
  refine gi_c (s_ripen_eq (V := V) (G := G)) ⟨hG.1, hG.2.1, hG.2.2.1, hG.2.2.2.1, fun j hj h => ?_, fun j hq hj => ⟨?_, ?_, ?_⟩, ?_, ?_, fun j hj => ⟨?_, ?_⟩⟩ hQ
  · show (if j < v_Q V then s_rv V G j else g_vi G j) = 0
    have h1 := gi_v0 hG j hj h
    have h2 := @s_rv_le V G j
    split <;> omega
  · show (if j < v_Q V then s_rv V G j else g_vi G j) = 0
    rw [if_neg (by omega)]
    exact (gi_z hG j hq hj).1
  · show (if j < v_Q V then s_rf V G j else g_fr G j) = 0
    rw [if_neg (by omega)]
    exact (gi_z hG j hq hj).2.1
  · show (if j < v_Q V then s_rs V G j else g_su G j) = 0
    rw [if_neg (by omega)]
    exact (gi_z hG j hq hj).2.2
  · refine Nat.le_trans (sumf_le2 6 fun j _ => ?_) (gi_B hG)
    show (if j < v_Q V then s_rv V G j else g_vi G j) ≤ g_vi G j
    have h2 := @s_rv_le V G j
    split <;> omega
  · have := gi_S hG
    show g_se G + 1 ≤ S + 1
    omega
  · have := (gi_f hG j hj).1
    show (if j < v_Q V then s_rf V G j else g_fr G j) ≤ S + 1
    unfold s_rf
    split
    · split <;> omega
    · omega
  · have := (gi_f hG j hj).2
    show (if j < v_Q V then s_rs V G j else g_su G j) ≤ S + 1
    have h2 : s_sk V (s_rip V G) j ≤ g_su G j + 1 := by
      have e : g_su (s_rip V G) j = g_su G j := rfl
      unfold s_sk
      rw [e]
      split <;> omega
    unfold s_rs
    split
    · split <;> omega
    · omega
theorem gi_pass (hE : VE V E) (hG : GI V G B S) : GI V (s_pass V G) (B + 648) (S + 1) := gi_ripen (ve_Q hE) (gi_feed hE hG)
theorem gi_join {a b : Nat} (hQ : v_Q V ≤ 6) (hG : GI V G B S) (ha : a < v_Q V) (hb0 : b < v_Q V) (hab : a ≠ b) (hra : g_ro G a = a) (hrb : g_ro G b = b) : GI V (s_join G a b) B S := by
  refine ⟨fun j hj => ?_, fun j hj => ?_, fun j hj => ?_, fun j hq hj => ?_, fun j hj h => ?_, fun j hq hj => ⟨?_, (gi_z hG j hq hj).2⟩, ?_, hG.2.2.2.2.2.2.2.1, hG.2.2.2.2.2.2.2.2⟩
  · have := gi_r6 hG j hj
    show (if g_ro G j = a then b else g_ro G j) < 6
    split <;> omega
  · have := gi_rQ hG j hj
    show (if g_ro G j = a then b else g_ro G j) < v_Q V
    split <;> omega
  · show (if g_ro G (if g_ro G j = a then b else g_ro G j) = a then b else g_ro G (if g_ro G j = a then b else g_ro G j)) = (if g_ro G j = a then b else g_ro G j)
    have h1 := gi_rr hG j hj
    by_cases q : g_ro G j = a
    · rw [if_pos q, hrb, if_neg (Ne.symm hab)]
    · rw [if_neg q, h1, if_neg q]
  · show (if g_ro G j = a then b else g_ro G j) = j
    have := gi_rs hG j hq hj
    rw [this, if_neg (by omega)]
  · have h' : (if g_ro G j = a then b else g_ro G j) ≠ j := h
    show va_up (va_up (g_vi G) b (g_vi G b + g_vi G a / 2)) a 0 j = 0
    by_cases q : j = a
    · subst q; rw [up_eq]
    · rw [up_ne q]
      by_cases q2 : j = b
      · subst q2
        rw [hrb, if_neg q] at h'
        exact absurd rfl h'
      · rw [up_ne q2]
        refine gi_v0 hG j hj fun q3 => h' ?_
        rw [q3, if_neg q]
  · show va_up (va_up (g_vi G) b (g_vi G b + g_vi G a / 2)) a 0 j = 0
    rw [up_ne (by omega), up_ne (by omega)]
    exact (gi_z hG j hq hj).1
  · show sumf (va_up (va_up (g_vi G) b (g_vi G b + g_vi G a / 2)) a 0) 6 ≤ B
    have h1 := sumf_up (f := va_up (g_vi G) b (g_vi G b + g_vi G a / 2)) (i := a) (x := 0) 6 (by omega)
    have h2 := sumf_up (f := g_vi G) (i := b) (x := g_vi G b + g_vi G a / 2) 6 (by omega)
    rw [up_ne hab] at h1
    have := gi_B hG
    omega
theorem gi_plant (hE : VE V E) : GI V (s_plant V) 180 0 := by
  have hQ := ve_Q hE
  have hv := ve_vi hE
  refine ⟨fun j hj => hj, fun j hj => hj, fun j hj => rfl, fun j hq hj => rfl, fun j hj h => absurd rfl h, fun j hq hj => ⟨if_neg (by omega), rfl, rfl⟩, ?_, Nat.le_refl _, fun j hj => ⟨Nat.le_refl _, Nat.le_refl _⟩⟩
  refine sumf_le (B := 30) 6 fun j hj => ?_
  show (if j < v_Q V then v_vi V j else 0) ≤ 30
  split
  · next h => exact hv j h
  · omega
/-- so many seasons by the deeds told -/
def s_go (V : vS) (G : gS) : Nat → gS
  | 0 => G
  | n + 1 => s_pass V (s_go V G n)
theorem gi_go (hE : VE V E) (hG : GI V G B S) : ∀ n, GI V (s_go V G n) (B + 648 * n) (S + n)
  | 0 => hG
  | n + 1 => gi_mono (gi_pass hE (gi_go hE hG n)) (by omega) (by omega)
theorem w_goes {f : Nat → Int32} {n : Nat} (hm : md_ok u) (hl : ml_at u 159 V E) (hE : VE V E) (hc : c ≠ 159) (hc2 : c ≠ 164) (hk : am_kd u c = some 0) (hz : am_sz u c = 26) (hG : GI V G B S) (hB : B < 700000) (hS : S < 800) (hn : n < 100) : ∃ f', d_X7_goes [.ref 156, .ref c, .int (nI n)] (rput (fdp u f) c G) = some (none, rput (fdp u f') c (s_go V G n)) := by
  have ht := fun k (hk2 : k < n) f => w_seasonAsTold (f := f) hm hl hE hc hc2 hk hz (gi_go hE hG k) (by omega) (by omega)
  obtain ⟨km, ⟨mk157, mk158, mk159, mk160, mk161, mk162, mk163, mk164, mk165, mk166, mk167, mk168, mk169, mk170, mk171, mk172, mk173, mk174⟩, ⟨mz157, mz158, mz159, mz160, mz161, mz162, mz163, mz164, mz165, mz166, mz167, mz168, mz169, mz170, mz171, mz172, mz173, mz174⟩, mr1, mr12, mr15, mr16, mr17, mr18, mr19, mr22, mr23, mr24, mr25, mr26, mr27, mr28, mr29, mr33, mr34, mr36⟩ := hm
  have fk : ∀ f a, am_kd (fdp u f) a = am_kd u a := fun f a => rfl
  have fl : ∀ f, am_len (fdp u f) = am_len u := fun f => rfl
  have fw : ∀ f, am_wt (fdp u f) = am_wt u := fun f => rfl
  obtain ⟨D, l, f', rfl⟩ := am_frP (h := 2) (e := 19) (n := 5000) (f := f_X7_goes_l2) (c0 := ([some (.ref 156), some (.ref c), some (.int (nI n)), some (.int 0)], [], rput (fdp u f) c G)) (fun k cf => ∃ f', cf = ([some (.ref 156), some (.ref c), some (.int (nI n)), some (.int (nI k))], [], rput (fdp u f') c (s_go V G k))) (fun cf => ∃ f', cf = ([some (.ref 156), some (.ref c), some (.int (nI n)), some (.int (nI n))], [], rput (fdp u f') c (s_go V G n))) n ⟨f, rfl⟩ (by omega) (by decide) (by
    rintro k cf hkk ⟨f1, rfl⟩
    obtain ⟨f2, h2⟩ := ht k hkk f1
    have h3 : ¬ n ≤ k := by omega
    refine ⟨_, ?_, f2, rfl⟩
    simp (disch := omega) only [f_X7_goes_l2, ev_il0, ev_ll0, ev_al0, ev_il1, ev_ll1, ev_al1, ev_il2, ev_ll2, ev_al2, ev_il3, ev_ll3, ev_al3, ev_il4, ev_ll4, ev_al4, ev_il5, ev_ll5, ev_al5, ev_il6, ev_ll6, ev_al6, ev_il7, ev_ll7, ev_al7, ev_il8, ev_ll8, ev_al8, ev_il9, ev_ll9, ev_al9, ev_il10, ev_ll10, ev_al10, ev_il11, ev_ll11, ev_al11, ev_il12, ev_ll12, ev_al12, ev_il13, ev_ll13, ev_al13, ev_il14, ev_ll14, ev_al14, ev_il15, ev_ll15, ev_al15, ev_il16, ev_ll16, ev_al16, ev_il17, ev_ll17, ev_al17, ev_il18, ev_ll18, ev_al18, ev_il19, ev_ll19, ev_al19, am_k1_i, am_k1_r, am_k1_l, am_k1_n, ev_is0, ev_as0, ev_ls0, ev_inc0, ev_is1, ev_as1, ev_ls1, ev_inc1, ev_is2, ev_as2, ev_ls2, ev_inc2, ev_is3, ev_as3, ev_ls3, ev_inc3, ev_is4, ev_as4, ev_ls4, ev_inc4, ev_is5, ev_as5, ev_ls5, ev_inc5, ev_is6, ev_as6, ev_ls6, ev_inc6, ev_is7, ev_as7, ev_ls7, ev_inc7, ev_is8, ev_as8, ev_ls8, ev_inc8, ev_is9, ev_as9, ev_ls9, ev_inc9, ev_is10, ev_as10, ev_ls10, ev_inc10, ev_is11, ev_as11, ev_ls11, ev_inc11, ev_is12, ev_as12, ev_ls12, ev_inc12, ev_is13, ev_as13, ev_ls13, ev_inc13, ev_is14, ev_as14, ev_ls14, ev_inc14, ev_is15, ev_as15, ev_ls15, ev_inc15, ev_is16, ev_as16, ev_ls16, ev_inc16, ev_is17, ev_as17, ev_ls17, ev_inc17, ev_is18, ev_as18, ev_ls18, ev_inc18, ev_is19, ev_as19, ev_ls19, ev_inc19, ev_ic, ev_lc, ev_sg, ev_1, ev_2, ev_2n, ev_j2, ev_j2n, ev_cmp, ev_i2l, ev_dup_int, ev_pop_int, ev_dup_ref, ev_pop_ref, ev_dup2, am_sm_nil, am_sm_i, am_sm_r, am_sm_l, ev_oi, ev_mx, ev_gi, ev_gl, ev_gr, ev_pi, ev_pl, ev_pr, ev_pz, ev_ia, ev_la, ev_aa, ev_iS, ev_bS, ev_lS, ev_aS, am_ret_s, am_ret_n, ev_cs0, ev_cv0, ev_ct0, ev_cs1, ev_cv1, ev_ct1, ev_cs2, ev_cv2, ev_cs3, ev_cv3, ev_cs4, ev_cv4, ev_cs5, ev_cv5, ev_cs6, ev_to, ev_b1, ev_b2, ev_sq, am_jn_l, am_jn_r, am_jn_n, am_jn_if, ev_rv, ev_ri, ev_rl, ev_rz, am_fin_r, am_fin_n, am_fin_if, am_den_eq, am_ent_nil, am_ent_i, am_ent_r, am_ent_l, am_rf_s, am_rf_n, am_kd_I, am_kd_J, am_kd_R, am_sz_I, am_sz_J, am_sz_R, am_h_I, am_h_J, am_h_R, am_len_I, am_len_J, am_len_R, am_wt_I, am_wt_J, am_wt_R, am_II, am_IJ, am_IR, am_JI, am_JJ, am_JR, am_RI, am_RJ, am_RR, not_false_eq_true, not_true_eq_false, and_self, and_true, true_and, and_false, false_and, or_self, or_true, true_or, or_false, false_or, if_true, if_false, ↓reduceIte, ite_not, Nat.le_refl, Nat.zero_le, List.length_cons, List.length_nil, List.replicate, List.append_nil, List.cons_append, List.nil_append, Nat.reduceAdd, Nat.reduceSub, Nat.reduceLeDiff, Nat.reduceEqDiff, decide_eq_true_eq, decide_eq_false_iff_not, nx_neg, nx_le, nx_leI, nx_ltI, nx_eqI, am_clm, nI_1, nI_add, nx_b01, nx_b0, nx_b1, nx_pos, nx_le0, nx_ge0, nx_eq0, nx_em, nx_i10, nx_i01, nx_4, nx_12, nx_2, nx_6, nx_div, nx_rem, nx_rem2, nx_rem3, nx_mul, Nat.not_lt_zero, Nat.lt_irrefl, Nat.reduceLT, nz_0, nz_1, nz_00, nz_10, nz_a0, nz_0a, Nat.reduceMul, Nat.reduceDiv, Nat.reduceMod, nl_2, nl_3, nl_4, nl_5, nl_6, nl_8, nl_10, nl_11, nl_12, nl_16, nl_18, nl_20, nl_24, nl_25, nl_26, nl_30, nl_48, nl_60, nl_64, nl_75, nl_74, nl_99, nl_100, nl_112, nl_124, nl_200, nl_220, nl_255, nl_900, nl_999, nl_1000000, nl_65536, nl_65537, nl_7, nl_9, nl_14, nl_13, nl_15, nl_17, nl_19, nl_21, nl_22, nl_23, nl_27, nl_32, nl_40, nl_50, nl_57, nl_97, nl_108, nl_122, km, mk157, mk158, mk159, mk160, mk161, mk162, mk163, mk164, mk165, mk166, mk167, mk168, mk169, mk170, mk171, mk172, mk173, mk174, mz157, mz158, mz159, mz160, mz161, mz162, mz163, mz164, mz165, mz166, mz167, mz168, mz169, mz170, mz171, mz172, mz173, mz174, mr1, mr12, mr15, mr16, mr17, mr18, mr19, mr22, mr23, mr24, mr25, mr26, mr27, mr28, mr29, mr33, mr34, mr36, rp_kd, rp_len, rp_wt, fk, fl, fw, h3, h2, s_go]) (by
    rintro cf ⟨f1, rfl⟩
    refine ⟨_, ?_, f1, rfl⟩
    simp (disch := omega) only [f_X7_goes_l2, ev_il0, ev_ll0, ev_al0, ev_il1, ev_ll1, ev_al1, ev_il2, ev_ll2, ev_al2, ev_il3, ev_ll3, ev_al3, ev_il4, ev_ll4, ev_al4, ev_il5, ev_ll5, ev_al5, ev_il6, ev_ll6, ev_al6, ev_il7, ev_ll7, ev_al7, ev_il8, ev_ll8, ev_al8, ev_il9, ev_ll9, ev_al9, ev_il10, ev_ll10, ev_al10, ev_il11, ev_ll11, ev_al11, ev_il12, ev_ll12, ev_al12, ev_il13, ev_ll13, ev_al13, ev_il14, ev_ll14, ev_al14, ev_il15, ev_ll15, ev_al15, ev_il16, ev_ll16, ev_al16, ev_il17, ev_ll17, ev_al17, ev_il18, ev_ll18, ev_al18, ev_il19, ev_ll19, ev_al19, am_k1_i, am_k1_r, am_k1_l, am_k1_n, ev_is0, ev_as0, ev_ls0, ev_inc0, ev_is1, ev_as1, ev_ls1, ev_inc1, ev_is2, ev_as2, ev_ls2, ev_inc2, ev_is3, ev_as3, ev_ls3, ev_inc3, ev_is4, ev_as4, ev_ls4, ev_inc4, ev_is5, ev_as5, ev_ls5, ev_inc5, ev_is6, ev_as6, ev_ls6, ev_inc6, ev_is7, ev_as7, ev_ls7, ev_inc7, ev_is8, ev_as8, ev_ls8, ev_inc8, ev_is9, ev_as9, ev_ls9, ev_inc9, ev_is10, ev_as10, ev_ls10, ev_inc10, ev_is11, ev_as11, ev_ls11, ev_inc11, ev_is12, ev_as12, ev_ls12, ev_inc12, ev_is13, ev_as13, ev_ls13, ev_inc13, ev_is14, ev_as14, ev_ls14, ev_inc14, ev_is15, ev_as15, ev_ls15, ev_inc15, ev_is16, ev_as16, ev_ls16, ev_inc16, ev_is17, ev_as17, ev_ls17, ev_inc17, ev_is18, ev_as18, ev_ls18, ev_inc18, ev_is19, ev_as19, ev_ls19, ev_inc19, ev_ic, ev_lc, ev_sg, ev_1, ev_2, ev_2n, ev_j2, ev_j2n, ev_cmp, ev_i2l, ev_dup_int, ev_pop_int, ev_dup_ref, ev_pop_ref, ev_dup2, am_sm_nil, am_sm_i, am_sm_r, am_sm_l, ev_oi, ev_mx, ev_gi, ev_gl, ev_gr, ev_pi, ev_pl, ev_pr, ev_pz, ev_ia, ev_la, ev_aa, ev_iS, ev_bS, ev_lS, ev_aS, am_ret_s, am_ret_n, ev_cs0, ev_cv0, ev_ct0, ev_cs1, ev_cv1, ev_ct1, ev_cs2, ev_cv2, ev_cs3, ev_cv3, ev_cs4, ev_cv4, ev_cs5, ev_cv5, ev_cs6, ev_to, ev_b1, ev_b2, ev_sq, am_jn_l, am_jn_r, am_jn_n, am_jn_if, ev_rv, ev_ri, ev_rl, ev_rz, am_fin_r, am_fin_n, am_fin_if, am_den_eq, am_ent_nil, am_ent_i, am_ent_r, am_ent_l, am_rf_s, am_rf_n, am_kd_I, am_kd_J, am_kd_R, am_sz_I, am_sz_J, am_sz_R, am_h_I, am_h_J, am_h_R, am_len_I, am_len_J, am_len_R, am_wt_I, am_wt_J, am_wt_R, am_II, am_IJ, am_IR, am_JI, am_JJ, am_JR, am_RI, am_RJ, am_RR, not_false_eq_true, not_true_eq_false, and_self, and_true, true_and, and_false, false_and, or_self, or_true, true_or, or_false, false_or, if_true, if_false, ↓reduceIte, ite_not, Nat.le_refl, Nat.zero_le, List.length_cons, List.length_nil, List.replicate, List.append_nil, List.cons_append, List.nil_append, Nat.reduceAdd, Nat.reduceSub, Nat.reduceLeDiff, Nat.reduceEqDiff, decide_eq_true_eq, decide_eq_false_iff_not, nx_neg, nx_le, nx_leI, nx_ltI, nx_eqI, am_clm, nI_1, nI_add, nx_b01, nx_b0, nx_b1, nx_pos, nx_le0, nx_ge0, nx_eq0, nx_em, nx_i10, nx_i01, nx_4, nx_12, nx_2, nx_6, nx_div, nx_rem, nx_rem2, nx_rem3, nx_mul, Nat.not_lt_zero, Nat.lt_irrefl, Nat.reduceLT, nz_0, nz_1, nz_00, nz_10, nz_a0, nz_0a, Nat.reduceMul, Nat.reduceDiv, Nat.reduceMod, nl_2, nl_3, nl_4, nl_5, nl_6, nl_8, nl_10, nl_11, nl_12, nl_16, nl_18, nl_20, nl_24, nl_25, nl_26, nl_30, nl_48, nl_60, nl_64, nl_75, nl_74, nl_99, nl_100, nl_112, nl_124, nl_200, nl_220, nl_255, nl_900, nl_999, nl_1000000, nl_65536, nl_65537, nl_7, nl_9, nl_14, nl_13, nl_15, nl_17, nl_19, nl_21, nl_22, nl_23, nl_27, nl_32, nl_40, nl_50, nl_57, nl_97, nl_108, nl_122, km, mk157, mk158, mk159, mk160, mk161, mk162, mk163, mk164, mk165, mk166, mk167, mk168, mk169, mk170, mk171, mk172, mk173, mk174, mz157, mz158, mz159, mz160, mz161, mz162, mz163, mz164, mz165, mz166, mz167, mz168, mz169, mz170, mz171, mz172, mz173, mz174, mr1, mr12, mr15, mr16, mr17, mr18, mr19, mr22, mr23, mr24, mr25, mr26, mr27, mr28, mr29, mr33, mr34, mr36])
  refine ⟨f', ?_⟩
  simp (disch := omega) only [d_X7_goes, f_X7_goes, ev_il0, ev_ll0, ev_al0, ev_il1, ev_ll1, ev_al1, ev_il2, ev_ll2, ev_al2, ev_il3, ev_ll3, ev_al3, ev_il4, ev_ll4, ev_al4, ev_il5, ev_ll5, ev_al5, ev_il6, ev_ll6, ev_al6, ev_il7, ev_ll7, ev_al7, ev_il8, ev_ll8, ev_al8, ev_il9, ev_ll9, ev_al9, ev_il10, ev_ll10, ev_al10, ev_il11, ev_ll11, ev_al11, ev_il12, ev_ll12, ev_al12, ev_il13, ev_ll13, ev_al13, ev_il14, ev_ll14, ev_al14, ev_il15, ev_ll15, ev_al15, ev_il16, ev_ll16, ev_al16, ev_il17, ev_ll17, ev_al17, ev_il18, ev_ll18, ev_al18, ev_il19, ev_ll19, ev_al19, am_k1_i, am_k1_r, am_k1_l, am_k1_n, ev_is0, ev_as0, ev_ls0, ev_inc0, ev_is1, ev_as1, ev_ls1, ev_inc1, ev_is2, ev_as2, ev_ls2, ev_inc2, ev_is3, ev_as3, ev_ls3, ev_inc3, ev_is4, ev_as4, ev_ls4, ev_inc4, ev_is5, ev_as5, ev_ls5, ev_inc5, ev_is6, ev_as6, ev_ls6, ev_inc6, ev_is7, ev_as7, ev_ls7, ev_inc7, ev_is8, ev_as8, ev_ls8, ev_inc8, ev_is9, ev_as9, ev_ls9, ev_inc9, ev_is10, ev_as10, ev_ls10, ev_inc10, ev_is11, ev_as11, ev_ls11, ev_inc11, ev_is12, ev_as12, ev_ls12, ev_inc12, ev_is13, ev_as13, ev_ls13, ev_inc13, ev_is14, ev_as14, ev_ls14, ev_inc14, ev_is15, ev_as15, ev_ls15, ev_inc15, ev_is16, ev_as16, ev_ls16, ev_inc16, ev_is17, ev_as17, ev_ls17, ev_inc17, ev_is18, ev_as18, ev_ls18, ev_inc18, ev_is19, ev_as19, ev_ls19, ev_inc19, ev_ic, ev_lc, ev_sg, ev_1, ev_2, ev_2n, ev_j2, ev_j2n, ev_cmp, ev_i2l, ev_dup_int, ev_pop_int, ev_dup_ref, ev_pop_ref, ev_dup2, am_sm_nil, am_sm_i, am_sm_r, am_sm_l, ev_oi, ev_mx, ev_gi, ev_gl, ev_gr, ev_pi, ev_pl, ev_pr, ev_pz, ev_ia, ev_la, ev_aa, ev_iS, ev_bS, ev_lS, ev_aS, am_ret_s, am_ret_n, ev_cs0, ev_cv0, ev_ct0, ev_cs1, ev_cv1, ev_ct1, ev_cs2, ev_cv2, ev_cs3, ev_cv3, ev_cs4, ev_cv4, ev_cs5, ev_cv5, ev_cs6, ev_to, ev_b1, ev_b2, ev_sq, am_jn_l, am_jn_r, am_jn_n, am_jn_if, ev_rv, ev_ri, ev_rl, ev_rz, am_fin_r, am_fin_n, am_fin_if, am_den_eq, am_ent_nil, am_ent_i, am_ent_r, am_ent_l, am_rf_s, am_rf_n, am_kd_I, am_kd_J, am_kd_R, am_sz_I, am_sz_J, am_sz_R, am_h_I, am_h_J, am_h_R, am_len_I, am_len_J, am_len_R, am_wt_I, am_wt_J, am_wt_R, am_II, am_IJ, am_IR, am_JI, am_JJ, am_JR, am_RI, am_RJ, am_RR, not_false_eq_true, not_true_eq_false, and_self, and_true, true_and, and_false, false_and, or_self, or_true, true_or, or_false, false_or, if_true, if_false, ↓reduceIte, ite_not, Nat.le_refl, Nat.zero_le, List.length_cons, List.length_nil, List.replicate, List.append_nil, List.cons_append, List.nil_append, Nat.reduceAdd, Nat.reduceSub, Nat.reduceLeDiff, Nat.reduceEqDiff, decide_eq_true_eq, decide_eq_false_iff_not, nx_neg, nx_le, nx_leI, nx_ltI, nx_eqI, am_clm, nI_1, nI_add, nx_b01, nx_b0, nx_b1, nx_pos, nx_le0, nx_ge0, nx_eq0, nx_em, nx_i10, nx_i01, nx_4, nx_12, nx_2, nx_6, nx_div, nx_rem, nx_rem2, nx_rem3, nx_mul, Nat.not_lt_zero, Nat.lt_irrefl, Nat.reduceLT, nz_0, nz_1, nz_00, nz_10, nz_a0, nz_0a, Nat.reduceMul, Nat.reduceDiv, Nat.reduceMod, nl_2, nl_3, nl_4, nl_5, nl_6, nl_8, nl_10, nl_11, nl_12, nl_16, nl_18, nl_20, nl_24, nl_25, nl_26, nl_30, nl_48, nl_60, nl_64, nl_75, nl_74, nl_99, nl_100, nl_112, nl_124, nl_200, nl_220, nl_255, nl_900, nl_999, nl_1000000, nl_65536, nl_65537, nl_7, nl_9, nl_14, nl_13, nl_15, nl_17, nl_19, nl_21, nl_22, nl_23, nl_27, nl_32, nl_40, nl_50, nl_57, nl_97, nl_108, nl_122, km, mk157, mk158, mk159, mk160, mk161, mk162, mk163, mk164, mk165, mk166, mk167, mk168, mk169, mk170, mk171, mk172, mk173, mk174, mz157, mz158, mz159, mz160, mz161, mz162, mz163, mz164, mz165, mz166, mz167, mz168, mz169, mz170, mz171, mz172, mz173, mz174, mr1, mr12, mr15, mr16, mr17, mr18, mr19, mr22, mr23, mr24, mr25, mr26, mr27, mr28, mr29, mr33, mr34, mr36, l]
end
