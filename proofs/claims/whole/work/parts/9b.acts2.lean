-- THE ACTS, further
section
variable {u u1 u2 u3 : am_St} {hs : Bool} {V : vS} {E : xE} {G G2 : gS} {a i k n tv a2 i2 : Nat} {H K H2 K2 : Nat → gS} {tr fl wh t2 : Int32} {t σ2 : Nat → Nat}
theorem in_1 {y : Int32} {N : Nat} (hN : N + 1 < 2147483648) (h : 1 ≤ y ∧ y ≤ nI N) : ∃ m, 1 ≤ m ∧ m ≤ N ∧ y = nI m := by
  have h1 : ¬ y < 0 := fun q => absurd (Int32.lt_of_le_of_lt h.1 q) (by decide)
  have h2 : ¬ nI (N + 1) ≤ y := fun q => absurd ((rg_gt hN).mp q) (Int32.not_lt.mpr h.2)
  obtain ⟨m, hm, rfl⟩ := rg_t hN (rg_in hN h1 h2)
  refine ⟨m, ?_, by omega, rfl⟩
  have h3 : nI 1 ≤ nI m := h.1
  rw [nx_leI (by omega) (by omega)] at h3
  exact h3
theorem st_graft {x y : Int32} : AStp d_X6_graft d_X7_graft [.int x, .int y] := by
  rintro ⟨hs, V, E, G, a, H, i, K, tr, fl, wh, k, t⟩ n u hn hC hM hP
  have hC : CI u hs V G a H i K tr fl wh k t := hC
  have hP : PS hs V E G a H i K k t n := hP
  have hW := ps_w hP hn
  obtain ⟨⟨tv, cw, -⟩, -, ⟨σ, hA⟩, hI, -⟩ := id hC
  cases c1 : (hs && rg x (v_Q V)) with
  | false => exact rf t4_1 (c_graft_1 cw hW c1) (fun u1 hM1 => m_graft_1 hM1.1 hW c1) hC hP
  | true =>
  cases c2 : (hs && rg y (v_Q V)) with
  | false => exact rf t4_1 (c_graft_2 cw hW c1 c2) (fun u1 hM1 => m_graft_2 hM1.1 hW c1 c2) hC hP
  | true =>
  by_cases c3 : s_odds V G x.toNatClampNeg y.toNatClampNeg = 0
  · exact rf (by decide) (c_graft_5 cw hW c1 c2 c3) (fun u1 hM1 => m_graft_5 hM1.1 hW c1 c2 c3) hC hP
  · obtain ⟨rfl, p, hp, rfl⟩ := qv hW c1
    obtain ⟨-, q, hq, rfl⟩ := qv hW c2
    obtain ⟨hE, hG, hH, hK⟩ := hP.2.2 rfl
    have hQ := ve_Q hE
    rw [am_clm (by omega), am_clm (by omega)] at c3
    obtain ⟨d1, d2, d3⟩ := odds_pos hE hp c3
    obtain ⟨u2, σ2, e, f, z1, z2, z3, z4, z5⟩ := c_graft_ok cw hW hA hI hp hq c3
    refine ⟨_, (true, V, E, s_join G p q, (psh a G H).1, (psh a G H).2, i, K, 0, fl, wh, k, t), ps_m (n := n) ⟨hP.1, fun q => (by cases q), fun _ => ⟨hE, gj_join hQ hG hp hq d1 d2 d3, psh_gj hH hG hA.1.1, hK⟩⟩ (by omega), ⟨u2, e, cf_fr f, ci_act (G := G) f z1 z2 z3 z4 (Or.inl z5) hC⟩, fun u1 hM1 => ?_⟩
    have hM1 : MI u1 true V E G a H i K tr fl wh k t := hM1
    obtain ⟨u3, e3, f3, y1, y2, y3, y4⟩ := m_graft_ok hM1.1 hW hM1.2.1 hM1.2.2.1 hp hq c3
    exact ⟨u3, e3, mf_fr f3, mi_act f3 y1 y2 y3 y4 hM1⟩
theorem st_nourish {x y : Int32} : AStp d_X6_nourish d_X7_nourish [.int x, .int y] := by
  rintro ⟨hs, V, E, G, a, H, i, K, tr, fl, wh, k, t⟩ n u hn hC hM hP
  have hC : CI u hs V G a H i K tr fl wh k t := hC
  have hP : PS hs V E G a H i K k t n := hP
  have hW := ps_w hP hn
  obtain ⟨⟨tv, cw, -⟩, -, ⟨σ, hA⟩, hI, -⟩ := id hC
  cases c1 : (hs && rg x (v_Q V)) with
  | false => exact rf t4_1 (c_nourish_1 cw hW c1) (fun u1 hM1 => m_nourish_1 hM1.1 hW c1) hC hP
  | true =>
  by_cases c2 : 1 ≤ y ∧ y ≤ nI 9
  rotate_left
  · exact rf t4_2 (c_nourish_2 cw hW c1 c2) (fun u1 hM1 => m_nourish_2 hM1.1 hW c1 c2) hC hP
  by_cases c3 : g_ro G x.toNatClampNeg = x.toNatClampNeg
  rotate_left
  · exact rf (by decide) (c_nourish_5 cw hW c1 c2 c3) (fun u1 hM1 => m_nourish_5 hM1.1 hW c1 c2 c3) hC hP
  · obtain ⟨rfl, q, hq, rfl⟩ := qv hW c1
    obtain ⟨m, hm1, hm9, rfl⟩ := in_1 (by omega) c2
    obtain ⟨hE, hG, hH, hK⟩ := hP.2.2 rfl
    have hQ := ve_Q hE
    rw [am_clm (by omega)] at c3
    obtain ⟨u2, σ2, e, f, z1, z2, z3, z4, z5⟩ := c_nourish_ok cw hW hA hI hq hm1 hm9 c3
    refine ⟨_, (true, V, E, s_vi G q (g_vi G q + m), (psh a G H).1, (psh a G H).2, i, K, 0, fl, wh, k, t), ⟨hP.1, fun q => (by cases q), fun _ => ⟨hE, gj_vi hQ hG hq c3 hm9, psh_gj (fun j hj => gj_m (hH j hj) (by omega)) (gj_m hG (by omega)) hA.1.1, fun j hj => gj_m (hK j hj) (by omega)⟩⟩, ⟨u2, e, cf_fr f, ci_act (G := G) f z1 z2 z3 z4 (Or.inr ⟨z5, rfl⟩) hC⟩, fun u1 hM1 => ?_⟩
    have hM1 : MI u1 true V E G a H i K tr fl wh k t := hM1
    obtain ⟨u3, e3, f3, y1, y2, y3, y4⟩ := m_nourish_ok hM1.1 hW hM1.2.1 hM1.2.2.1 hq hm1 hm9 c3
    exact ⟨u3, e3, mf_fr f3, mi_act f3 y1 y2 y3 y4 hM1⟩
theorem st_cut {x y : Int32} : AStp d_X6_cut d_X7_cut [.int x, .int y] := by
  rintro ⟨hs, V, E, G, a, H, i, K, tr, fl, wh, k, t⟩ n u hn hC hM hP
  have hC : CI u hs V G a H i K tr fl wh k t := hC
  have hP : PS hs V E G a H i K k t n := hP
  have hW := ps_w hP hn
  obtain ⟨⟨tv, cw, -⟩, -, ⟨σ, hA⟩, hI, -⟩ := id hC
  cases c1 : (hs && rg x (v_Q V)) with
  | false => exact rf t4_1 (c_cut_1 cw hW c1) (fun u1 hM1 => m_cut_1 hM1.1 hW c1) hC hP
  | true =>
  by_cases c3 : g_ro G x.toNatClampNeg = x.toNatClampNeg
  rotate_left
  · exact rf (by decide) (c_cut_5 cw hW c1 c3) (fun u1 hM1 => m_cut_5 hM1.1 hW c1 c3) hC hP
  by_cases c2 : 1 ≤ y ∧ y ≤ nI (min 30 (g_vi G x.toNatClampNeg))
  rotate_left
  · exact rf t4_2 (c_cut_2 cw hW c1 c3 c2) (fun u1 hM1 => m_cut_2 hM1.1 hW c1 c3 c2) hC hP
  · obtain ⟨rfl, q, hq, rfl⟩ := qv hW c1
    obtain ⟨hE, hG, hH, hK⟩ := hP.2.2 rfl
    have hQ := ve_Q hE
    rw [am_clm (by omega)] at c3
    rw [am_clm (by omega)] at c2
    obtain ⟨m, hm1, hm9, rfl⟩ := in_1 (by omega) c2
    have hm3 : m ≤ 30 := by omega
    have hmv : m ≤ g_vi G q := by omega
    obtain ⟨u2, σ2, e, f, z1, z2, z3, z4, z5⟩ := c_cut_ok cw hW hA hI hq hm1 hm3 hmv c3
    refine ⟨_, (true, V, E, s_cut V G q m, (psh a G H).1, (psh a G H).2, i, K, 0, fl, wh, k, t), ps_m (n := n) ⟨hP.1, fun q => (by cases q), fun _ => ⟨hE, gj_cut hQ hG hq c3, psh_gj hH hG hA.1.1, hK⟩⟩ (by omega), ⟨u2, e, cf_fr f, ci_act (G := G) f z1 z2 z3 z4 (Or.inr ⟨z5, rfl⟩) hC⟩, fun u1 hM1 => ?_⟩
    have hM1 : MI u1 true V E G a H i K tr fl wh k t := hM1
    obtain ⟨u3, e3, f3, y1, y2, y3, y4⟩ := m_cut_ok hM1.1 hW hM1.2.1 hM1.2.2.1 hq hm1 hm3 hmv c3
    exact ⟨u3, e3, mf_fr f3, mi_act f3 y1 y2 y3 y4 hM1⟩
theorem mi_0 {x : Int32} (hM : MI u hs V E G a H i K tr fl wh k t) : MI (am_uI u 156 0 x) hs V E G a H i K tr fl wh k t := by
  obtain ⟨mw, m4, m5, ⟨m6, m7, m8⟩, m9, m10⟩ := hM
  exact ⟨ms_mw (ma_fld ms_0 (Or.inl rfl)) mw, ma_c (uI_o (by omega)) (uI_n (by omega)) m4, mi_c (uI_o (by omega)) (uI_n (by omega)) m5, ⟨by rw [uI_n (by omega)]; exact m6, by rw [uI_n (by omega)]; exact m7, fun q => by rw [uI_n (by omega)]; exact m8 q⟩, by rw [uI_n (by omega)]; exact m9, fun j hj => by rw [uI_o (by omega)]; exact m10 j hj⟩
theorem fr_0 {x : Int32} : MFr u (am_uI u 156 0 x) := ms_fr (ma_fld ms_0 (Or.inl rfl))
theorem fr_c : CFr u u := ⟨rfl, fun _ _ => ⟨rfl, rfl, rfl⟩⟩
theorem st_fault : AStp d_X6_fault d_X7_fault [] := by
  rintro ⟨hs, V, E, G, a, H, i, K, tr, fl, wh, k, t⟩ n u hn hC hM hP
  have hC : CI u hs V G a H i K tr fl wh k t := hC
  have hP : PS hs V E G a H i K k t n := hP
  have hW := ps_w hP hn
  obtain ⟨⟨tv, cw, -⟩, -, ⟨σ, hA⟩, hI, -⟩ := id hC
  refine ⟨.int fl, (hs, V, E, G, a, H, i, K, tr, fl, wh, k, t), ps_m hP (by omega), ⟨u, ?_, fr_c, hC⟩, fun u1 hM1 => ⟨am_uI u1 156 0 0, ?_, fr_0, mi_0 hM1⟩⟩
  · rw [c_fault cw, hC.2.2.2.2.2.1.2.1]
  · have hM1 : MI u1 hs V E G a H i K tr fl wh k t := hM1
    rw [m_fault hM1.1, hM1.2.2.2.1.2.1]
theorem st_trouble : AStp d_X6_trouble d_X7_trouble [] := by
  rintro ⟨hs, V, E, G, a, H, i, K, tr, fl, wh, k, t⟩ n u hn hC hM hP
  have hC : CI u hs V G a H i K tr fl wh k t := hC
  have hP : PS hs V E G a H i K k t n := hP
  have hW := ps_w hP hn
  obtain ⟨⟨tv, cw, -⟩, -, ⟨σ, hA⟩, hI, -⟩ := id hC
  refine ⟨.int tr, (hs, V, E, G, a, H, i, K, tr, fl, wh, k, t), ps_m hP (by omega), ⟨u, ?_, fr_c, hC⟩, fun u1 hM1 => ⟨am_uI u1 156 0 0, ?_, fr_0, mi_0 hM1⟩⟩
  · rw [c_trouble cw, hC.2.2.2.2.2.1.1]
  · have hM1 : MI u1 hs V E G a H i K tr fl wh k t := hM1
    rw [m_trouble hM1.1, hM1.2.2.2.1.1]
theorem st_where : AStp d_X6_where d_X7_where [] := by
  rintro ⟨hs, V, E, G, a, H, i, K, tr, fl, wh, k, t⟩ n u hn hC hM hP
  have hC : CI u hs V G a H i K tr fl wh k t := hC
  have hP : PS hs V E G a H i K k t n := hP
  have hW := ps_w hP hn
  obtain ⟨⟨tv, cw, -⟩, -, ⟨σ, hA⟩, hI, -⟩ := id hC
  refine ⟨.int (if tr = nI 4 then wh else -1), (hs, V, E, G, a, H, i, K, tr, fl, wh, k, t), ps_m hP (by omega), ⟨u, ?_, fr_c, hC⟩, fun u1 hM1 => ⟨am_uI u1 156 0 0, ?_, fr_0, mi_0 hM1⟩⟩
  · rw [c_where cw, hC.2.2.2.2.2.1.1]
    by_cases c : tr = nI 4
    · rw [if_pos c, if_pos c, hC.2.2.2.2.2.1.2.2 c]
    · rw [if_neg c, if_neg c]
  · have hM1 : MI u1 hs V E G a H i K tr fl wh k t := hM1
    rw [m_where hM1.1, hM1.2.2.2.1.1]
    by_cases c : tr = nI 4
    · rw [if_pos c, if_pos c, hM1.2.2.2.1.2.2 c]
    · rw [if_neg c, if_neg c]
theorem st_size {x : Int32} : AStp d_X6_size d_X7_size [.int x] := by
  rintro ⟨hs, V, E, G, a, H, i, K, tr, fl, wh, k, t⟩ n u hn hC hM hP
  have hC : CI u hs V G a H i K tr fl wh k t := hC
  have hP : PS hs V E G a H i K k t n := hP
  have hW := ps_w hP hn
  obtain ⟨⟨tv, cw, -⟩, -, ⟨σ, hA⟩, hI, -⟩ := id hC
  refine ⟨.int (a_size hs V G k a i x), (hs, V, E, G, a, H, i, K, tr, fl, wh, k, t), ps_m hP (by omega), ⟨u, ?_, fr_c, hC⟩, fun u1 hM1 => ⟨am_uI u1 156 0 0, ?_, fr_0, mi_0 hM1⟩⟩
  · exact c_size cw hW hC.2.2.2.2.2.2.1 hA.1.2 hI.1.2
  · have hM1 : MI u1 hs V E G a H i K tr fl wh k t := hM1
    exact m_size hM1.1 hW hM1.2.2.2.2.1 hM1.2.1.1.2 hM1.2.2.1.1.2
end
