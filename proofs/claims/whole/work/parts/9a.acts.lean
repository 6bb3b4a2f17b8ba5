-- THE ACTS
section
variable {u u1 u2 u3 : am_St} {hs : Bool} {V : vS} {E : xE} {G G2 : gS} {a i k n tv a2 i2 : Nat} {H K H2 K2 : Nat → gS} {tr fl wh t2 : Int32} {t σ2 : Nat → Nat}
theorem ci_act (h : cfr u u2) (h16 : u2.2.1 0 16 = 0) (hg : gd_at u2 25 G2) (hA : ca_at u2 a2 H2 σ2) (hI : ci_at u2 i2 K2) (hN : u2.2.1 0 14 = 0 ∨ (u2.2.1 0 14 = u.2.1 0 14 ∧ g_ro G2 = g_ro G)) (hC : CI u true V G a H i K tr fl wh k t) : CI u2 true V G2 a2 H2 i2 K2 0 fl wh k t := by
  obtain ⟨⟨tv, cw, c6⟩, ⟨v1, v2⟩, -, -, c9, ⟨c10, c11, c12⟩, c13, c14⟩ := hC
  have hcw := cf_cw h cw hg
  obtain ⟨f1, f2, f3, f4, f5⟩ := h
  have e2 : u2.2.1 2 = u.2.1 2 := f3 2 (by omega) (by omega)
  refine ⟨⟨tv, hcw, by rw [f2 0 (by omega)]; exact c6⟩, ⟨vok_r f1 (f2 _ (by omega)) v1, vok_r f1 (f2 _ (by omega)) v2⟩, ⟨σ2, hA⟩, hI, ?_, ⟨h16, by rw [e2]; exact c11, fun q => absurd q t4_0⟩, by rw [f5 1 (by omega) (by omega) (by omega) (by omega)]; exact c13, fun j hj => by rw [f3 1 (by omega) (by omega)]; exact c14 j hj⟩
  rcases hN with h | ⟨h, h2⟩
  · exact Or.inl h
  · exact pln_c h (f3 43 (by omega) (by omega)) (by rw [f4]) (f3 48 (by omega) (by omega)) h2 c9
theorem mi_act (h : mfr u u2) (h11 : u2.2.1 156 11 = 0) (hw : rw_at u2 161 G2) (hA : ma_at u2 a2 H2) (hI : mi_at u2 i2 K2) (hM : MI u true V E G a H i K tr fl wh k t) : MI u2 true V E G2 a2 H2 i2 K2 0 fl wh k t := by
  obtain ⟨mw, -, -, ⟨m6, m7, m8⟩, m9, m10⟩ := hM
  have hmw := mf_mw h mw hw
  obtain ⟨f1, f2, f3, f4, f5⟩ := h
  exact ⟨hmw, hA, hI, ⟨h11, by rw [f5 9 (by omega) (by omega) (by omega) (by omega)]; exact m7, fun q => absurd q t4_0⟩, by rw [f5 2 (by omega) (by omega) (by omega) (by omega)]; exact m9, fun j hj => by rw [f3 157 (by omega) (by omega)]; exact m10 j hj⟩
/-- a refused call -/
theorem rf {D6 D7 : am_D} {as : List Value} {c : Int32} {r : Value} (h4 : ¬ c = nI 4) (hc : D6 (.ref 0 :: as) u = some (some r, am_uI u 0 16 c)) (hm : ∀ u1, MI u1 hs V E G a H i K tr fl wh k t → D7 (.ref 156 :: as) u1 = some (some r, am_uI (mgd u1) 156 11 c)) (hC : CI u hs V G a H i K tr fl wh k t) (hP : PS hs V E G a H i K k t n) : ∃ r s2, PJ s2 (n + 1) ∧ (∃ u2, D6 (.ref 0 :: as) u = some (some r, u2) ∧ CFr u u2 ∧ CJ u2 s2) ∧ ∀ u1, MJ u1 (hs, V, E, G, a, H, i, K, tr, fl, wh, k, t) → ∃ u2, D7 (.ref 156 :: as) u1 = some (some r, u2) ∧ MFr u1 u2 ∧ MJ u2 s2 :=
  ⟨r, (hs, V, E, G, a, H, i, K, c, fl, wh, k, t), ps_m hP (by omega), ⟨_, hc, cs_fr cs_u, ci_cs cs_u h4 hC⟩, fun u1 hM1 => ⟨_, hm u1 hM1, ms_fr (ma_tr ms_gd), mi_ms (ma_tr ms_gd) h4 hM1⟩⟩
theorem psh_gj (h : ∀ j, j < a → GJ V (H j) n) (hG : GJ V G n) (ha : a ≤ 16) : ∀ j, j < (psh a G H).1 → GJ V ((psh a G H).2 j) n := by
  intro j hj
  unfold psh at hj ⊢
  split at hj
  · rename_i c
    rw [if_pos c]
    show GJ V (if j = 15 then G else H (j + 1)) n
    have hj : j < 16 := hj
    split
    · exact hG
    · exact h _ (by omega)
  · rename_i c
    rw [if_neg c]
    show GJ V (if j = a then G else H j) n
    have hj : j < a + 1 := hj
    split
    · exact hG
    · exact h _ (by omega)
theorem st_season : AStp d_X6_season d_X7_season [] := by
  rintro ⟨hs, V, E, G, a, H, i, K, tr, fl, wh, k, t⟩ n u hn hC hM hP
  have hC : CI u hs V G a H i K tr fl wh k t := hC
  have hP : PS hs V E G a H i K k t n := hP
  have hW := ps_w hP hn
  obtain ⟨⟨tv, cw, -⟩, -, ⟨σ, hA⟩, hI, -⟩ := id hC
  cases hs with
  | false => exact rf t4_1 (c_season_1 cw hW rfl) (fun u1 hM1 => m_season_1 hM1.1 hW rfl) hC hP
  | true =>
    obtain ⟨hE, hG, hH, hK⟩ := hP.2.2 rfl
    by_cases c : g_se G < 200
    · obtain ⟨u2, σ2, e, f, z1, z2, z3, z4, z5⟩ := c_season_ok cw hW hA hI c
      refine ⟨_, (true, V, E, s_pass V G, (psh a G H).1, (psh a G H).2, i, K, 0, fl, wh, k, t), ps_m (n := n) ⟨hP.1, fun q => (by cases q), fun _ => ⟨hE, gj_pass hE hG c, psh_gj hH hG hA.1.1, hK⟩⟩ (by omega), ⟨u2, e, cf_fr f, ci_act f z1 z2 z3 z4 (Or.inr ⟨z5, ?_⟩) hC⟩, fun u1 hM1 => ?_⟩
      · unfold s_pass s_ripen
        split <;> rfl
      · have hM1 : MI u1 true V E G a H i K tr fl wh k t := hM1
        obtain ⟨u3, e3, f3, y1, y2, y3, y4⟩ := m_season_ok hM1.1 hW hM1.2.1 hM1.2.2.1 c
        exact ⟨u3, e3, mf_fr f3, mi_act f3 y1 y2 y3 y4 hM1⟩
    · exact rf (by decide) (c_season_3 cw hW rfl c) (fun u1 hM1 => m_season_3 hM1.1 hW rfl c) hC hP
theorem st_undo : AStp d_X6_undo d_X7_undo [] := by
  rintro ⟨hs, V, E, G, a, H, i, K, tr, fl, wh, k, t⟩ n u hn hC hM hP
  have hC : CI u hs V G a H i K tr fl wh k t := hC
  have hP : PS hs V E G a H i K k t n := hP
  have hW := ps_w hP hn
  obtain ⟨⟨tv, cw, -⟩, -, ⟨σ, hA⟩, hI, -⟩ := id hC
  by_cases c : a = 0
  · exact rf (by decide) (c_undo_6 cw hW hA c) (fun u1 hM1 => m_undo_6 hM1.1 hW hM1.2.1 c) hC hP
  · cases hs with
    | false => exact absurd (hP.2.1 rfl).1 c
    | true =>
      obtain ⟨hE, hG, hH, hK⟩ := hP.2.2 rfl
      obtain ⟨u2, e, f, z1, z2, z3, z4, z5⟩ := c_undo_ok cw hA hI (by omega)
      refine ⟨_, (true, V, E, H (a - 1), a - 1, H, i, K, 0, fl, wh, k, t), ps_m (n := n) ⟨hP.1, fun q => (by cases q), fun _ => ⟨hE, hH _ (by omega), fun j hj => hH j (by have hj : j < a - 1 := hj; omega), hK⟩⟩ (by omega), ⟨u2, e, cf_fr f, ci_act f z1 z2 z3 z4 (Or.inl z5) hC⟩, fun u1 hM1 => ?_⟩
      have hM1 : MI u1 true V E G a H i K tr fl wh k t := hM1
      obtain ⟨u3, e3, f3, y1, y2, y3, y4⟩ := m_undo_ok hM1.1 hM1.2.1 hM1.2.2.1 (by omega)
      exact ⟨u3, e3, mf_fr f3, mi_act f3 y1 y2 y3 y4 hM1⟩
theorem st_image : AStp d_X6_image d_X7_image [] := by
  rintro ⟨hs, V, E, G, a, H, i, K, tr, fl, wh, k, t⟩ n u hn hC hM hP
  have hC : CI u hs V G a H i K tr fl wh k t := hC
  have hP : PS hs V E G a H i K k t n := hP
  have hW := ps_w hP hn
  obtain ⟨⟨tv, cw, -⟩, -, ⟨σ, hA⟩, hI, -⟩ := id hC
  cases hs with
  | false => exact rf t4_1 (c_image_1 cw hW rfl) (fun u1 hM1 => m_image_1 hM1.1 hW rfl) hC hP
  | true =>
    obtain ⟨hE, hG, hH, hK⟩ := hP.2.2 rfl
    by_cases c : i < 3
    · obtain ⟨u2, e, f, z1, z2, z3, z4, z5⟩ := c_image_ok cw hA hI c
      refine ⟨_, (true, V, E, G, a, H, i + 1, (fun j => if j = i then G else K j), 0, fl, wh, k, t), ps_m (n := n) ⟨hP.1, fun q => (by cases q), fun _ => ⟨hE, hG, hH, fun j hj => ?_⟩⟩ (by omega), ⟨u2, e, cf_fr f, ci_act f z1 z2 z3 z4 (Or.inr ⟨z5, rfl⟩) hC⟩, fun u1 hM1 => ?_⟩
      · have hj : j < i + 1 := hj
        show GJ V (if j = i then G else K j) n
        split
        · exact hG
        · exact hK j (by omega)
      · have hM1 : MI u1 true V E G a H i K tr fl wh k t := hM1
        obtain ⟨u3, e3, f3, y1, y2, y3, y4⟩ := m_image_ok hM1.1 hM1.2.1 hM1.2.2.1 c
        exact ⟨u3, e3, mf_fr f3, mi_act f3 y1 y2 y3 y4 hM1⟩
    · exact rf (by decide) (c_image_3 cw hW rfl hI c) (fun u1 hM1 => m_image_3 hM1.1 hW rfl hM1.2.2.1 c) hC hP
theorem st_back {x : Int32} : AStp d_X6_back d_X7_back [.int x] := by
  rintro ⟨hs, V, E, G, a, H, i, K, tr, fl, wh, k, t⟩ n u hn hC hM hP
  have hC : CI u hs V G a H i K tr fl wh k t := hC
  have hP : PS hs V E G a H i K k t n := hP
  have hW := ps_w hP hn
  obtain ⟨⟨tv, cw, -⟩, -, ⟨σ, hA⟩, hI, -⟩ := id hC
  have hi3 := hI.1.1
  cases c : rg x i with
  | false => exact rf t4_1 (c_back_1 cw hW hI c) (fun u1 hM1 => m_back_1 hM1.1 hW hM1.2.2.1 c) hC hP
  | true =>
    obtain ⟨q, hq, rfl⟩ := rg_t (by omega) c
    cases hs with
    | false => exact absurd (hP.2.1 rfl).2 (by omega)
    | true =>
      obtain ⟨hE, hG, hH, hK⟩ := hP.2.2 rfl
      obtain ⟨u2, e, f, z1, z2, z3, z4, z5⟩ := c_back_ok cw hA hI hq
      refine ⟨_, (true, V, E, K q, 0, H, i, K, 0, fl, wh, k, t), ps_m (n := n) ⟨hP.1, fun q => (by cases q), fun _ => ⟨hE, hK q hq, fun j hj => absurd hj (Nat.not_lt_zero _), hK⟩⟩ (by omega), ⟨u2, e, cf_fr f, ci_act f z1 z2 z3 z4 (Or.inl z5) hC⟩, fun u1 hM1 => ?_⟩
      have hM1 : MI u1 true V E G a H i K tr fl wh k t := hM1
      obtain ⟨u3, e3, f3, y1, y2, y3, y4⟩ := m_back_ok hM1.1 hM1.2.1 hM1.2.2.1 hq
      exact ⟨u3, e3, mf_fr f3, mi_act f3 y1 y2 y3 y4 hM1⟩
end
