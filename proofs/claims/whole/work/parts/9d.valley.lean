-- VALLEY
section
variable {u u1 u2 u3 : am_St} {hs : Bool} {V : vS} {E : xE} {G G2 : gS} {a i k n tv a2 i2 : Nat} {H K H2 K2 : Nat → gS} {tr fl wh t2 : Int32} {t σ2 : Nat → Nat}
theorem in_0 {y : Int32} {N : Nat} (hN : N + 1 < 2147483648) (h : 0 ≤ y ∧ y ≤ nI N) : ∃ m, m ≤ N ∧ y = nI m := by
  have h1 : ¬ y < 0 := Int32.not_lt.mpr h.1
  have h2 : ¬ nI (N + 1) ≤ y := fun q => absurd ((rg_gt hN).mp q) (Int32.not_lt.mpr h.2)
  obtain ⟨m, hm, rfl⟩ := rg_t hN (rg_in hN h1 h2)
  exact ⟨m, by omega, rfl⟩
theorem cv_fr {sv : Nat} {r : pR} {b : Int32} (hsv : sv = 5 ∨ sv = 15) (h : CVal u u2 t tv sv r b) : CFr u u2 := by
  obtain ⟨f1, -, f2, f3⟩ := h
  refine ⟨f1, fun x hx => ?_⟩
  cases r with
  | inl q =>
    obtain ⟨g1, g2, -⟩ := f3
    exact ⟨g2 x (by omega) (by omega) (by omega), f2 x (by omega) (by omega) (by omega), by funext j; exact g1 x j (by omega)⟩
  | inr q =>
    obtain ⟨g1, -, -, g2, -⟩ := f3
    exact ⟨g2 x (by omega) (by omega) (by omega) (by omega), f2 x (by omega) (by omega) (by omega), by funext j; exact g1 x j (by omega) (by omega)⟩
theorem cv_l {q : Nat × Nat} {b : Int32} {t3 : Nat → Nat} (hC : CI u hs V G a H i K tr fl wh k t) (h3 : u.2.2.2 0 3 = some tv) (h : CVal u u2 t3 tv (20 - tv) (.inl q) b) : CI u2 hs V G a H i K (nI 4) (nI q.1) (nI q.2) 0 t := by
  obtain ⟨⟨tv', ⟨c1, c2, c3, c4, ⟨g1, g2, g3, g4⟩, c5⟩, c6⟩, ⟨v1, v2⟩, ⟨σ, c7⟩, c8, c9, -, -⟩ := hC
  have ht : tv' = tv := by rw [h3] at c2; exact (Option.some.inj c2).symm
  subst ht
  obtain ⟨f1, f0, f2, r1, r2, r3, -, r5, r6, r7⟩ := h
  have r : ∀ x, x ≠ 2 → u2.2.2.2 x = u.2.2.2 x := fun x hx => by funext j; exact r1 x j (by omega)
  refine ⟨⟨tv', ⟨cl_r f1 (fun x j hx => r1 x j (by unfold fxr at hx; omega)) c1, by rw [r 0 (by omega)]; exact c2, c3, by rw [r3 5 (by omega) (by omega)]; exact c4, ⟨gok_r f1 (r _ (by omega)) g1, gok_r f1 (r _ (by omega)) g2, gok_r f1 (r _ (by omega)) g3, gok_r f1 (r _ (by omega)) g4⟩, fun q => ⟨vl_r f1 (r _ (by omega)) (fun x h1 h2 => r2 x (by omega) (by omega) (by omega)) (c5 q).1, gd_r f1 (r _ (by omega)) (fun x h1 h2 => r2 x (by omega) (by omega) (by omega)) (c5 q).2⟩⟩, by rw [r 0 (by omega)]; exact c6⟩, ⟨vok_r f1 (r _ (by omega)) v1, vok_r f1 (r _ (by omega)) v2⟩, ⟨σ, ca_c c7 f1 (fun x hx => r x (by omega)) (fun x h1 h2 => r2 x (by omega) (by omega) (by omega)) (r3 9 (by omega) (by omega))⟩, ci_c c8 f1 (fun x hx => r x (by omega)) (fun x h1 h2 => r2 x (by omega) (by omega) (by omega)) (r3 11 (by omega) (by omega)), pln_c (r3 14 (by omega) (by omega)) (r2 43 (by omega) (by omega) (by omega)) (f2 43 (by omega) (by omega) (by omega)) (r2 48 (by omega) (by omega) (by omega)) rfl c9, ⟨r5, r6, fun _ => r7⟩, f0, fun j hj => absurd hj (Nat.not_lt_zero _)⟩
theorem cv_r {q : pSt × Nat} {b : Int32} {t3 : Nat → Nat} (hC : CI u hs V G a H i K tr fl wh k t) (h3 : u.2.2.2 0 3 = some tv) (h : CVal u u2 t3 tv (20 - tv) (.inr q) b) : CI u2 true q.1.1 (s_plant q.1.1) 0 H 0 K 0 0 wh 0 t := by
  obtain ⟨⟨tv', ⟨c1, c2, c3, c4, ⟨g1, g2, g3, g4⟩, c5⟩, c6⟩, ⟨v1, v2⟩, ⟨σ, ⟨d1, d2⟩, d3, d4, d5, d6⟩, ⟨⟨e1, e2⟩, e3, e4⟩, c9, -, -⟩ := hC
  have ht : tv' = tv := by rw [h3] at c2; exact (Option.some.inj c2).symm
  subst ht
  obtain ⟨f1, f0, f2, r1, r03, r04, r2, r3, -, ⟨s5, s9, s11, s14, s16, s20⟩, w1, w2, -⟩ := h
  have r : ∀ x, x ≠ 2 → x ≠ 0 → u2.2.2.2 x = u.2.2.2 x := fun x hx h0 => by funext j; exact r1 x j (by omega) (by omega)
  refine ⟨⟨20 - tv', ⟨cl_r f1 (fun x j hx => r1 x j (by unfold fxr at hx; omega) (by unfold fxr at hx; omega)) c1, r03, by omega, s5, ⟨w2.1, gok_r f1 (r _ (by omega) (by omega)) g2, gok_r f1 (r _ (by omega) (by omega)) g3, gok_r f1 (r _ (by omega) (by omega)) g4⟩, fun _ => ⟨w1, w2⟩⟩, by rw [r04]; congr 1; omega⟩, ⟨vok_r f1 (r _ (by omega) (by omega)) v1, vok_r f1 (r _ (by omega) (by omega)) v2⟩, ⟨σ, ⟨⟨by omega, s9⟩, fun j hj => ⟨(d3 j hj).1, by rw [r 35 (by omega) (by omega)]; exact (d3 j hj).2⟩, d4, fun j hj => gok_r f1 (r _ (by omega) (by omega)) (d5 j hj), fun j hj => absurd hj (Nat.not_lt_zero _)⟩⟩, ⟨⟨by omega, s11⟩, fun j hj => gok_r f1 (r _ (by omega) (by omega)) (e3 j hj), fun j hj => absurd hj (Nat.not_lt_zero _)⟩, Or.inl s14, ⟨s16, s20, fun q => absurd q t4_0⟩, f0, fun j hj => absurd hj (Nat.not_lt_zero _)⟩
theorem mv_fr {r : pR} {b : Int32} (h : MVal u u2 r b) : MFr u u2 := by
  obtain ⟨f1, f2, -, -, f3⟩ := h
  refine ⟨f1, by rw [f2], fun x hx => ⟨?_, by rw [f2]⟩⟩
  cases r with
  | inl q => exact f3.1 x (by omega) (by omega) (by omega)
  | inr q => exact f3.1 x (by omega) (by omega) (by omega) (by omega) (by omega)
theorem mv_l {q : Nat × Nat} {b : Int32} (hM : MI u hs V E G a H i K tr fl wh k t) (h : MVal u u2 (.inl q) b) : MI u2 hs V E G a H i K (nI 4) (nI q.1) (nI q.2) 0 t := by
  obtain ⟨⟨m1, m2, m3⟩, m4, m5, -, -⟩ := hM
  obtain ⟨f1, f2, -, f02, r1, r2, -, r4, r5, r6⟩ := h
  exact ⟨⟨md_c f1 (by rw [f2]) m1, by rw [r2 14 (by omega)]; exact m2, fun q => ⟨ml_c (r1 159 (by omega) (by omega) (by omega)) (m3 q).1, rw_c (r1 161 (by omega) (by omega) (by omega)) (m3 q).2⟩⟩, ma_c (r1 162 (by omega) (by omega) (by omega)) (r2 20 (by omega)) m4, mi_c (r1 163 (by omega) (by omega) (by omega)) (r2 21 (by omega)) m5, ⟨r4, r5, fun _ => r6⟩, f02, fun j hj => absurd hj (Nat.not_lt_zero _)⟩
theorem mv_r {q : pSt × Nat} {b : Int32} (hM : MI u hs V E G a H i K tr fl wh k t) (h : MVal u u2 (.inr q) b) : MI u2 true q.1.1 q.1.2.1 (s_plant q.1.1) 0 H 0 K 0 0 wh 0 t := by
  obtain ⟨⟨m1, m2, m3⟩, -⟩ := hM
  obtain ⟨f1, f2, -, f02, r1, r2, -, r11, r9, r14, r20, r21, w1, w2⟩ := h
  exact ⟨⟨md_c f1 (by rw [f2]) m1, r14, fun _ => ⟨w1, w2⟩⟩, ⟨⟨by omega, r20⟩, fun j hj => absurd hj (Nat.not_lt_zero _)⟩, ⟨⟨by omega, r21⟩, fun j hj => absurd hj (Nat.not_lt_zero _)⟩, ⟨r11, r9, fun q => absurd q t4_0⟩, f02, fun j hj => absurd hj (Nat.not_lt_zero _)⟩
theorem st_valley {x : Int32} : AStp d_X6_valley d_X7_valley [.int x] := by
  rintro ⟨hs, V, E, G, a, H, i, K, tr, fl, wh, k, t⟩ n u hn hC hM hP
  have hC : CI u hs V G a H i K tr fl wh k t := hC
  have hP : PS hs V E G a H i K k t n := hP
  have hW := ps_w hP hn
  obtain ⟨⟨tv, cw, -⟩, -, ⟨σ, hA⟩, hI, -⟩ := id hC
  have c13 := hC.2.2.2.2.2.2.1
  have c14 := hC.2.2.2.2.2.2.2
  have hk9 := hP.1.1
  by_cases c : 0 ≤ x ∧ x ≤ nI k
  rotate_left
  · exact rf t4_2 (c_valley_2 cw.1 c13 c) (fun u1 hM1 => m_valley_2 hM1.1.1 hM1.2.2.2.2.1 c) hC hP
  obtain ⟨m, hm, rfl⟩ := in_0 (by omega) c
  have h3 := cw.2.1
  have htv := cw.2.2.1
  have h4 : u.2.2.2 0 4 = some (20 - tv) := by
    obtain ⟨⟨tv', cw', c6⟩, -⟩ := id hC
    have := cw'.2.1
    rw [h3] at this
    rw [Option.some.inj this]
    exact c6
  have hvs : vl_ok u (20 - tv) := by
    rcases htv with rfl | rfl
    · exact hC.2.1.2
    · exact hC.2.1.1
  obtain ⟨u2, b, V0, hZ, e, hV⟩ := c_valley cw h4 hvs c13 hm hk9 (fun j hj => c14 j (by omega)) hP.1.2
  have hfr := cv_fr (by omega) hV
  have hmv : ∀ u1, MI u1 hs V E G a H i K tr fl wh k t → ∃ u3 b3, d_X7_valley [.ref 156, .int (nI m)] u1 = some (some (.int b3), u3) ∧ MVal u1 u3 (pl_all t m V0 E0 nm0 nm0) b3 := fun u1 hM1 => m_valley hM1.1.1 hM1.2.2.2.2.1 hm hk9 (fun j hj => hM1.2.2.2.2.2 j (by omega)) hP.1.2 hZ
  cases hr : pl_all t m V0 E0 nm0 nm0 with
  | inl q =>
    rw [hr] at hV hmv
    have hb : b = -1 := hV.2.2.2.2.2.2.1
    subst hb
    refine ⟨.int (-1), (hs, V, E, G, a, H, i, K, nI 4, nI q.1, nI q.2, 0, t), ps_m (n := n) ⟨⟨Nat.zero_le _, hP.1.2⟩, hP.2⟩ (by omega), ⟨u2, e, hfr, cv_l hC h3 hV⟩, fun u1 hM1 => ?_⟩
    obtain ⟨u3, b3, e3, hV3⟩ := hmv u1 hM1
    have hb : b3 = -1 := hV3.2.2.2.2.2.2.1
    subst hb
    exact ⟨u3, e3, mv_fr hV3, mv_l hM1 hV3⟩
  | inr q =>
    rw [hr] at hV hmv
    have hV0 := hV
    obtain ⟨-, -, -, -, -, -, -, -, hb, -, -, -, hPI, hQ⟩ := hV0
    subst hb
    have hE := vp_ve hPI.1 hQ
    refine ⟨.int (nI (v_Q q.1.1)), (true, q.1.1, q.1.2.1, s_plant q.1.1, 0, H, 0, K, 0, 0, wh, 0, t), ps_m (n := 0) ⟨⟨Nat.zero_le _, hP.1.2⟩, fun q => (by cases q), fun _ => ⟨hE, gj_plant hE, fun j hj => absurd hj (Nat.not_lt_zero _), fun j hj => absurd hj (Nat.not_lt_zero _)⟩⟩ (by omega), ⟨u2, e, hfr, cv_r hC h3 hV⟩, fun u1 hM1 => ?_⟩
    obtain ⟨u3, b3, e3, hV3⟩ := hmv u1 hM1
    have hb : b3 = nI (v_Q q.1.1) := hV3.2.2.2.2.2.2.1
    subst hb
    exact ⟨u3, e3, mv_fr hV3, mv_r hM1 hV3⟩
end
