-- FEED
section
variable {u u1 u2 u3 : am_St} {hs : Bool} {V : vS} {E : xE} {G G2 : gS} {a i k n tv a2 i2 : Nat} {H K H2 K2 : Nat → gS} {tr fl wh t2 : Int32} {t σ2 : Nat → Nat}
theorem ci_fd {k2 : Nat} {t3 : Nat → Nat} (h : cfd u u2 k 20) (h1 : u2.2.1 0 1 = nI k2) (h2 : ∀ j, j < k2 → u2.2.1 1 j = cbt (t3 j)) (hC : CI u hs V G a H i K tr fl wh k t) : CI u2 hs V G a H i K tr fl wh k2 t3 := by
  obtain ⟨⟨tv, ⟨c1, c2, c3, c4, ⟨g1, g2, g3, g4⟩, c5⟩, c6⟩, ⟨v1, v2⟩, ⟨σ, c7⟩, c8, c9, ⟨c10, c11, c12⟩, -⟩ := hC
  obtain ⟨f1, f2, f3, f4, f5, f6⟩ := h
  have r : ∀ x, u2.2.2.2 x = u.2.2.2 x := fun x => by rw [f2]
  have e2 : u2.2.1 2 = u.2.1 2 := f3 2 (by omega) (by omega)
  exact ⟨⟨tv, ⟨cl_r f1 (fun x j _ => by rw [f2]) c1, by rw [f2]; exact c2, c3, by rw [f4 5 (by omega)]; exact c4, ⟨gok_r f1 (r _) g1, gok_r f1 (r _) g2, gok_r f1 (r _) g3, gok_r f1 (r _) g4⟩, fun q => ⟨vl_r f1 (r _) (fun x h1 h2 => f3 x (by omega) (by omega)) (c5 q).1, gd_r f1 (r _) (fun x h1 h2 => f3 x (by omega) (by omega)) (c5 q).2⟩⟩, by rw [f2]; exact c6⟩, ⟨vok_r f1 (r _) v1, vok_r f1 (r _) v2⟩, ⟨σ, ca_c c7 f1 (fun x _ => r x) (fun x h1 h2 => f3 x (by omega) (by omega)) (f4 9 (by omega))⟩, ci_c c8 f1 (fun x _ => r x) (fun x h1 h2 => f3 x (by omega) (by omega)) (f4 11 (by omega)), pln_c (f4 14 (by omega)) (f3 43 (by omega) (by omega)) (by rw [f2]) (f3 48 (by omega) (by omega)) rfl c9, ⟨by rw [f4 16 (by omega)]; exact c10, by rw [e2]; exact c11, fun q => by rw [e2]; exact c12 q⟩, h1, h2⟩
theorem mi_fd {k2 : Nat} {t3 : Nat → Nat} (h : mfd u u2 k 20) (h1 : u2.2.1 156 2 = nI k2) (h2 : ∀ j, j < k2 → u2.2.1 157 j = nI (t3 j)) (hM : MI u hs V E G a H i K tr fl wh k t) : MI u2 hs V E G a H i K tr fl wh k2 t3 := by
  obtain ⟨⟨m1, m2, m3⟩, m4, m5, ⟨m6, m7, m8⟩, -⟩ := hM
  obtain ⟨f1, f2, f3, f4, f5, f6⟩ := h
  exact ⟨⟨md_c f1 (by rw [f2]) m1, by rw [f4 14 (by omega) (by omega)]; exact m2, fun q => ⟨ml_c (f3 159 (by omega) (by omega)) (m3 q).1, rw_c (f3 161 (by omega) (by omega)) (m3 q).2⟩⟩, ma_c (f3 162 (by omega) (by omega)) (f4 20 (by omega) (by omega)) m4, mi_c (f3 163 (by omega) (by omega)) (f4 21 (by omega) (by omega)) m5, ⟨by rw [f4 11 (by omega) (by omega)]; exact m6, by rw [f4 9 (by omega) (by omega)]; exact m7, fun q => by rw [f4 10 (by omega) (by omega)]; exact m8 q⟩, h1, h2⟩
theorem st_feed_x (xs : Nat → Int32) : AStp d_X6_feed d_X7_feed [.int (xs 0), .int (xs 1), .int (xs 2), .int (xs 3), .int (xs 4)] := by
  rintro ⟨hs, V, E, G, a, H, i, K, tr, fl, wh, k, t⟩ n u hn hC hM hP
  have hC : CI u hs V G a H i K tr fl wh k t := hC
  have hP : PS hs V E G a H i K k t n := hP
  have hW := ps_w hP hn
  obtain ⟨⟨tv, cw, -⟩, -, ⟨σ, hA⟩, hI, -⟩ := id hC
  have c13 := hC.2.2.2.2.2.2.1
  have c14 := hC.2.2.2.2.2.2.2
  have hk0 := cw.1.1
  have hk1 := cw.1.2.1
  by_cases c : k + 20 ≤ 900
  · have hz1 : am_sz u 1 = 900 ∧ u.2.2.2 0 0 = some 1 := by
      obtain ⟨hcl, -⟩ := cw
      obtain ⟨ck0, ck1, ck2, ck3, ck4, ck35, ck36, ck37, ck38, ck39, ck40, ck41, ck42, ck43, ck44, ck45, ck46, ck47, ck48, ck49, ck60, cz1, cz3, cz4, cz35, cz36, cz38, cz39, cz40, cz41, cz42, cz44, cz45, cz46, cz47, cz48, cz60, cr0_0, cr0_2, cr0_6, cr0_7, cr0_8, cr0_10, cr0_12, cr0_13, cr0_15, cr2_12, cr2_13, cr36_0, cr36_1, cr36_2, cr37_3, cr37_4, cr37_5, cr37_6, cr37_7, cr43_0, cr43_1, cr43_2, cr43_3, cr43_9, cr49_0, cr49_1, cr49_2⟩ := hcl
      exact ⟨cz1, cr0_0⟩
    obtain ⟨u2, e, f, v⟩ := c_feed xs hk0 hk1 hz1.1 hz1.2 c13 c
    refine ⟨.int (nI (k + 20)), (hs, V, E, G, a, H, i, K, tr, fl, wh, k + 20, fdt t k xs 20), ps_m (n := n) ⟨⟨c, fun j => ?_⟩, hP.2⟩ (by omega), ⟨u2, e, ⟨f.1, fun x hx => ⟨f.2.2.1 x (by omega) (by omega), by rw [f.2.1], by rw [f.2.1]⟩⟩, ci_fd f f.2.2.2.2.2 (fun j hj => ?_) hC⟩, fun u1 hM1 => ?_⟩
    · show fdt t k xs 20 j < 256
      unfold fdt
      split
      · exact byt_lt
      · exact hP.1.2 j
    · have hj : j < k + 20 := hj
      show u2.2.1 1 j = cbt (fdt t k xs 20 j)
      unfold fdt
      by_cases d : k ≤ j
      · rw [if_pos ⟨d, hj⟩]
        have := v (j - k) (by omega)
        rw [show k + (j - k) = j by omega] at this
        exact this
      · rw [if_neg (by omega), f.2.2.2.2.1 j (by omega)]
        exact c14 j (by omega)
    · have hM1 : MI u1 hs V E G a H i K tr fl wh k t := hM1
      obtain ⟨u3, e3, f3, v3⟩ := m_feed xs hM1.1.1 hM1.2.2.2.2.1 c
      refine ⟨u3, e3, ⟨f3.1, by rw [f3.2.1], fun x hx => ⟨f3.2.2.1 x (by omega) (by omega), by rw [f3.2.1]⟩⟩, mi_fd f3 f3.2.2.2.2.2 (fun j hj => ?_) hM1⟩
      have hj : j < k + 20 := hj
      show u3.2.1 157 j = nI (fdt t k xs 20 j)
      unfold fdt
      by_cases d : k ≤ j
      · rw [if_pos ⟨d, hj⟩]
        have := v3 (j - k) (by omega)
        rw [show k + (j - k) = j by omega] at this
        exact this
      · rw [if_neg (by omega), f3.2.2.2.2.1 j (by omega)]
        exact hM1.2.2.2.2.2 j (by omega)
  · refine ⟨.int (-1), (hs, V, E, G, a, H, i, K, tr, fl, wh, k, t), ps_m hP (by omega), ⟨u, c_feed_no hk0 c13 hP.1.1 c, fr_c, hC⟩, fun u1 hM1 => ⟨am_uI u1 156 0 0, ?_, fr_0, mi_0 hM1⟩⟩
    have hM1 : MI u1 hs V E G a H i K tr fl wh k t := hM1
    exact m_feed_no hM1.1.1 hM1.2.2.2.2.1 hP.1.1 c
theorem st_feed {x0 x1 x2 x3 x4 : Int32} : AStp d_X6_feed d_X7_feed [.int x0, .int x1, .int x2, .int x3, .int x4] := st_feed_x (fun j => if j = 0 then x0 else if j = 1 then x1 else if j = 2 then x2 else if j = 3 then x3 else x4)
end
