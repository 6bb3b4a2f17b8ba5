theorem nl_7 : (7 : Int32) = nI 7 := (rfl)
theorem nl_9 : (9 : Int32) = nI 9 := (rfl)
theorem nl_14 : (14 : Int32) = nI 14 := (rfl)
theorem nl_13 : (13 : Int32) = nI 13 := (rfl)
theorem nl_15 : (15 : Int32) = nI 15 := (rfl)
theorem nl_17 : (17 : Int32) = nI 17 := (rfl)
theorem nl_19 : (19 : Int32) = nI 19 := (rfl)
theorem nl_21 : (21 : Int32) = nI 21 := (rfl)
theorem nl_22 : (22 : Int32) = nI 22 := (rfl)
theorem nl_23 : (23 : Int32) = nI 23 := (rfl)
theorem nl_27 : (27 : Int32) = nI 27 := (rfl)
theorem nl_31 : (31 : Int32) = nI 31 := (rfl)
theorem nl_32 : (32 : Int32) = nI 32 := (rfl)
theorem nl_40 : (40 : Int32) = nI 40 := (rfl)
theorem nl_50 : (50 : Int32) = nI 50 := (rfl)
theorem nl_57 : (57 : Int32) = nI 57 := (rfl)
theorem nl_97 : (97 : Int32) = nI 97 := (rfl)
theorem nl_108 : (108 : Int32) = nI 108 := (rfl)
theorem nl_122 : (122 : Int32) = nI 122 := (rfl)
theorem nl_1 : (1 : Int32) = nI 1 := (rfl)
theorem nx_sub1 {a : Nat} (h : 1 ≤ a) : nI a - 1 = nI (a - 1) := by rw [nl_1, nx_sub h]
theorem nz_0 : (0 : Int32).toNatClampNeg = 0 := (rfl)
theorem nz_1 : (1 : Int32).toNatClampNeg = 1 := (rfl)
theorem nz_00 : ((0 : Int32) < 0) = False := by simp
theorem nz_10 : ((1 : Int32) < 0) = False := by simp
theorem nz_a0 {a : Nat} : nI a + 0 = nI a := by simp
theorem nz_0a {a : Nat} : 0 + nI a = nI a := by simp
-- THE REFERENCE'S OBJECT: cell 156, its rows 157 to 174
/-- its shape -/
def md_ok (u : am_St) : Prop := am_kd u 156 = some 11 ∧ (am_kd u 157 = some 0 ∧ am_kd u 158 = some 0 ∧ am_kd u 159 = some 0 ∧ am_kd u 160 = some 0 ∧ am_kd u 161 = some 0 ∧ am_kd u 162 = some 0 ∧ am_kd u 163 = some 0 ∧ am_kd u 164 = some 0 ∧ am_kd u 165 = some 0 ∧ am_kd u 166 = some 0 ∧ am_kd u 167 = some 0 ∧ am_kd u 168 = some 0 ∧ am_kd u 169 = some 0 ∧ am_kd u 170 = some 0 ∧ am_kd u 171 = some 0 ∧ am_kd u 172 = some 0 ∧ am_kd u 173 = some 0 ∧ am_kd u 174 = some 0) ∧
  (am_sz u 157 = 900 ∧ am_sz u 158 = 8 ∧ am_sz u 159 = 220 ∧ am_sz u 160 = 220 ∧ am_sz u 161 = 26 ∧ am_sz u 162 = 416 ∧ am_sz u 163 = 78 ∧ am_sz u 164 = 6 ∧ am_sz u 165 = 26 ∧ am_sz u 166 = 26 ∧ am_sz u 167 = 182 ∧ am_sz u 168 = 6 ∧ am_sz u 169 = 6 ∧ am_sz u 170 = 6 ∧ am_sz u 171 = 6 ∧ am_sz u 172 = 403 ∧ am_sz u 173 = 12 ∧ am_sz u 174 = 32) ∧
  u.2.2.2 156 1 = some 157 ∧ u.2.2.2 156 12 = some 158 ∧ u.2.2.2 156 15 = some 159 ∧ u.2.2.2 156 16 = some 160 ∧ u.2.2.2 156 17 = some 161 ∧ u.2.2.2 156 18 = some 162 ∧ u.2.2.2 156 19 = some 163 ∧ u.2.2.2 156 22 = some 164 ∧ u.2.2.2 156 23 = some 165 ∧ u.2.2.2 156 24 = some 166 ∧ u.2.2.2 156 25 = some 167 ∧ u.2.2.2 156 26 = some 168 ∧ u.2.2.2 156 27 = some 169 ∧ u.2.2.2 156 28 = some 170 ∧ u.2.2.2 156 29 = some 171 ∧ u.2.2.2 156 33 = some 172 ∧ u.2.2.2 156 34 = some 173 ∧ u.2.2.2 156 36 = some 174
/-- what the reference's valley says beyond vS: families of a quarrel, pots, deeds, how many pots -/
abbrev xE : Type := (Nat → Nat) × (Nat → Nat) × (Nat → Nat) × (Nat → Nat) × (Nat → Nat) × (Nat → Nat) × Nat
def x_fa (E : xE) : Nat → Nat := E.1
def x_fb (E : xE) : Nat → Nat := E.2.1
def x_po (E : xE) : Nat → Nat := E.2.2.1
def x_dq (E : xE) : Nat → Nat := E.2.2.2.1
def x_ds (E : xE) : Nat → Nat := E.2.2.2.2.1
def x_df (E : xE) : Nat → Nat := E.2.2.2.2.2.1
def x_np (E : xE) : Nat := E.2.2.2.2.2.2
/-- the reference's row of a valley, at a cell -/
def ml_at (u : am_St) (c : Nat) (V : vS) (E : xE) : Prop := (u.2.1 c 0 = nI (v_wi V) ∧ u.2.1 c 1 = nI (v_be V) ∧ u.2.1 c 6 = nI (v_F V) ∧ u.2.1 c 7 = nI (v_Q V) ∧ u.2.1 c 8 = nI (v_la V) ∧ u.2.1 c 9 = nI (v_de V) ∧ u.2.1 c 10 = nI (v_fe V) ∧ u.2.1 c 11 = nI (x_np E)) ∧
  (∀ j, j < 4 → u.2.1 c (2 + j) = nI (v_co V j)) ∧ (∀ j, j < v_F V → u.2.1 c (12 + j) = nI (v_pe V j)) ∧
  (∀ q, q < v_Q V → u.2.1 c (18 + 5 * q) = nI (v_ki V q)) ∧ (∀ q, q < v_Q V → u.2.1 c (18 + 5 * q + 1) = nI (x_fa E q)) ∧ (∀ q, q < v_Q V → u.2.1 c (18 + 5 * q + 2) = nI (x_fb E q)) ∧ (∀ q, q < v_Q V → u.2.1 c (18 + 5 * q + 3) = nI (v_vi V q)) ∧ (∀ q, q < v_Q V → u.2.1 c (18 + 5 * q + 4) = nI (x_po E q)) ∧
  (∀ a b, a < 4 → b < 4 → u.2.1 c (48 + 4 * a + b) = nI (v_od V (4 * a + b))) ∧
  (∀ k, k < v_de V → u.2.1 c (64 + 3 * k) = nI (x_dq E k)) ∧ (∀ k, k < v_de V → u.2.1 c (64 + 3 * k + 1) = nI (x_ds E k)) ∧ (∀ k, k < v_de V → u.2.1 c (64 + 3 * k + 2) = nI (x_df E k)) ∧
  (∀ k, k < v_fe V → u.2.1 c (100 + 2 * k) = nI (v_fq V k)) ∧ (∀ k, k < v_fe V → u.2.1 c (100 + 2 * k + 1) = nI (v_fs V k))
/-- how a garden's value lies in a row of 26 -/
def g_on (G : gS) (q : Nat) : Nat := if g_ro G q = q then 0 else g_ro G q + 1
def enc (G : gS) (j : Nat) : Int32 := if j < 6 then nI (g_vi G j) else if j < 12 then nI (g_on G (j - 6)) else if j < 18 then nI (g_fr G (j - 12)) else if j < 24 then nI (g_su G (j - 18)) else if j = 24 then nI (g_se G) else nI (g_pa G)
theorem en_vi {G : gS} {q : Nat} (h : q < 6) : enc G q = nI (g_vi G q) := by simp [enc, h]
theorem en_on {G : gS} {q : Nat} (h : q < 6) : enc G (6 + q) = nI (g_on G q) := by
  simp only [enc]
  rw [if_neg (by omega), if_pos (by omega), Nat.add_sub_cancel_left]
theorem en_fr {G : gS} {q : Nat} (h : q < 6) : enc G (12 + q) = nI (g_fr G q) := by
  simp only [enc]
  rw [if_neg (by omega), if_neg (by omega), if_pos (by omega), Nat.add_sub_cancel_left]
theorem en_su {G : gS} {q : Nat} (h : q < 6) : enc G (18 + q) = nI (g_su G q) := by
  simp only [enc]
  rw [if_neg (by omega), if_neg (by omega), if_neg (by omega), if_pos (by omega), Nat.add_sub_cancel_left]
theorem en_se {G : gS} : enc G 24 = nI (g_se G) := by simp [enc]
theorem en_pa {G : gS} : enc G 25 = nI (g_pa G) := by simp [enc]
def rw_at (u : am_St) (c : Nat) (G : gS) : Prop := (∀ q, q < 6 → u.2.1 c q = nI (g_vi G q)) ∧ (∀ q, q < 6 → u.2.1 c (6 + q) = nI (g_on G q)) ∧ (∀ q, q < 6 → u.2.1 c (12 + q) = nI (g_fr G q)) ∧ (∀ q, q < 6 → u.2.1 c (18 + q) = nI (g_su G q)) ∧ u.2.1 c 24 = nI (g_se G) ∧ u.2.1 c 25 = nI (g_pa G)
theorem rw_of {u : am_St} {c : Nat} {G : gS} (h : ∀ j, j < 26 → u.2.1 c j = enc G j) : rw_at u c G :=
  ⟨fun q hq => by rw [h q (by omega), en_vi hq], fun q hq => by rw [h _ (by omega), en_on hq], fun q hq => by rw [h _ (by omega), en_fr hq], fun q hq => by rw [h _ (by omega), en_su hq], by rw [h 24 (by omega), en_se], by rw [h 25 (by omega), en_pa]⟩
theorem rw_to {u : am_St} {c : Nat} {G : gS} (h : rw_at u c G) : ∀ j, j < 26 → u.2.1 c j = enc G j := by
  obtain ⟨w0, w6, w12, w18, w24, w25⟩ := h
  intro j hj
  unfold enc
  by_cases c1 : j < 6
  · rw [if_pos c1, w0 j c1]
  rw [if_neg c1]
  by_cases c2 : j < 12
  · rw [if_pos c2, ← w6 (j - 6) (by omega), show 6 + (j - 6) = j by omega]
  rw [if_neg c2]
  by_cases c3 : j < 18
  · rw [if_pos c3, ← w12 (j - 12) (by omega), show 12 + (j - 12) = j by omega]
  rw [if_neg c3]
  by_cases c4 : j < 24
  · rw [if_pos c4, ← w18 (j - 18) (by omega), show 18 + (j - 18) = j by omega]
  rw [if_neg c4]
  by_cases c5 : j = 24
  · rw [if_pos c5, c5, w24]
  · rw [if_neg c5, ← w25, show j = 25 by omega]
/-- a stretch of a row of ints put anew -/
def rng (u : am_St) (c o n : Nat) (f : Nat → Int32) : am_St := (u.1, (fun a => if a = c then (fun j => if o ≤ j ∧ j < o + n then f (j - o) else u.2.1 c j) else u.2.1 a), u.2.2)
def rput (u : am_St) (c : Nat) (G : gS) : am_St := (u.1, (fun a => if a = c then (fun j => if j < 26 then enc G j else u.2.1 c j) else u.2.1 a), u.2.2)
section
variable {u : am_St} {c : Nat} {G : gS}
theorem rp_h : (rput u c G).1 = u.1 := (rfl)
theorem rp_2 : (rput u c G).2.2 = u.2.2 := (rfl)
theorem rp_kd {a : Nat} : am_kd (rput u c G) a = am_kd u a := (rfl)
theorem rp_sz {a : Nat} : am_sz (rput u c G) a = am_sz u a := (rfl)
theorem rp_len : am_len (rput u c G) = am_len u := (rfl)
theorem rp_wt : am_wt (rput u c G) = am_wt u := (rfl)
theorem rp_j {j : Nat} (h : j < 26) : (rput u c G).2.1 c j = enc G j := by simp [rput, h]
theorem rp_at : rw_at (rput u c G) c G := rw_of fun j hj => rp_j hj
theorem rp_vi {q : Nat} (h : q < 6) : (rput u c G).2.1 c q = nI (g_vi G q) := by rw [rp_j (by omega), en_vi h]
theorem rp_on {q : Nat} (h : q < 6) : (rput u c G).2.1 c (6 + q) = nI (g_on G q) := by rw [rp_j (by omega), en_on h]
theorem rp_fr {q : Nat} (h : q < 6) : (rput u c G).2.1 c (12 + q) = nI (g_fr G q) := by rw [rp_j (by omega), en_fr h]
theorem rp_su {q : Nat} (h : q < 6) : (rput u c G).2.1 c (18 + q) = nI (g_su G q) := by rw [rp_j (by omega), en_su h]
theorem rp_se : (rput u c G).2.1 c 24 = nI (g_se G) := by rw [rp_j (by omega), en_se]
theorem rp_pa : (rput u c G).2.1 c 25 = nI (g_pa G) := by rw [rp_j (by omega), en_pa]
theorem rp_oo {a : Nat} (h : a ≠ c) : (rput u c G).2.1 a = u.2.1 a := by simp [rput, h]
theorem rp_self (h : rw_at u c G) : rput u c G = u := by
  refine gp_ext rfl rfl fun a j => ?_
  simp only [rput]
  by_cases e : a = c
  · subst e
    by_cases hj : j < 26
    · simp [hj, rw_to h j hj]
    · simp [hj]
  · simp [e]
theorem rp_rp {G2 : gS} : rput (rput u c G) c G2 = rput u c G2 := by
  refine gp_ext rfl rfl fun a j => ?_
  simp only [rput]
  by_cases e : a = c
  · subst e
    by_cases hj : j < 26 <;> simp [hj]
  · simp [e]
theorem enc_c {G2 : gS} (h : gd_eq G G2) {j : Nat} (hj : j < 26) : enc G j = enc G2 j := by
  obtain ⟨h1, h2, h3, h4, h5, h6⟩ := h
  unfold enc
  split
  · next q => rw [h3 j q]
  split
  · next q => unfold g_on; rw [h4 (j - 6) (by omega)]
  split
  · next q => rw [h5 (j - 12) (by omega)]
  split
  · next q => rw [h6 (j - 18) (by omega)]
  split
  · rw [h1]
  · rw [h2]
theorem rp_c {G2 : gS} (h : gd_eq G G2) : rput u c G = rput u c G2 := by
  refine gp_ext rfl rfl fun a j => ?_
  simp only [rput]
  by_cases e : a = c
  · subst e
    by_cases hj : j < 26
    · simp [hj, enc_c h hj]
    · simp [hj]
  · simp [e]
theorem rs_gen {G2 : gS} {i : Nat} {x : Int32} (hi : i < 26) (h1 : enc G2 i = x) (h2 : ∀ j, j < 26 → j ≠ i → enc G2 j = enc G j) : am_uI (rput u c G) c i x = rput u c G2 := by
  refine gp_ext rfl rfl fun a j => ?_
  rw [am_II]
  simp only [rput]
  by_cases e : a = c
  · subst e
    by_cases ej : j = i
    · subst ej
      simp [hi, h1]
    · by_cases hj : j < 26
      · simp [ej, hj, h2 j hj ej]
      · simp [ej, hj]
  · simp [e]
theorem rs_vi {i x : Nat} (hi : i < 6) : am_uI (rput u c G) c i (nI x) = rput u c (g_mk (g_se G) (g_pa G) (va_up (g_vi G) i x) (g_ro G) (g_fr G) (g_su G)) := by
  refine rs_gen (by omega) (by simp [enc, hi, g_vi_m, va_up]) fun j hj ej => ?_
  simp only [enc, g_vi_m, g_fr_m, g_su_m, g_se_m, g_pa_m, g_on, g_ro_m, va_up, if_neg ej]
theorem rs_vi0 {i : Nat} (hi : i < 6) : am_uI (rput u c G) c i 0 = rput u c (g_mk (g_se G) (g_pa G) (va_up (g_vi G) i 0) (g_ro G) (g_fr G) (g_su G)) := rs_vi (x := 0) hi
theorem rs_on {i b : Nat} (hi : i < 6) (hb : b ≠ i) : am_uI (rput u c G) c (6 + i) (nI (b + 1)) = rput u c (g_mk (g_se G) (g_pa G) (g_vi G) (va_up (g_ro G) i b) (g_fr G) (g_su G)) := by
  refine rs_gen (by omega) (by rw [en_on hi]; simp [g_on, g_ro_m, va_up, hb]) fun j hj ej => ?_
  by_cases c1 : j < 6
  · simp only [enc, if_pos c1, g_vi_m]
  by_cases c2 : j < 12
  · have : j - 6 ≠ i := by omega
    simp only [enc, if_neg c1, if_pos c2, g_on, g_ro_m, va_up, if_neg this]
  · simp only [enc, if_neg c1, if_neg c2, g_fr_m, g_su_m, g_se_m, g_pa_m]
theorem rs_fr {i x : Nat} (hi : i < 6) : am_uI (rput u c G) c (12 + i) (nI x) = rput u c (g_mk (g_se G) (g_pa G) (g_vi G) (g_ro G) (va_up (g_fr G) i x) (g_su G)) := by
  refine rs_gen (by omega) (by rw [en_fr hi]; simp [g_fr_m, va_up]) fun j hj ej => ?_
  by_cases c1 : j < 12
  · simp only [enc, g_vi_m, g_ro_m, g_on, if_pos c1]
  by_cases c2 : j < 18
  · have : j - 12 ≠ i := by omega
    simp only [enc, if_neg c1, if_pos c2, g_fr_m, va_up, if_neg this, g_vi_m]
  · simp only [enc, if_neg c1, if_neg c2, g_su_m, g_se_m, g_pa_m, g_vi_m]
theorem rs_su {i x : Nat} (hi : i < 6) : am_uI (rput u c G) c (18 + i) (nI x) = rput u c (g_mk (g_se G) (g_pa G) (g_vi G) (g_ro G) (g_fr G) (va_up (g_su G) i x)) := by
  refine rs_gen (by omega) (by rw [en_su hi]; simp [g_su_m, va_up]) fun j hj ej => ?_
  by_cases c1 : j < 18
  · simp only [enc, g_vi_m, g_ro_m, g_on, g_fr_m, if_pos c1]
  by_cases c2 : j < 24
  · have : j - 18 ≠ i := by omega
    simp only [enc, if_neg c1, if_pos c2, g_su_m, va_up, if_neg this, g_vi_m, g_on, g_ro_m, g_fr_m]
  · simp only [enc, if_neg c1, if_neg c2, g_se_m, g_pa_m, g_vi_m, g_on, g_ro_m, g_fr_m]
theorem rs_se {x : Nat} : am_uI (rput u c G) c 24 (nI x) = rput u c (g_mk x (g_pa G) (g_vi G) (g_ro G) (g_fr G) (g_su G)) := by
  refine rs_gen (by omega) (by rw [en_se]; simp [g_se_m]) fun j hj ej => ?_
  simp only [enc, g_vi_m, g_fr_m, g_su_m, g_pa_m, g_on, g_ro_m, if_neg ej]
theorem rs_pa {x : Nat} : am_uI (rput u c G) c 25 (nI x) = rput u c (g_mk (g_se G) x (g_vi G) (g_ro G) (g_fr G) (g_su G)) := by
  refine rs_gen (by omega) (by rw [en_pa]; simp [g_pa_m]) fun j hj ej => ?_
  simp only [enc, g_vi_m, g_fr_m, g_su_m, g_se_m, g_on, g_ro_m]
  by_cases c1 : j < 6
  · simp only [if_pos c1]
  by_cases c2 : j < 12
  · simp only [if_neg c1, if_pos c2]
  by_cases c3 : j < 18
  · simp only [if_neg c1, if_neg c2, if_pos c3]
  by_cases c4 : j < 24
  · simp only [if_neg c1, if_neg c2, if_neg c3, if_pos c4]
  · have : j = 24 := by omega
    subst this
    rfl
end
theorem md_rp {u : am_St} {c : Nat} {G : gS} (h : md_ok u) : md_ok (rput u c G) := h
theorem ml_rp {u : am_St} {c d : Nat} {G : gS} {V : vS} {E : xE} (h : ml_at u d V E) (hc : c ≠ d) : ml_at (rput u c G) d V E := by
  have e : (rput u c G).2.1 d = u.2.1 d := rp_oo fun q => hc q.symm
  unfold ml_at
  rw [e]
  exact h
theorem rw_rp {u : am_St} {c d : Nat} {G G2 : gS} (h : rw_at u d G2) (hc : c ≠ d) : rw_at (rput u c G) d G2 := by
  have e : (rput u c G).2.1 d = u.2.1 d := rp_oo fun q => hc q.symm
  unfold rw_at
  rw [e]
  exact h
-- a valley as both sides hold it
def VE (V : vS) (E : xE) : Prop := (v_Q V ≤ 6) ∧ (0 < v_Q V) ∧ (v_F V ≤ 6) ∧ (v_la V ≤ 16) ∧ (v_de V ≤ 12) ∧ (v_fe V ≤ 6) ∧ (v_wi V ≤ 9) ∧ (v_be V ≤ 30) ∧ (4 ≤ v_be V) ∧ (∀ j, j < 4 → v_co V j ≤ 9) ∧ (∀ j, j < v_F V → v_pe V j ≤ 99) ∧ (∀ j, j < v_F V → 1 ≤ v_pe V j) ∧ (∀ j, j < v_Q V → v_ki V j < 4) ∧ (∀ j, j < v_Q V → x_fa E j < v_F V) ∧ (∀ j, j < v_Q V → x_fb E j < v_F V) ∧ (∀ j, j < v_Q V → x_fa E j ≠ x_fb E j) ∧ (∀ j, j < v_Q V → v_vi V j ≤ 30) ∧ (∀ j, j < 16 → v_od V j ≤ 100) ∧ (∀ j, j < 144 → v_fo V j ≤ 108) ∧ (∀ k, k < v_de V → x_dq E k < v_Q V) ∧ (∀ k, k < v_de V → x_ds E k < 24) ∧ (∀ k, k < v_de V → x_df E k ≤ 9) ∧ (∀ k, k < v_fe V → v_fq V k < v_Q V) ∧ (∀ k, k < v_fe V → v_fs V k < 24) ∧ (∀ q, q < v_Q V → v_pt V q = decide (x_po E q = 1)) ∧ (∀ q, q < v_Q V → x_po E q ≤ 1) ∧ (∀ q, q < v_Q V → v_pr V q = 1 <<< (nI (x_fa E q) &&& 31) ||| 1 <<< (nI (x_fb E q) &&& 31)) ∧ (∀ q s, q < v_Q V → s < 24 → v_fo V (q * 24 + s) = sumf (fun k => if x_dq E k = q ∧ x_ds E k = s then x_df E k else 0) (v_de V)) ∧ (x_np E = cntf (v_pt V) (v_Q V)) ∧ (v_po V = orf (v_pt V) (fun j => 1 <<< (nI j &&& 31)) (v_Q V))
theorem ve_Q {V : vS} {E : xE} (h : VE V E) : v_Q V ≤ 6 := h.1
theorem ve_Q1 {V : vS} {E : xE} (h : VE V E) : 0 < v_Q V := h.2.1
theorem ve_F {V : vS} {E : xE} (h : VE V E) : v_F V ≤ 6 := h.2.2.1
theorem ve_la {V : vS} {E : xE} (h : VE V E) : v_la V ≤ 16 := h.2.2.2.1
theorem ve_de {V : vS} {E : xE} (h : VE V E) : v_de V ≤ 12 := h.2.2.2.2.1
theorem ve_fe {V : vS} {E : xE} (h : VE V E) : v_fe V ≤ 6 := h.2.2.2.2.2.1
theorem ve_wi {V : vS} {E : xE} (h : VE V E) : v_wi V ≤ 9 := h.2.2.2.2.2.2.1
theorem ve_be {V : vS} {E : xE} (h : VE V E) : v_be V ≤ 30 := h.2.2.2.2.2.2.2.1
theorem ve_be4 {V : vS} {E : xE} (h : VE V E) : 4 ≤ v_be V := h.2.2.2.2.2.2.2.2.1
theorem ve_co {V : vS} {E : xE} (h : VE V E) : ∀ j, j < 4 → v_co V j ≤ 9 := h.2.2.2.2.2.2.2.2.2.1
theorem ve_pe {V : vS} {E : xE} (h : VE V E) : ∀ j, j < v_F V → v_pe V j ≤ 99 := h.2.2.2.2.2.2.2.2.2.2.1
theorem ve_pe1 {V : vS} {E : xE} (h : VE V E) : ∀ j, j < v_F V → 1 ≤ v_pe V j := h.2.2.2.2.2.2.2.2.2.2.2.1
theorem ve_ki {V : vS} {E : xE} (h : VE V E) : ∀ j, j < v_Q V → v_ki V j < 4 := h.2.2.2.2.2.2.2.2.2.2.2.2.1
theorem ve_fa {V : vS} {E : xE} (h : VE V E) : ∀ j, j < v_Q V → x_fa E j < v_F V := h.2.2.2.2.2.2.2.2.2.2.2.2.2.1
theorem ve_fb {V : vS} {E : xE} (h : VE V E) : ∀ j, j < v_Q V → x_fb E j < v_F V := h.2.2.2.2.2.2.2.2.2.2.2.2.2.2.1
theorem ve_ab {V : vS} {E : xE} (h : VE V E) : ∀ j, j < v_Q V → x_fa E j ≠ x_fb E j := h.2.2.2.2.2.2.2.2.2.2.2.2.2.2.2.1
theorem ve_vi {V : vS} {E : xE} (h : VE V E) : ∀ j, j < v_Q V → v_vi V j ≤ 30 := h.2.2.2.2.2.2.2.2.2.2.2.2.2.2.2.2.1
theorem ve_od {V : vS} {E : xE} (h : VE V E) : ∀ j, j < 16 → v_od V j ≤ 100 := h.2.2.2.2.2.2.2.2.2.2.2.2.2.2.2.2.2.1
theorem ve_fo {V : vS} {E : xE} (h : VE V E) : ∀ j, j < 144 → v_fo V j ≤ 108 := h.2.2.2.2.2.2.2.2.2.2.2.2.2.2.2.2.2.2.1
theorem ve_dq {V : vS} {E : xE} (h : VE V E) : ∀ k, k < v_de V → x_dq E k < v_Q V := h.2.2.2.2.2.2.2.2.2.2.2.2.2.2.2.2.2.2.2.1
theorem ve_ds {V : vS} {E : xE} (h : VE V E) : ∀ k, k < v_de V → x_ds E k < 24 := h.2.2.2.2.2.2.2.2.2.2.2.2.2.2.2.2.2.2.2.2.1
theorem ve_df {V : vS} {E : xE} (h : VE V E) : ∀ k, k < v_de V → x_df E k ≤ 9 := h.2.2.2.2.2.2.2.2.2.2.2.2.2.2.2.2.2.2.2.2.2.1
theorem ve_fq {V : vS} {E : xE} (h : VE V E) : ∀ k, k < v_fe V → v_fq V k < v_Q V := h.2.2.2.2.2.2.2.2.2.2.2.2.2.2.2.2.2.2.2.2.2.2.1
theorem ve_fs {V : vS} {E : xE} (h : VE V E) : ∀ k, k < v_fe V → v_fs V k < 24 := h.2.2.2.2.2.2.2.2.2.2.2.2.2.2.2.2.2.2.2.2.2.2.2.1
theorem ve_po {V : vS} {E : xE} (h : VE V E) : ∀ q, q < v_Q V → v_pt V q = decide (x_po E q = 1) := h.2.2.2.2.2.2.2.2.2.2.2.2.2.2.2.2.2.2.2.2.2.2.2.2.1
theorem ve_po1 {V : vS} {E : xE} (h : VE V E) : ∀ q, q < v_Q V → x_po E q ≤ 1 := h.2.2.2.2.2.2.2.2.2.2.2.2.2.2.2.2.2.2.2.2.2.2.2.2.2.1
theorem ve_pr {V : vS} {E : xE} (h : VE V E) : ∀ q, q < v_Q V → v_pr V q = 1 <<< (nI (x_fa E q) &&& 31) ||| 1 <<< (nI (x_fb E q) &&& 31) := h.2.2.2.2.2.2.2.2.2.2.2.2.2.2.2.2.2.2.2.2.2.2.2.2.2.2.1
theorem ve_fd {V : vS} {E : xE} (h : VE V E) : ∀ q s, q < v_Q V → s < 24 → v_fo V (q * 24 + s) = sumf (fun k => if x_dq E k = q ∧ x_ds E k = s then x_df E k else 0) (v_de V) := h.2.2.2.2.2.2.2.2.2.2.2.2.2.2.2.2.2.2.2.2.2.2.2.2.2.2.2.1
theorem ve_np {V : vS} {E : xE} (h : VE V E) : x_np E = cntf (v_pt V) (v_Q V) := h.2.2.2.2.2.2.2.2.2.2.2.2.2.2.2.2.2.2.2.2.2.2.2.2.2.2.2.2.1
theorem ve_bc {V : vS} {E : xE} (h : VE V E) : v_po V = orf (v_pt V) (fun j => 1 <<< (nI j &&& 31)) (v_Q V) := h.2.2.2.2.2.2.2.2.2.2.2.2.2.2.2.2.2.2.2.2.2.2.2.2.2.2.2.2.2
