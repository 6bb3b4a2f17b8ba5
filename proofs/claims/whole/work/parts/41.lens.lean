theorem nl_2 : (2 : Int32) = nI 2 := (rfl)
theorem nl_3 : (3 : Int32) = nI 3 := (rfl)
theorem nl_4 : (4 : Int32) = nI 4 := (rfl)
theorem nl_5 : (5 : Int32) = nI 5 := (rfl)
theorem nl_6 : (6 : Int32) = nI 6 := (rfl)
theorem nl_8 : (8 : Int32) = nI 8 := (rfl)
theorem nl_10 : (10 : Int32) = nI 10 := (rfl)
theorem nl_11 : (11 : Int32) = nI 11 := (rfl)
theorem nl_12 : (12 : Int32) = nI 12 := (rfl)
theorem nl_16 : (16 : Int32) = nI 16 := (rfl)
theorem nl_18 : (18 : Int32) = nI 18 := (rfl)
theorem nl_20 : (20 : Int32) = nI 20 := (rfl)
theorem nl_24 : (24 : Int32) = nI 24 := (rfl)
theorem nl_25 : (25 : Int32) = nI 25 := (rfl)
theorem nl_26 : (26 : Int32) = nI 26 := (rfl)
theorem nl_30 : (30 : Int32) = nI 30 := (rfl)
theorem nl_48 : (48 : Int32) = nI 48 := (rfl)
theorem nl_60 : (60 : Int32) = nI 60 := (rfl)
theorem nl_64 : (64 : Int32) = nI 64 := (rfl)
theorem nl_75 : (75 : Int32) = nI 75 := (rfl)
theorem nl_74 : (74 : Int32) = nI 74 := (rfl)
theorem nl_99 : (99 : Int32) = nI 99 := (rfl)
theorem nl_100 : (100 : Int32) = nI 100 := (rfl)
theorem nl_112 : (112 : Int32) = nI 112 := (rfl)
theorem nl_124 : (124 : Int32) = nI 124 := (rfl)
theorem nl_200 : (200 : Int32) = nI 200 := (rfl)
theorem nl_220 : (220 : Int32) = nI 220 := (rfl)
theorem nl_255 : (255 : Int32) = nI 255 := (rfl)
theorem nl_900 : (900 : Int32) = nI 900 := (rfl)
theorem nl_999 : (999 : Int32) = nI 999 := (rfl)
theorem nl_1000000 : (1000000 : Int32) = nI 1000000 := (rfl)
theorem nl_65536 : (65536 : Int32) = nI 65536 := (rfl)
theorem nl_65537 : (65537 : Int32) = nI 65537 := (rfl)
theorem nx_pos {q : Nat} (h : q < 2147483648) : ((0 : Int32) < nI q) = (0 < q) := by rw [← nx_0, nx_ltI (by omega) h]
theorem nx_le0 {q : Nat} (h : q < 2147483648) : (nI q ≤ (0 : Int32)) = (q = 0) := by rw [← nx_0, nx_leI h (by omega)]; exact propext Nat.le_zero
theorem nx_ge0 {q : Nat} (h : q < 2147483648) : ((0 : Int32) ≤ nI q) = True := by rw [← nx_0, nx_leI (by omega) h]; simp
theorem nx_eq0 {q : Nat} (h : q < 2147483648) : (nI q = (0 : Int32)) = (q = 0) := by rw [← nx_0, nx_eqI h (by omega)]
theorem nx_div {a d : Nat} (ha : a < 2147483648) (h0 : 0 < d) (hd : d < 2147483648) : nI a / nI d = nI (a / d) := pk_div ha h0 hd
theorem nx_rem {a d : Nat} (ha : a < 2147483648) (h0 : 0 < d) (hd : d < 2147483648) : nI a - nI a / nI d * nI d = nI (a % d) := pk_rem ha h0 hd
theorem nx_rem2 {a d : Nat} : nI a - nI (a / d * d) = nI (a % d) := by
  rw [pk_sub (Nat.div_mul_le_self a d)]
  congr 1
  have := Nat.div_add_mod a d
  rw [Nat.mul_comm] at this
  omega
theorem nx_rem3 {a d : Nat} : a - a / d * d = a % d := by
  have := Nat.div_add_mod a d
  rw [Nat.mul_comm] at this
  omega
theorem nx_i10 : ((1 : Int32) = 0) = False := by simp
theorem nx_i01 : ((0 : Int32) = 1) = False := by simp
theorem nx_em {c : Prop} : (¬ c ∨ c) = True := eq_true (Classical.em c).symm
theorem nx_4 : ((4 : Nat) = 0) = False := by simp
theorem nx_12 : ((12 : Nat) = 0) = False := by simp
theorem nx_2 : ((2 : Nat) = 0) = False := by simp
theorem nx_6 : ((6 : Nat) = 0) = False := by simp
theorem nx_b0 {c : Prop} [Decidable c] : ((if c then (1 : Int32) else 0) = 0) = ¬ c := by
  by_cases h : c <;> simp [h]
theorem nx_b1 {c : Prop} [Decidable c] : ((if c then (1 : Int32) else 0) = 1) = c := by
  by_cases h : c <;> simp [h]
theorem nx_b01 {c : Prop} [Decidable c] : ((if c then (1 : Int32) else 0) = 0 ∨ (if c then (1 : Int32) else 0) = 1) = True := by
  by_cases h : c <;> simp [h]
/-- a garden's value: season, coins paid, vigour, root, fruits, suckers -/
abbrev gS : Type := Nat × Nat × (Nat → Nat) × (Nat → Nat) × (Nat → Nat) × (Nat → Nat)
def g_se (G : gS) : Nat := G.1
def g_pa (G : gS) : Nat := G.2.1
def g_vi (G : gS) : Nat → Nat := G.2.2.1
def g_ro (G : gS) : Nat → Nat := G.2.2.2.1
def g_fr (G : gS) : Nat → Nat := G.2.2.2.2.1
def g_su (G : gS) : Nat → Nat := G.2.2.2.2.2
def gd_ok (u : am_St) (g : Nat) : Prop := am_kd u g = some 6 ∧ (am_kd u (g + 1) = some 0 ∧ am_kd u (g + 2) = some 0 ∧ am_kd u (g + 3) = some 0 ∧ am_kd u (g + 4) = some 0) ∧ (am_sz u (g + 1) = 6 ∧ am_sz u (g + 2) = 6 ∧ am_sz u (g + 3) = 6 ∧ am_sz u (g + 4) = 6) ∧ (u.2.2.2 g 2 = some (g + 1) ∧ u.2.2.2 g 3 = some (g + 2) ∧ u.2.2.2 g 4 = some (g + 3) ∧ u.2.2.2 g 5 = some (g + 4))
def gd_at (u : am_St) (g : Nat) (G : gS) : Prop := gd_ok u g ∧ u.2.1 g 0 = nI (g_se G) ∧ u.2.1 g 1 = nI (g_pa G) ∧ (∀ j, j < 6 → u.2.1 (g + 1) j = nI (g_vi G j)) ∧ (∀ j, j < 6 → u.2.1 (g + 2) j = nI (g_ro G j)) ∧ (∀ j, j < 6 → u.2.1 (g + 3) j = nI (g_fr G j)) ∧ (∀ j, j < 6 → u.2.1 (g + 4) j = nI (g_su G j))
def am_r6 (old : Nat → Int32) (f : Nat → Nat) : Nat → Int32 := fun j => if j < 6 then nI (f j) else old j
/-- the store with a garden's value put at g -/
def gput (u : am_St) (g : Nat) (G : gS) : am_St := (u.1, (fun a => if a = g then (fun j => if j = 0 then nI (g_se G) else if j = 1 then nI (g_pa G) else u.2.1 g j) else if a = g + 1 then am_r6 (u.2.1 (g + 1)) (g_vi G) else if a = g + 2 then am_r6 (u.2.1 (g + 2)) (g_ro G) else if a = g + 3 then am_r6 (u.2.1 (g + 3)) (g_fr G) else if a = g + 4 then am_r6 (u.2.1 (g + 4)) (g_su G) else u.2.1 a), u.2.2)
section
variable {u : am_St} {g : Nat} {G : gS}
theorem gp_h : (gput u g G).1 = u.1 := (rfl)
theorem gp_2 : (gput u g G).2.2 = u.2.2 := (rfl)
theorem gp_kd {a : Nat} : am_kd (gput u g G) a = am_kd u a := (rfl)
theorem gp_sz {a : Nat} : am_sz (gput u g G) a = am_sz u a := (rfl)
theorem gp_len : am_len (gput u g G) = am_len u := (rfl)
theorem gp_wt : am_wt (gput u g G) = am_wt u := (rfl)
theorem gp_se : (gput u g G).2.1 g 0 = nI (g_se G) := by simp [gput]
theorem gp_pa : (gput u g G).2.1 g 1 = nI (g_pa G) := by simp [gput]
theorem gp_vi {j : Nat} (h : j < 6) : (gput u g G).2.1 (g + 1) j = nI (g_vi G j) := by simp [gput, am_r6, h]
theorem gp_ro {j : Nat} (h : j < 6) : (gput u g G).2.1 (g + 2) j = nI (g_ro G j) := by simp [gput, am_r6, h]
theorem gp_fr {j : Nat} (h : j < 6) : (gput u g G).2.1 (g + 3) j = nI (g_fr G j) := by simp [gput, am_r6, h]
theorem gp_su {j : Nat} (h : j < 6) : (gput u g G).2.1 (g + 4) j = nI (g_su G j) := by simp [gput, am_r6, h]
theorem gp_o {a : Nat} (h : a < g ∨ g + 4 < a) : (gput u g G).2.1 a = u.2.1 a := by
  simp only [gput]
  rw [if_neg (by omega), if_neg (by omega), if_neg (by omega), if_neg (by omega), if_neg (by omega)]
theorem gp_oo {a j : Nat} (h : a < g ∨ g + 4 < a) : (gput u g G).2.1 a j = u.2.1 a j := by rw [gp_o h]
theorem gp_ok (h : gd_ok u g) : gd_ok (gput u g G) g := h
theorem gp_at (h : gd_ok u g) : gd_at (gput u g G) g G := ⟨h, gp_se, gp_pa, fun j hj => gp_vi hj, fun j hj => gp_ro hj, fun j hj => gp_fr hj, fun j hj => gp_su hj⟩
theorem gp_ext {u2 : am_St} (h1 : u2.1 = u.1) (h2 : u2.2.2 = u.2.2) (h3 : ∀ a j, u2.2.1 a j = u.2.1 a j) : u2 = u := by
  obtain ⟨a, b, c⟩ := u
  obtain ⟨a2, b2, c2⟩ := u2
  dsimp only at h1 h2 h3
  subst h1; subst h2
  congr 2
  funext x y
  exact h3 x y
theorem gp_self (h : gd_at u g G) : gput u g G = u := by
  obtain ⟨-, s0, s1, s2, s3, s4, s5⟩ := h
  refine gp_ext rfl rfl fun a j => ?_
  simp only [gput]
  by_cases e0 : a = g
  · subst e0
    rw [if_pos rfl]
    by_cases j0 : j = 0
    · subst j0; simp [s0]
    · by_cases j1 : j = 1
      · subst j1; simp [s1]
      · simp [j0, j1]
  rw [if_neg e0]
  by_cases e1 : a = g + 1
  · subst e1
    rw [if_pos rfl]
    unfold am_r6
    split
    · next hj => exact (s2 j hj).symm
    · rfl
  rw [if_neg e1]
  by_cases e2 : a = g + 2
  · subst e2
    rw [if_pos rfl]
    unfold am_r6
    split
    · next hj => exact (s3 j hj).symm
    · rfl
  rw [if_neg e2]
  by_cases e3 : a = g + 3
  · subst e3
    rw [if_pos rfl]
    unfold am_r6
    split
    · next hj => exact (s4 j hj).symm
    · rfl
  rw [if_neg e3]
  by_cases e4 : a = g + 4
  · subst e4
    rw [if_pos rfl]
    unfold am_r6
    split
    · next hj => exact (s5 j hj).symm
    · rfl
  rw [if_neg e4]
theorem gp_gp {G2 : gS} : gput (gput u g G) g G2 = gput u g G2 := by
  refine gp_ext rfl rfl fun a j => ?_
  simp only [gput, am_r6]
  by_cases e0 : a = g
  · subst e0
    simp only [if_true]
    by_cases j0 : j = 0 <;> by_cases j1 : j = 1 <;> simp [j0, j1]
  by_cases e1 : a = g + 1
  · subst e1
    by_cases hj : j < 6 <;> simp [hj, am_r6]
  by_cases e2 : a = g + 2
  · subst e2
    by_cases hj : j < 6 <;> simp [hj, am_r6]
  by_cases e3 : a = g + 3
  · subst e3
    by_cases hj : j < 6 <;> simp [hj, am_r6]
  by_cases e4 : a = g + 4
  · subst e4
    by_cases hj : j < 6 <;> simp [hj, am_r6]
  simp [e0, e1, e2, e3, e4]
/-- the same where it counts -/
def gd_eq (G G2 : gS) : Prop := g_se G = g_se G2 ∧ g_pa G = g_pa G2 ∧ (∀ j, j < 6 → g_vi G j = g_vi G2 j) ∧ (∀ j, j < 6 → g_ro G j = g_ro G2 j) ∧ (∀ j, j < 6 → g_fr G j = g_fr G2 j) ∧ (∀ j, j < 6 → g_su G j = g_su G2 j)
theorem am_r6_c {o : Nat → Int32} {f f2 : Nat → Nat} (h : ∀ j, j < 6 → f j = f2 j) : am_r6 o f = am_r6 o f2 := by
  funext j
  unfold am_r6
  split
  · next hj => rw [h j hj]
  · rfl
theorem gp_c {G2 : gS} (h : gd_eq G G2) : gput u g G = gput u g G2 := by
  obtain ⟨h1, h2, h3, h4, h5, h6⟩ := h
  unfold gput
  rw [h1, h2, am_r6_c h3, am_r6_c h4, am_r6_c h5, am_r6_c h6]
def g_mk (se pa : Nat) (vi ro fr su : Nat → Nat) : gS := (se, pa, vi, ro, fr, su)
theorem g_se_m {se pa : Nat} {vi ro fr su : Nat → Nat} : g_se (g_mk se pa vi ro fr su) = se := (rfl)
theorem g_pa_m {se pa : Nat} {vi ro fr su : Nat → Nat} : g_pa (g_mk se pa vi ro fr su) = pa := (rfl)
theorem g_vi_m {se pa : Nat} {vi ro fr su : Nat → Nat} : g_vi (g_mk se pa vi ro fr su) = vi := (rfl)
theorem g_ro_m {se pa : Nat} {vi ro fr su : Nat → Nat} : g_ro (g_mk se pa vi ro fr su) = ro := (rfl)
theorem g_fr_m {se pa : Nat} {vi ro fr su : Nat → Nat} : g_fr (g_mk se pa vi ro fr su) = fr := (rfl)
theorem g_su_m {se pa : Nat} {vi ro fr su : Nat → Nat} : g_su (g_mk se pa vi ro fr su) = su := (rfl)
theorem gs_se {x : Nat} : am_uI (gput u g G) g 0 (nI x) = gput u g (g_mk x (g_pa G) (g_vi G) (g_ro G) (g_fr G) (g_su G)) := by
  refine gp_ext rfl rfl fun a j => ?_
  rw [am_II]
  simp only [gput, g_se_m, g_pa_m, g_vi_m, g_ro_m, g_fr_m, g_su_m]
  by_cases e0 : a = g
  · subst e0
    by_cases j0 : j = 0 <;> simp [j0]
  · simp [e0]
theorem gs_pa {x : Nat} : am_uI (gput u g G) g 1 (nI x) = gput u g (g_mk (g_se G) x (g_vi G) (g_ro G) (g_fr G) (g_su G)) := by
  refine gp_ext rfl rfl fun a j => ?_
  rw [am_II]
  simp only [gput, g_se_m, g_pa_m, g_vi_m, g_ro_m, g_fr_m, g_su_m]
  by_cases e0 : a = g
  · subst e0
    by_cases j0 : j = 0
    · simp [j0]
    · by_cases j1 : j = 1 <;> simp [j0, j1]
  · simp [e0]
theorem am_r6_u {o : Nat → Int32} {f : Nat → Nat} {i x : Nat} (hi : i < 6) (j : Nat) : (if j = i then nI x else am_r6 o f j) = am_r6 o (va_up f i x) j := by
  unfold am_r6 va_up
  by_cases h : j = i
  · subst h
    simp [hi]
  · simp [h]
theorem gs_vi {i x : Nat} (hi : i < 6) : am_uI (gput u g G) (g + 1) i (nI x) = gput u g (g_mk (g_se G) (g_pa G) (va_up (g_vi G) i x) (g_ro G) (g_fr G) (g_su G)) := by
  refine gp_ext rfl rfl fun a j => ?_
  rw [am_II]
  simp only [gput, g_se_m, g_pa_m, g_vi_m, g_ro_m, g_fr_m, g_su_m]
  by_cases e0 : a = g + 1
  · subst e0
    simp only [true_and, Nat.add_eq_left, Nat.reduceEqDiff, if_false, if_true]
    exact am_r6_u hi j
  · simp [e0]
theorem gs_ro {i x : Nat} (hi : i < 6) : am_uI (gput u g G) (g + 2) i (nI x) = gput u g (g_mk (g_se G) (g_pa G) (g_vi G) (va_up (g_ro G) i x) (g_fr G) (g_su G)) := by
  refine gp_ext rfl rfl fun a j => ?_
  rw [am_II]
  simp only [gput, g_se_m, g_pa_m, g_vi_m, g_ro_m, g_fr_m, g_su_m]
  by_cases e0 : a = g + 2
  · subst e0
    simp only [true_and, Nat.add_eq_left, Nat.add_left_cancel_iff, Nat.reduceEqDiff, if_false, if_true]
    exact am_r6_u hi j
  · simp [e0]
theorem gs_fr {i x : Nat} (hi : i < 6) : am_uI (gput u g G) (g + 3) i (nI x) = gput u g (g_mk (g_se G) (g_pa G) (g_vi G) (g_ro G) (va_up (g_fr G) i x) (g_su G)) := by
  refine gp_ext rfl rfl fun a j => ?_
  rw [am_II]
  simp only [gput, g_se_m, g_pa_m, g_vi_m, g_ro_m, g_fr_m, g_su_m]
  by_cases e0 : a = g + 3
  · subst e0
    simp only [true_and, Nat.add_eq_left, Nat.add_left_cancel_iff, Nat.reduceEqDiff, if_false, if_true]
    exact am_r6_u hi j
  · simp [e0]
theorem gs_su {i x : Nat} (hi : i < 6) : am_uI (gput u g G) (g + 4) i (nI x) = gput u g (g_mk (g_se G) (g_pa G) (g_vi G) (g_ro G) (g_fr G) (va_up (g_su G) i x)) := by
  refine gp_ext rfl rfl fun a j => ?_
  rw [am_II]
  simp only [gput, g_se_m, g_pa_m, g_vi_m, g_ro_m, g_fr_m, g_su_m]
  by_cases e0 : a = g + 4
  · subst e0
    simp only [true_and, Nat.add_eq_left, Nat.add_left_cancel_iff, Nat.reduceEqDiff, if_false, if_true]
    exact am_r6_u hi j
  · simp [e0]
theorem gs_se0 : am_uI (gput u g G) g 0 0 = gput u g (g_mk 0 (g_pa G) (g_vi G) (g_ro G) (g_fr G) (g_su G)) := gs_se (x := 0)
theorem gs_pa0 : am_uI (gput u g G) g 1 0 = gput u g (g_mk (g_se G) 0 (g_vi G) (g_ro G) (g_fr G) (g_su G)) := gs_pa (x := 0)
theorem gs_vi0 {i : Nat} (hi : i < 6) : am_uI (gput u g G) (g + 1) i 0 = gput u g (g_mk (g_se G) (g_pa G) (va_up (g_vi G) i 0) (g_ro G) (g_fr G) (g_su G)) := gs_vi (x := 0) hi
theorem gs_fr0 {i : Nat} (hi : i < 6) : am_uI (gput u g G) (g + 3) i 0 = gput u g (g_mk (g_se G) (g_pa G) (g_vi G) (g_ro G) (va_up (g_fr G) i 0) (g_su G)) := gs_fr (x := 0) hi
theorem gs_su0 {i : Nat} (hi : i < 6) : am_uI (gput u g G) (g + 4) i 0 = gput u g (g_mk (g_se G) (g_pa G) (g_vi G) (g_ro G) (g_fr G) (va_up (g_su G) i 0)) := gs_su (x := 0) hi
end
-- a valley's value
/-- winter, bears, families, quarrels, laws, deeds, fells; pots; coins, people, kind, pair, vigour, odds, food, fellOf, fellIn -/
abbrev vS : Type := (Nat × Nat × Nat × Nat × Nat × Nat × Nat) × Int32 × (Nat → Nat) × (Nat → Nat) × (Nat → Nat) × (Nat → Int32) × (Nat → Nat) × (Nat → Nat) × (Nat → Nat) × (Nat → Nat) × (Nat → Nat)
def v_wi (V : vS) : Nat := V.1.1
def v_be (V : vS) : Nat := V.1.2.1
def v_F (V : vS) : Nat := V.1.2.2.1
def v_Q (V : vS) : Nat := V.1.2.2.2.1
def v_la (V : vS) : Nat := V.1.2.2.2.2.1
def v_de (V : vS) : Nat := V.1.2.2.2.2.2.1
def v_fe (V : vS) : Nat := V.1.2.2.2.2.2.2
def v_po (V : vS) : Int32 := V.2.1
def v_co (V : vS) : Nat → Nat := V.2.2.1
def v_pe (V : vS) : Nat → Nat := V.2.2.2.1
def v_ki (V : vS) : Nat → Nat := V.2.2.2.2.1
def v_pr (V : vS) : Nat → Int32 := V.2.2.2.2.2.1
def v_vi (V : vS) : Nat → Nat := V.2.2.2.2.2.2.1
def v_od (V : vS) : Nat → Nat := V.2.2.2.2.2.2.2.1
def v_fo (V : vS) : Nat → Nat := V.2.2.2.2.2.2.2.2.1
def v_fq (V : vS) : Nat → Nat := V.2.2.2.2.2.2.2.2.2.1
def v_fs (V : vS) : Nat → Nat := V.2.2.2.2.2.2.2.2.2.2
def vl_ok (u : am_St) (v : Nat) : Prop := am_kd u v = some 9 ∧ (am_kd u (v + 1) = some 0 ∧ am_kd u (v + 2) = some 0 ∧ am_kd u (v + 3) = some 0 ∧ am_kd u (v + 4) = some 0 ∧ am_kd u (v + 5) = some 0 ∧ am_kd u (v + 6) = some 0 ∧ am_kd u (v + 7) = some 0 ∧ am_kd u (v + 8) = some 0 ∧ am_kd u (v + 9) = some 0) ∧ (am_sz u (v + 1) = 4 ∧ am_sz u (v + 2) = 6 ∧ am_sz u (v + 3) = 6 ∧ am_sz u (v + 4) = 6 ∧ am_sz u (v + 5) = 6 ∧ am_sz u (v + 6) = 16 ∧ am_sz u (v + 7) = 144 ∧ am_sz u (v + 8) = 6 ∧ am_sz u (v + 9) = 6) ∧
  (u.2.2.2 v 8 = some (v + 1) ∧ u.2.2.2 v 9 = some (v + 2) ∧ u.2.2.2 v 10 = some (v + 3) ∧ u.2.2.2 v 11 = some (v + 4) ∧ u.2.2.2 v 12 = some (v + 5) ∧ u.2.2.2 v 13 = some (v + 6) ∧ u.2.2.2 v 14 = some (v + 7) ∧ u.2.2.2 v 15 = some (v + 8) ∧ u.2.2.2 v 16 = some (v + 9))
def vl_at (u : am_St) (v : Nat) (V : vS) : Prop := vl_ok u v ∧ (u.2.1 v 0 = nI (v_wi V) ∧ u.2.1 v 1 = nI (v_be V) ∧ u.2.1 v 2 = nI (v_F V) ∧ u.2.1 v 3 = nI (v_Q V) ∧ u.2.1 v 4 = nI (v_la V) ∧ u.2.1 v 5 = nI (v_de V) ∧ u.2.1 v 6 = nI (v_fe V) ∧ u.2.1 v 7 = v_po V) ∧
  (∀ j, j < 4 → u.2.1 (v + 1) j = nI (v_co V j)) ∧ (∀ j, j < 6 → u.2.1 (v + 2) j = nI (v_pe V j)) ∧ (∀ j, j < 6 → u.2.1 (v + 3) j = nI (v_ki V j)) ∧ (∀ j, j < 6 → u.2.1 (v + 4) j = v_pr V j) ∧ (∀ j, j < 6 → u.2.1 (v + 5) j = nI (v_vi V j)) ∧ (∀ j, j < 16 → u.2.1 (v + 6) j = nI (v_od V j)) ∧ (∀ j, j < 144 → u.2.1 (v + 7) j = nI (v_fo V j)) ∧ (∀ j, j < 6 → u.2.1 (v + 8) j = nI (v_fq V j)) ∧ (∀ j, j < 6 → u.2.1 (v + 9) j = nI (v_fs V j))
theorem vl_gp {u : am_St} {g v : Nat} {G : gS} {V : vS} (h : vl_at u v V) (hd : v + 9 < g ∨ g + 4 < v) : vl_at (gput u g G) v V := by
  obtain ⟨h1, ⟨a0, a1, a2, a3, a4, a5, a6, a7⟩, b1, b2, b3, b4, b5, b6, b7, b8, b9⟩ := h
  refine ⟨h1, ⟨?_, ?_, ?_, ?_, ?_, ?_, ?_, ?_⟩, fun j hj => ?_, fun j hj => ?_, fun j hj => ?_, fun j hj => ?_, fun j hj => ?_, fun j hj => ?_, fun j hj => ?_, fun j hj => ?_, fun j hj => ?_⟩ <;> rw [gp_oo (by omega)]
  · exact a0
  · exact a1
  · exact a2
  · exact a3
  · exact a4
  · exact a5
  · exact a6
  · exact a7
  · exact b1 j hj
  · exact b2 j hj
  · exact b3 j hj
  · exact b4 j hj
  · exact b5 j hj
  · exact b6 j hj
  · exact b7 j hj
  · exact b8 j hj
  · exact b9 j hj
theorem gd_gp {u : am_St} {g g2 : Nat} {G G2 : gS} (h : gd_at u g G) (hd : g + 4 < g2 ∨ g2 + 4 < g) : gd_at (gput u g2 G2) g G := by
  obtain ⟨h1, s0, s1, s2, s3, s4, s5⟩ := h
  refine ⟨h1, ?_, ?_, fun j hj => ?_, fun j hj => ?_, fun j hj => ?_, fun j hj => ?_⟩ <;> rw [gp_oo (by omega)]
  · exact s0
  · exact s1
  · exact s2 j hj
  · exact s3 j hj
  · exact s4 j hj
  · exact s5 j hj
