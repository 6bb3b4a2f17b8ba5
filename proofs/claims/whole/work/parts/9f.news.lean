-- THE NEW OBJECTS
def u_0 : am_St := (([], true, 0, 0), fun _ _ => 0, fun _ _ => 0, fun _ _ => none)
def ini6 : Option (Option Value × am_St) := d_X6_init [.ref 0] (am_new u_0 10 17)
theorem ini6_ok : (ini6.map fun q => (q.1, q.2.1.1.length, q.2.1.2.1)) = some (none, 156, true) := by decide +kernel
def u_6 : am_St := match ini6 with
  | some q => q.2
  | none => u_0
theorem ini_e {o : Option (Option Value × am_St)} {n : Nat} {b : Bool} (h : (o.map fun q => (q.1, q.2.1.1.length, q.2.1.2.1)) = some (none, n, b)) : ∃ q : am_St, o = some (none, q) ∧ q.1.1.length = n ∧ q.1.2.1 = b := by
  cases o with
  | none => cases h
  | some q =>
    have h := Option.some.inj h
    obtain ⟨a, q⟩ := q
    have h1 : a = none := congrArg Prod.fst h
    subst h1
    exact ⟨q, rfl, congrArg (fun z => z.2.1) h, congrArg (fun z => z.2.2) h⟩
theorem ini6_e : d_X6_init [.ref 0] (am_new u_0 10 17) = some (none, u_6) ∧ u_6.1.1.length = 156 ∧ u_6.1.2.1 = true := by
  obtain ⟨q, h1, h2, h3⟩ := ini_e ini6_ok
  have e : u_6 = q := by
    unfold u_6
    rw [h1]
  rw [e]
  exact ⟨h1, h2, h3⟩
def ini7 : Option (Option Value × am_St) := d_X7_init [.ref 156] (am_new u_6 11 38)
theorem ini7_ok : (ini7.map fun q => (q.1, q.2.1.1.length, q.2.1.2.1)) = some (none, 175, true) := by decide +kernel
def u_7 : am_St := match ini7 with
  | some q => q.2
  | none => u_0
theorem ini7_e : d_X7_init [.ref 156] (am_new u_6 11 38) = some (none, u_7) ∧ u_7.1.1.length = 175 ∧ u_7.1.2.1 = true := by
  obtain ⟨q, h1, h2, h3⟩ := ini_e ini7_ok
  have e : u_7 = q := by
    unfold u_7
    rw [h1]
  rw [e]
  exact ⟨h1, h2, h3⟩
-- no more cells of these kinds are made
def am_sh (u : am_St) : am_St := ((u.1.1, false, u.1.2.2.1, u.1.2.2.2), u.2)
def u_9 : am_St := am_sh (am_new u_7 2 1)
theorem u9_l : u_9.1.1[175]? = some (2, 1) ∧ u_9.1.2.1 = false ∧ am_len u_9 ≤ 1000 ∧ am_wt u_9 ≤ 100000 := by decide +kernel
theorem u9_c0 : am_kd u_9 0 = some 10 ∧ am_kd u_9 1 = some 1 ∧ am_kd u_9 2 = some 8 ∧ am_kd u_9 3 = some 2 ∧ am_kd u_9 4 = some 2 ∧ am_kd u_9 35 = some 3 ∧ am_kd u_9 36 = some 3 ∧ am_kd u_9 37 = some 4 ∧ am_kd u_9 38 = some 0 ∧ am_kd u_9 39 = some 0 ∧ am_kd u_9 40 = some 0 ∧ am_kd u_9 41 = some 0 := by decide +kernel
theorem u9_c1 : am_kd u_9 42 = some 0 ∧ am_kd u_9 43 = some 7 ∧ am_kd u_9 44 = some 0 ∧ am_kd u_9 45 = some 0 ∧ am_kd u_9 46 = some 0 ∧ am_kd u_9 47 = some 0 ∧ am_kd u_9 48 = some 0 ∧ am_kd u_9 49 = some 5 ∧ am_kd u_9 60 = some 0 ∧ am_sz u_9 1 = 900 ∧ am_sz u_9 3 = 6 ∧ am_sz u_9 4 = 6 := by decide +kernel
theorem u9_c2 : am_sz u_9 35 = 16 ∧ am_sz u_9 36 = 3 ∧ am_sz u_9 38 = 24 ∧ am_sz u_9 39 = 24 ∧ am_sz u_9 40 = 24 ∧ am_sz u_9 41 = 520 ∧ am_sz u_9 42 = 480 ∧ am_sz u_9 44 = 42 ∧ am_sz u_9 45 = 42 ∧ am_sz u_9 46 = 6 ∧ am_sz u_9 47 = 6 ∧ am_sz u_9 48 = 6 := by decide +kernel
theorem u9_c3 : am_sz u_9 60 = 37 ∧ u_9.2.2.2 0 0 = some 1 ∧ u_9.2.2.2 0 2 = some 2 ∧ u_9.2.2.2 0 6 = some 25 ∧ u_9.2.2.2 0 7 = some 30 ∧ u_9.2.2.2 0 8 = some 35 ∧ u_9.2.2.2 0 10 = some 36 ∧ u_9.2.2.2 0 12 = some 37 ∧ u_9.2.2.2 0 13 = some 43 ∧ u_9.2.2.2 0 15 = some 49 ∧ u_9.2.2.2 2 12 = some 3 ∧ u_9.2.2.2 2 13 = some 4 := by decide +kernel
theorem u9_c4 : u_9.2.2.2 36 0 = some 141 ∧ u_9.2.2.2 36 1 = some 146 ∧ u_9.2.2.2 36 2 = some 151 ∧ u_9.2.2.2 37 3 = some 38 ∧ u_9.2.2.2 37 4 = some 39 ∧ u_9.2.2.2 37 5 = some 40 ∧ u_9.2.2.2 37 6 = some 41 ∧ u_9.2.2.2 37 7 = some 42 ∧ u_9.2.2.2 43 0 = some 44 ∧ u_9.2.2.2 43 1 = some 45 ∧ u_9.2.2.2 43 2 = some 46 ∧ u_9.2.2.2 43 3 = some 47 := by decide +kernel
theorem u9_c5 : u_9.2.2.2 43 9 = some 48 ∧ u_9.2.2.2 49 0 = some 50 ∧ u_9.2.2.2 49 1 = some 55 ∧ u_9.2.2.2 49 2 = some 60 := by decide +kernel
theorem u9_cl : cl_ok u_9 := by
  obtain ⟨a0_0, a0_1, a0_2, a0_3, a0_4, a0_5, a0_6, a0_7, a0_8, a0_9, a0_10, a0_11⟩ := u9_c0
  obtain ⟨a1_0, a1_1, a1_2, a1_3, a1_4, a1_5, a1_6, a1_7, a1_8, a1_9, a1_10, a1_11⟩ := u9_c1
  obtain ⟨a2_0, a2_1, a2_2, a2_3, a2_4, a2_5, a2_6, a2_7, a2_8, a2_9, a2_10, a2_11⟩ := u9_c2
  obtain ⟨a3_0, a3_1, a3_2, a3_3, a3_4, a3_5, a3_6, a3_7, a3_8, a3_9, a3_10, a3_11⟩ := u9_c3
  obtain ⟨a4_0, a4_1, a4_2, a4_3, a4_4, a4_5, a4_6, a4_7, a4_8, a4_9, a4_10, a4_11⟩ := u9_c4
  obtain ⟨a5_0, a5_1, a5_2, a5_3⟩ := u9_c5
  exact ⟨a0_0, a0_1, a0_2, a0_3, a0_4, a0_5, a0_6, a0_7, a0_8, a0_9, a0_10, a0_11, a1_0, a1_1, a1_2, a1_3, a1_4, a1_5, a1_6, a1_7, a1_8, a1_9, a1_10, a1_11, a2_0, a2_1, a2_2, a2_3, a2_4, a2_5, a2_6, a2_7, a2_8, a2_9, a2_10, a2_11, a3_0, a3_1, a3_2, a3_3, a3_4, a3_5, a3_6, a3_7, a3_8, a3_9, a3_10, a3_11, a4_0, a4_1, a4_2, a4_3, a4_4, a4_5, a4_6, a4_7, a4_8, a4_9, a4_10, a4_11, a5_0, a5_1, a5_2, a5_3⟩
theorem u9_g1 : gd_ok u_9 25 := by unfold gd_ok; decide +kernel
theorem u9_g2 : gd_ok u_9 30 := by unfold gd_ok; decide +kernel
theorem u9_g3 : gd_ok u_9 50 := by unfold gd_ok; decide +kernel
theorem u9_g4 : gd_ok u_9 55 := by unfold gd_ok; decide +kernel
theorem u9_v1 : vl_ok u_9 5 := by unfold vl_ok; decide +kernel
theorem u9_v2 : vl_ok u_9 15 := by unfold vl_ok; decide +kernel
theorem u9_r : u_9.2.2.2 0 3 = some 5 ∧ u_9.2.2.2 0 4 = some 15 ∧ u_9.2.1 0 5 = 0 ∧ u_9.2.1 0 9 = 0 ∧ u_9.2.1 0 11 = 0 ∧ u_9.2.1 0 14 = 0 ∧ u_9.2.1 0 16 = 0 ∧ u_9.2.1 2 0 = 0 ∧ u_9.2.1 0 1 = 0 := by decide +kernel
theorem u9_a : ∀ j, j < 16 → u_9.2.2.2 35 j = some (61 + 5 * j) ∧ gd_ok u_9 (61 + 5 * j) := by unfold gd_ok; decide +kernel
theorem u9_i : ∀ j, j < 3 → gd_ok u_9 (141 + 5 * j) := by unfold gd_ok; decide +kernel
theorem u9_ci {V : vS} {G : gS} {H K : Nat → gS} {wh : Int32} {t : Nat → Nat} : CI u_9 false V G 0 H 0 K 0 0 wh 0 t := by
  obtain ⟨r3, r4, s5, s9, s11, s14, s16, s20, s1⟩ := u9_r
  exact ⟨⟨5, ⟨u9_cl, r3, Or.inl rfl, s5, ⟨u9_g1, u9_g2, u9_g3, u9_g4⟩, fun q => (by cases q)⟩, r4⟩, ⟨u9_v1, u9_v2⟩, ⟨fun j => j, ⟨by omega, s9⟩, fun j hj => ⟨hj, (u9_a j hj).1⟩, fun _ _ _ _ h => h, fun j hj => (u9_a j hj).2, fun j hj => absurd hj (Nat.not_lt_zero _)⟩, ⟨⟨by omega, s11⟩, u9_i, fun j hj => absurd hj (Nat.not_lt_zero _)⟩, Or.inl s14, ⟨s16, s20, fun q => absurd q t4_0⟩, s1, fun j hj => absurd hj (Nat.not_lt_zero _)⟩
theorem u9_m0 : am_kd u_9 156 = some 11 ∧ am_kd u_9 157 = some 0 ∧ am_kd u_9 158 = some 0 ∧ am_kd u_9 159 = some 0 ∧ am_kd u_9 160 = some 0 ∧ am_kd u_9 161 = some 0 ∧ am_kd u_9 162 = some 0 ∧ am_kd u_9 163 = some 0 ∧ am_kd u_9 164 = some 0 ∧ am_kd u_9 165 = some 0 ∧ am_kd u_9 166 = some 0 ∧ am_kd u_9 167 = some 0 := by decide +kernel
theorem u9_m1 : am_kd u_9 168 = some 0 ∧ am_kd u_9 169 = some 0 ∧ am_kd u_9 170 = some 0 ∧ am_kd u_9 171 = some 0 ∧ am_kd u_9 172 = some 0 ∧ am_kd u_9 173 = some 0 ∧ am_kd u_9 174 = some 0 ∧ am_sz u_9 157 = 900 ∧ am_sz u_9 158 = 8 ∧ am_sz u_9 159 = 220 ∧ am_sz u_9 160 = 220 ∧ am_sz u_9 161 = 26 := by decide +kernel
theorem u9_m2 : am_sz u_9 162 = 416 ∧ am_sz u_9 163 = 78 ∧ am_sz u_9 164 = 6 ∧ am_sz u_9 165 = 26 ∧ am_sz u_9 166 = 26 ∧ am_sz u_9 167 = 182 ∧ am_sz u_9 168 = 6 ∧ am_sz u_9 169 = 6 ∧ am_sz u_9 170 = 6 ∧ am_sz u_9 171 = 6 ∧ am_sz u_9 172 = 403 ∧ am_sz u_9 173 = 12 := by decide +kernel
theorem u9_m3 : am_sz u_9 174 = 32 ∧ u_9.2.2.2 156 1 = some 157 ∧ u_9.2.2.2 156 12 = some 158 ∧ u_9.2.2.2 156 15 = some 159 ∧ u_9.2.2.2 156 16 = some 160 ∧ u_9.2.2.2 156 17 = some 161 ∧ u_9.2.2.2 156 18 = some 162 ∧ u_9.2.2.2 156 19 = some 163 ∧ u_9.2.2.2 156 22 = some 164 ∧ u_9.2.2.2 156 23 = some 165 ∧ u_9.2.2.2 156 24 = some 166 ∧ u_9.2.2.2 156 25 = some 167 := by decide +kernel
theorem u9_m4 : u_9.2.2.2 156 26 = some 168 ∧ u_9.2.2.2 156 27 = some 169 ∧ u_9.2.2.2 156 28 = some 170 ∧ u_9.2.2.2 156 29 = some 171 ∧ u_9.2.2.2 156 33 = some 172 ∧ u_9.2.2.2 156 34 = some 173 ∧ u_9.2.2.2 156 36 = some 174 := by decide +kernel
theorem u9_md : md_ok u_9 := by
  obtain ⟨a0_0, a0_1, a0_2, a0_3, a0_4, a0_5, a0_6, a0_7, a0_8, a0_9, a0_10, a0_11⟩ := u9_m0
  obtain ⟨a1_0, a1_1, a1_2, a1_3, a1_4, a1_5, a1_6, a1_7, a1_8, a1_9, a1_10, a1_11⟩ := u9_m1
  obtain ⟨a2_0, a2_1, a2_2, a2_3, a2_4, a2_5, a2_6, a2_7, a2_8, a2_9, a2_10, a2_11⟩ := u9_m2
  obtain ⟨a3_0, a3_1, a3_2, a3_3, a3_4, a3_5, a3_6, a3_7, a3_8, a3_9, a3_10, a3_11⟩ := u9_m3
  obtain ⟨a4_0, a4_1, a4_2, a4_3, a4_4, a4_5, a4_6⟩ := u9_m4
  exact ⟨a0_0, ⟨a0_1, a0_2, a0_3, a0_4, a0_5, a0_6, a0_7, a0_8, a0_9, a0_10, a0_11, a1_0, a1_1, a1_2, a1_3, a1_4, a1_5, a1_6⟩, ⟨a1_7, a1_8, a1_9, a1_10, a1_11, a2_0, a2_1, a2_2, a2_3, a2_4, a2_5, a2_6, a2_7, a2_8, a2_9, a2_10, a2_11, a3_0⟩, a3_1, a3_2, a3_3, a3_4, a3_5, a3_6, a3_7, a3_8, a3_9, a3_10, a3_11, a4_0, a4_1, a4_2, a4_3, a4_4, a4_5, a4_6⟩
theorem u9_s : u_9.2.1 156 14 = 0 ∧ u_9.2.1 156 20 = 0 ∧ u_9.2.1 156 21 = 0 ∧ u_9.2.1 156 11 = 0 ∧ u_9.2.1 156 9 = 0 ∧ u_9.2.1 156 2 = 0 := by decide +kernel
theorem u9_mi {V : vS} {E : xE} {G : gS} {H K : Nat → gS} {wh : Int32} {t : Nat → Nat} : MI u_9 false V E G 0 H 0 K 0 0 wh 0 t := by
  obtain ⟨s14, s20, s21, s11, s9, s2⟩ := u9_s
  exact ⟨⟨u9_md, s14, fun q => (by cases q)⟩, ⟨⟨by omega, s20⟩, fun j hj => absurd hj (Nat.not_lt_zero _)⟩, ⟨⟨by omega, s21⟩, fun j hj => absurd hj (Nat.not_lt_zero _)⟩, ⟨s11, s9, fun q => absurd q t4_0⟩, s2, fun j hj => absurd hj (Nat.not_lt_zero _)⟩
theorem u9_ps {V : vS} {E : xE} {G : gS} {H K : Nat → gS} : PS false V E G 0 H 0 K 0 (fun _ => 0) 0 := ⟨⟨by omega, fun j => by show 0 < 256; omega⟩, fun _ => ⟨rfl, rfl⟩, fun q => (by cases q)⟩
