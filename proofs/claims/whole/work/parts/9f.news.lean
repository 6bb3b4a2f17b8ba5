-- THE NEW OBJECTS
def u_0 : am_St := (([], true, 0, 0), fun _ _ => 0, fun _ _ => 0, fun _ _ => none)
def ini6 : Option (Option Value × am_St) := d_X6_init [.ref 0] (am_new u_0 10 17)
theorem ini6_ok : (ini6.map fun q => (q.1, q.2.1.1.length)) = some (none, 156) := by decide +kernel
/-- the store behind the class's constructor -/
def u_6 : am_St := match ini6 with
  | some q => q.2
  | none => u_0
theorem ini6_e : d_X6_init [.ref 0] (am_new u_0 10 17) = some (none, u_6) := by
  have h := ini6_ok
  show ini6 = _
  unfold u_6
  cases hi : ini6 with
  | none => rw [hi] at h; cases h
  | some q =>
    rw [hi] at h
    have h := Option.some.inj h
    have h1 : q.1 = none := congrArg Prod.fst h
    show some q = some (none, q.2)
    rw [← h1]
theorem u6_c0 : am_kd u_6 0 = some 10 ∧ am_kd u_6 1 = some 1 ∧ am_kd u_6 2 = some 8 ∧ am_kd u_6 3 = some 2 ∧ am_kd u_6 4 = some 2 ∧ am_kd u_6 35 = some 3 ∧ am_kd u_6 36 = some 3 ∧ am_kd u_6 37 = some 4 ∧ am_kd u_6 38 = some 0 ∧ am_kd u_6 39 = some 0 ∧ am_kd u_6 40 = some 0 ∧ am_kd u_6 41 = some 0 := by decide +kernel
theorem u6_c1 : am_kd u_6 42 = some 0 ∧ am_kd u_6 43 = some 7 ∧ am_kd u_6 44 = some 0 ∧ am_kd u_6 45 = some 0 ∧ am_kd u_6 46 = some 0 ∧ am_kd u_6 47 = some 0 ∧ am_kd u_6 48 = some 0 ∧ am_kd u_6 49 = some 5 ∧ am_kd u_6 60 = some 0 ∧ am_sz u_6 1 = 900 ∧ am_sz u_6 3 = 6 ∧ am_sz u_6 4 = 6 := by decide +kernel
theorem u6_c2 : am_sz u_6 35 = 16 ∧ am_sz u_6 36 = 3 ∧ am_sz u_6 38 = 24 ∧ am_sz u_6 39 = 24 ∧ am_sz u_6 40 = 24 ∧ am_sz u_6 41 = 520 ∧ am_sz u_6 42 = 480 ∧ am_sz u_6 44 = 42 ∧ am_sz u_6 45 = 42 ∧ am_sz u_6 46 = 6 ∧ am_sz u_6 47 = 6 ∧ am_sz u_6 48 = 6 := by decide +kernel
theorem u6_c3 : am_sz u_6 60 = 37 ∧ u_6.2.2.2 0 0 = some 1 ∧ u_6.2.2.2 0 2 = some 2 ∧ u_6.2.2.2 0 6 = some 25 ∧ u_6.2.2.2 0 7 = some 30 ∧ u_6.2.2.2 0 8 = some 35 ∧ u_6.2.2.2 0 10 = some 36 ∧ u_6.2.2.2 0 12 = some 37 ∧ u_6.2.2.2 0 13 = some 43 ∧ u_6.2.2.2 0 15 = some 49 ∧ u_6.2.2.2 2 12 = some 3 ∧ u_6.2.2.2 2 13 = some 4 := by decide +kernel
theorem u6_c4 : u_6.2.2.2 36 0 = some 141 ∧ u_6.2.2.2 36 1 = some 146 ∧ u_6.2.2.2 36 2 = some 151 ∧ u_6.2.2.2 37 3 = some 38 ∧ u_6.2.2.2 37 4 = some 39 ∧ u_6.2.2.2 37 5 = some 40 ∧ u_6.2.2.2 37 6 = some 41 ∧ u_6.2.2.2 37 7 = some 42 ∧ u_6.2.2.2 43 0 = some 44 ∧ u_6.2.2.2 43 1 = some 45 ∧ u_6.2.2.2 43 2 = some 46 ∧ u_6.2.2.2 43 3 = some 47 := by decide +kernel
theorem u6_c5 : u_6.2.2.2 43 9 = some 48 ∧ u_6.2.2.2 49 0 = some 50 ∧ u_6.2.2.2 49 1 = some 55 ∧ u_6.2.2.2 49 2 = some 60 := by decide +kernel
theorem u6_cl : cl_ok u_6 := by
  obtain ⟨a0_0, a0_1, a0_2, a0_3, a0_4, a0_5, a0_6, a0_7, a0_8, a0_9, a0_10, a0_11⟩ := u6_c0
  obtain ⟨a1_0, a1_1, a1_2, a1_3, a1_4, a1_5, a1_6, a1_7, a1_8, a1_9, a1_10, a1_11⟩ := u6_c1
  obtain ⟨a2_0, a2_1, a2_2, a2_3, a2_4, a2_5, a2_6, a2_7, a2_8, a2_9, a2_10, a2_11⟩ := u6_c2
  obtain ⟨a3_0, a3_1, a3_2, a3_3, a3_4, a3_5, a3_6, a3_7, a3_8, a3_9, a3_10, a3_11⟩ := u6_c3
  obtain ⟨a4_0, a4_1, a4_2, a4_3, a4_4, a4_5, a4_6, a4_7, a4_8, a4_9, a4_10, a4_11⟩ := u6_c4
  obtain ⟨a5_0, a5_1, a5_2, a5_3⟩ := u6_c5
  exact ⟨a0_0, a0_1, a0_2, a0_3, a0_4, a0_5, a0_6, a0_7, a0_8, a0_9, a0_10, a0_11, a1_0, a1_1, a1_2, a1_3, a1_4, a1_5, a1_6, a1_7, a1_8, a1_9, a1_10, a1_11, a2_0, a2_1, a2_2, a2_3, a2_4, a2_5, a2_6, a2_7, a2_8, a2_9, a2_10, a2_11, a3_0, a3_1, a3_2, a3_3, a3_4, a3_5, a3_6, a3_7, a3_8, a3_9, a3_10, a3_11, a4_0, a4_1, a4_2, a4_3, a4_4, a4_5, a4_6, a4_7, a4_8, a4_9, a4_10, a4_11, a5_0, a5_1, a5_2, a5_3⟩
theorem u6_g : gd_ok u_6 25 ∧ gd_ok u_6 30 ∧ gd_ok u_6 50 ∧ gd_ok u_6 55 := by
  refine ⟨?_, ?_, ?_, ?_⟩ <;> (unfold gd_ok; decide +kernel)
theorem u6_v : vl_ok u_6 5 ∧ vl_ok u_6 15 := by
  refine ⟨?_, ?_⟩ <;> (unfold vl_ok; decide +kernel)
theorem u6_r : u_6.2.2.2 0 3 = some 5 ∧ u_6.2.2.2 0 4 = some 15 ∧ u_6.2.1 0 5 = 0 ∧ u_6.2.1 0 9 = 0 ∧ u_6.2.1 0 11 = 0 ∧ u_6.2.1 0 14 = 0 ∧ u_6.2.1 0 16 = 0 ∧ u_6.2.1 2 0 = 0 ∧ u_6.2.1 0 1 = 0 := by decide +kernel
theorem u6_a : ∀ j, j < 16 → u_6.2.2.2 35 j = some (61 + 5 * j) ∧ gd_ok u_6 (61 + 5 * j) := by unfold gd_ok; decide +kernel
theorem u6_i : ∀ j, j < 3 → gd_ok u_6 (141 + 5 * j) := by unfold gd_ok; decide +kernel
theorem u6_ci {V : vS} {G : gS} {H K : Nat → gS} {wh : Int32} {t : Nat → Nat} : CI u_6 false V G 0 H 0 K 0 0 wh 0 t := by
  obtain ⟨r3, r4, s5, s9, s11, s14, s16, s20, s1⟩ := u6_r
  obtain ⟨g1, g2, g3, g4⟩ := u6_g
  exact ⟨⟨5, ⟨u6_cl, r3, Or.inl rfl, s5, ⟨g1, g2, g3, g4⟩, fun q => (by cases q)⟩, r4⟩, u6_v, ⟨fun j => j, ⟨by omega, s9⟩, fun j hj => ⟨hj, (u6_a j hj).1⟩, fun _ _ _ _ h => h, fun j hj => (u6_a j hj).2, fun j hj => absurd hj (Nat.not_lt_zero _)⟩, ⟨⟨by omega, s11⟩, u6_i, fun j hj => absurd hj (Nat.not_lt_zero _)⟩, Or.inl s14, ⟨s16, s20, fun q => absurd q t4_0⟩, s1, fun j hj => absurd hj (Nat.not_lt_zero _)⟩
