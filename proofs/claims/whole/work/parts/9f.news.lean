-- THE NEW OBJECTS
def u_0 : am_St := (([], true, 0, 0), fun _ _ => 0, fun _ _ => 0, fun _ _ => none)
def ini6 : Option (Option Value × am_St) := d_X6_init [.ref 0] (am_new u_0 10 17)
theorem ini6_ok : (ini6.map fun q => (q.1, q.2.1.1.length)) = some (none, 156) := by decide +kernel
/-- the store behind the class's constructor -/
def u_6 : am_St := match ini6 with
  | some q => q.2
  | none => u_0
theorem ini6_e : d_X6_init [.ref 0] (am_new u_0 10 17) = some (none, u_6) := by
  have h := ini6_ok
  show ini6 = _
  unfold u_6
  cases hi : ini6 with
  | none => rw [hi] at h; cases h
  | some q =>
    rw [hi] at h
    have h := Option.some.inj h
    have h1 : q.1 = none := congrArg Prod.fst h
    show some q = some (none, q.2)
    rw [← h1]
set_option synthInstance.maxSize 2000 in
set_option synthInstance.maxHeartbeats 400000 in
theorem u6_cl : cl_ok u_6 := by unfold cl_ok; decide +kernel
theorem u6_g : gd_ok u_6 25 ∧ gd_ok u_6 30 ∧ gd_ok u_6 50 ∧ gd_ok u_6 55 := by
  refine ⟨?_, ?_, ?_, ?_⟩ <;> (unfold gd_ok; decide +kernel)
theorem u6_v : vl_ok u_6 5 ∧ vl_ok u_6 15 := by
  refine ⟨?_, ?_⟩ <;> (unfold vl_ok; decide +kernel)
theorem u6_r : u_6.2.2.2 0 3 = some 5 ∧ u_6.2.2.2 0 4 = some 15 ∧ u_6.2.1 0 5 = 0 ∧ u_6.2.1 0 9 = 0 ∧ u_6.2.1 0 11 = 0 ∧ u_6.2.1 0 14 = 0 ∧ u_6.2.1 0 16 = 0 ∧ u_6.2.1 2 0 = 0 ∧ u_6.2.1 0 1 = 0 := by decide +kernel
theorem u6_a : ∀ j, j < 16 → u_6.2.2.2 35 j = some (61 + 5 * j) ∧ gd_ok u_6 (61 + 5 * j) := by unfold gd_ok; decide +kernel
theorem u6_i : ∀ j, j < 3 → gd_ok u_6 (141 + 5 * j) := by unfold gd_ok; decide +kernel
theorem u6_ci {V : vS} {G : gS} {H K : Nat → gS} {wh : Int32} {t : Nat → Nat} : CI u_6 false V G 0 H 0 K 0 0 wh 0 t := by
  obtain ⟨r3, r4, s5, s9, s11, s14, s16, s20, s1⟩ := u6_r
  obtain ⟨g1, g2, g3, g4⟩ := u6_g
  exact ⟨⟨5, ⟨u6_cl, r3, Or.inl rfl, s5, ⟨g1, g2, g3, g4⟩, fun q => (by cases q)⟩, r4⟩, u6_v, ⟨fun j => j, ⟨by omega, s9⟩, fun j hj => ⟨hj, (u6_a j hj).1⟩, fun _ _ _ _ h => h, fun j hj => (u6_a j hj).2, fun j hj => absurd hj (Nat.not_lt_zero _)⟩, ⟨⟨by omega, s11⟩, u6_i, fun j hj => absurd hj (Nat.not_lt_zero _)⟩, Or.inl s14, ⟨s16, s20, fun q => absurd q t4_0⟩, s1, fun j hj => absurd hj (Nat.not_lt_zero _)⟩
