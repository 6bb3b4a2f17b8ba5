-- WHAT IS KNOWN AT THE LAW'S ENTRY
def fl_1 : List Cond := flatC (Jvm.Cond.and given_1 narrow_1)
def sT (i : Nat) : Term := match am_sr[i]? with
  | some q => .string q.1 q.2.1
  | none => .arg 0
abbrev sV (i : Nat) : Term := .field (sT i) "java/lang/String" "value" "[B"
theorem fs_n : ∀ i, i < 21 → (am_sb.getD i []).length < 100 := by decide +kernel
theorem fs_ex : ∀ i, i < 21 → Cond.exactly (sT i) "java/lang/String" ∈ fl_1 := by decide +kernel
theorem fs_co : ∀ i, i < 21 → Cond.eq (.field (sT i) "java/lang/String" "coder" "B") (.int 0) ∈ fl_1 := by decide +kernel
theorem fs_ar : ∀ i, i < 21 → Cond.arrayOf (sV i) .byte ∈ fl_1 := by decide +kernel
theorem fs_le : ∀ i, i < 21 → Cond.eq (.length (sV i)) (.int (Int32.ofNat (am_sb.getD i []).length)) ∈ fl_1 := by decide +kernel
theorem fs_el : ∀ i, i < 21 → ∀ j, j < (am_sb.getD i []).length → Cond.eq (.elem (sV i) (.int (Int32.ofNat j))) (.int ((am_sb.getD i []).getD j 0)) ∈ fl_1 := by decide +kernel
theorem fs_sr : ∀ q ∈ am_sr, q.2.2.2 < 21 ∧ Cond.stringRef q.1 q.2.1 q.2.2.1 ∈ lw_tbl ∧ (sT q.2.2.2 = .string q.1 q.2.1 ∨ Cond.eq (sT q.2.2.2) (.string q.1 q.2.1) ∈ fl_1) := by decide +kernel
theorem fs_nw : ∀ w ∈ am_nw, w ∈ lw_tbl ∧ w.onTables = true := by decide +kernel
theorem fs_c : Cond.eq (.static "java/lang/String" "COMPACT_STRINGS" "Z") (.int 1) ∈ fl_1 := by decide +kernel
theorem fs_l0 : Cond.laysStatic "java/lang/String" "COMPACT_STRINGS" "Z" ∈ lw_tbl := List.mem_append_right _ (List.mem_of_getElem? (i := 418) (by decide +kernel))
theorem fs_r1 : Cond.isRef (.static "jdk/internal/util/Preconditions" "SIOOBE_FORMATTER" "Ljava/util/function/BiFunction;") ∈ fl_1 := by decide +kernel
theorem fs_l1 : Cond.laysStatic "jdk/internal/util/Preconditions" "SIOOBE_FORMATTER" "Ljava/util/function/BiFunction;" ∈ lw_tbl := List.mem_append_right _ (List.mem_of_getElem? (i := 434) (by decide +kernel))
theorem fs_r2 : Cond.isRef (.static "java/lang/Throwable" "UNASSIGNED_STACK" "[Ljava/lang/StackTraceElement;") ∈ fl_1 := by decide +kernel
theorem fs_l2 : Cond.laysStatic "java/lang/Throwable" "UNASSIGNED_STACK" "[Ljava/lang/StackTraceElement;" ∈ lw_tbl := List.mem_append_right _ (List.mem_of_getElem? (i := 1079) (by decide +kernel))
theorem fs_r3 : Cond.isRef (.static "java/lang/Throwable" "SUPPRESSED_SENTINEL" "Ljava/util/List;") ∈ fl_1 := by decide +kernel
theorem fs_l3 : Cond.laysStatic "java/lang/Throwable" "SUPPRESSED_SENTINEL" "Ljava/util/List;" ∈ lw_tbl := List.mem_append_right _ (List.mem_of_getElem? (i := 1081) (by decide +kernel))
theorem fs_i0 : Cond.initialized "java/lang/String" ∈ lw_tbl := List.mem_append_right _ (List.mem_of_getElem? (i := 9) (by decide +kernel))
theorem fs_i1 : Cond.initialized "jdk/internal/util/Preconditions" ∈ lw_tbl := List.mem_append_right _ (List.mem_of_getElem? (i := 11) (by decide +kernel))
theorem fs_i2 : Cond.initialized "java/lang/Throwable" ∈ lw_tbl := List.mem_append_right _ (List.mem_of_getElem? (i := 15) (by decide +kernel))
theorem fs_ao : Cond.arrayOver (.object RX2) ∈ lw_tbl := List.mem_append_right _ (List.mem_of_getElem? (i := 213) (by decide +kernel))
set_option maxHeartbeats 4000000 in
theorem ent_K {s : State} {b : Nat} (hts : ∀ w ∈ lw_tbl, w.before #[Value.ref b] s = true) (hgv : (Jvm.Cond.and given_1 narrow_1).before #[Value.ref b] s = true) : ∃ g : am_Gl, am_K g s ∧ g.2.2.1 = s.heap.size ∧ g.2.2.2.1 21 = b := by
  have hs : ∀ w ∈ fl_1, w.before #[Value.ref b] s = true := flat_of_before _ hgv
  have ht : ∀ w ∈ am_tbl, w.before #[Value.ref b] s = true := fun w h => hts w (am_good h).1
  have hA : ∀ a : Nat, a < s.heap.size → ¬ (fun q : Nat => s.heap.size ≤ q) a := fun a h => Nat.not_le.mpr h
  obtain ⟨c0, i0, K0⟩ := u_known (C := RX0) (T := TX0) (N := 8) (n := 8) ht iw_0 (ht _ k_282)
  obtain ⟨c1, i1, K1⟩ := u_known (C := RX1) (T := TX1) (N := 4) (n := 4) ht iw_1 (ht _ k_290)
  obtain ⟨c2, i2, K2⟩ := u_known (C := RX2) (T := TX2) (N := 6) (n := 6) ht iw_2 (ht _ k_39)
  obtain ⟨c3, i3, K3⟩ := u_known (C := RX3) (T := TX3) (N := 10) (n := 10) ht iw_3 (ht _ k_286)
  obtain ⟨c4, i4, K4⟩ := u_known (C := RX4) (T := TX4) (N := 14) (n := 14) ht iw_4 (ht _ k_273)
  obtain ⟨c5, i5, K5⟩ := u_known (C := RX5) (T := TX5) (N := 17) (n := 17) ht iw_5 (ht _ k_277)
  obtain ⟨c6, i6, K6⟩ := u_known (C := RX6) (T := TX6) (N := 17) (n := 17) ht iw_6 (ht _ klq_393)
  obtain ⟨c7, i7, K7⟩ := u_known (C := RX7) (T := TX7) (N := 38) (n := 38) ht iw_7 (ht _ klq_395)
  obtain ⟨dC, dI, hKc⟩ : ∃ (dC : Nat → ClassId) (dI : Nat → Nat → Nat), ∀ (k : Nat) (q : vw_C), am_cl[k]? = some q → u_Kn s q.1 q.2.1 q.2.2 (dC k) (dI k) := by
    refine ⟨fun k => match k with | 0 => c0 | 1 => c1 | 2 => c2 | 3 => c3 | 4 => c4 | 5 => c5 | 6 => c6 | _ => c7, fun k => match k with | 0 => i0 | 1 => i1 | 2 => i2 | 3 => i3 | 4 => i4 | 5 => i5 | 6 => i6 | _ => i7, ?_⟩
    intro k q hq
    match k, hq with
    | 0, hq => cases hq; exact K0
    | 1, hq => cases hq; exact K1
    | 2, hq => cases hq; exact K2
    | 3, hq => cases hq; exact K3
    | 4, hq => cases hq; exact K4
    | 5, hq => cases hq; exact K5
    | 6, hq => cases hq; exact K6
    | 7, hq => cases hq; exact K7
    | k + 8, hq => simp [am_cl] at hq
  obtain ⟨aI, kI, pI, a1, a2, a3⟩ := Cond.arrayClass_spec (ht _ k_3)
  obtain ⟨aB, kB, pB, b1, b2, b3⟩ := Cond.arrayClass_spec (ht _ k_271)
  obtain ⟨aJ, kJ, pJ, j1, j2, j3⟩ := Cond.arrayClass_spec (ht _ k_147)
  obtain ⟨comp, aG, kG, g1, -, g3, g4, g5⟩ := Cond.arrayOver_spec (hts _ fs_ao)
  have h0 : ∀ i : Nat, ∃ q : Nat × Nat, i < 21 → (sT i).eval #[Value.ref b] s none [] s = some (.ref q.1) ∧ va_O "java/lang/String" q.1 (fun q : Nat => s.heap.size ≤ q) s s.heap ∧ va_OF "java/lang/String" "coder" "B" (.int 0) q.1 (fun q : Nat => s.heap.size ≤ q) s s.heap ∧ va_OF "java/lang/String" "value" "[B" (.ref q.2) q.1 (fun q : Nat => s.heap.size ≤ q) s s.heap ∧ va_T .byte q.2 (am_sb.getD i []).length (fun j => .int ((am_sb.getD i []).getD j 0)) (fun q : Nat => s.heap.size ≤ q) s s.heap := by
    intro i
    by_cases hi : i < 21
    · have hx := hs _ (fs_ex i hi)
      obtain ⟨a, -, -, -, q1, -⟩ := Cond.exactly_spec (args := #[Value.ref b]) (first := s) (o := none) (s := s) (idx := []) (t := sT i) (cls := "java/lang/String") hx
      obtain ⟨t, h1, hT⟩ := va_Tof (f := fun j => .int ((am_sb.getD i []).getD j 0)) (A := fun q : Nat => s.heap.size ≤ q) (by have := fs_n i hi; omega) (hs _ (fs_ar i hi)) (va_eqt (hs _ (fs_le i hi))) (fun j hj => va_eqt (hs _ (fs_el i hi j hj))) hA
      exact ⟨(a, t), fun _ => ⟨q1, va_Oof hx q1 hA, vk_OFof q1 (va_eqt (hs _ (fs_co i hi))) hA, vk_OFof q1 h1 hA, hT⟩⟩
    · exact ⟨(0, 0), fun h => absurd h hi⟩
  obtain ⟨ad, had⟩ := Classical.axiomOfChoice h0
  refine ⟨((dC, dI), fun k => match k with | 0 => aI | 1 => aB | 2 => aJ | _ => aG, s.heap.size, fun i => if i < 21 then (ad i).1 else b, fun i => (ad i).2), ⟨⟨hKc, ?_⟩, ?_, ?_, ?_, ?_, ?_, ?_, ?_, Nat.le_refl _, va_AO.of (hts _ fs_ao), ?_⟩, rfl, rfl⟩
  · intro k q hk
    match k, hk with
    | 0, hk => cases hk; exact ⟨fun n z => ⟨fun k h => (by cases h), kI, a2, pI, a3⟩, a1⟩
    | 1, hk => cases hk; exact ⟨fun n z => ⟨fun k h => (by cases h), kB, b2, pB, b3⟩, b1⟩
    | 2, hk => cases hk; exact ⟨fun n z => ⟨fun k h => (by cases h), kJ, j2, pJ, j3⟩, j1⟩
    | 3, hk => cases hk; exact ⟨fun n z => ⟨fun k h => (by cases h), kG, g3, comp, g4⟩, kG, comp, g3, g4, g1, g5⟩
    | k + 4, hk => simp [am_tys] at hk
  · intro w hw
    exact va_Nw.of (fs_nw w hw).2 (hts w (fs_nw w hw).1)
  · intro q hq
    obtain ⟨h1, h2, h3⟩ := fs_sr q hq
    have h := had _ h1
    show vk_R q.1 q.2.1 q.2.2.1 (if q.2.2.2 < 21 then (ad q.2.2.2).1 else b) s
    rw [if_pos h1]
    refine vk_R.of (A := #[Value.ref b]) (hts _ h2) ?_
    rcases h3 with h3 | h3
    · rw [← h3]; exact h.1
    · exact va_eqR (hs _ h3) h.1
  · intro i hi
    have hi : i < 21 := hi
    have h := had i hi
    show va_O "java/lang/String" (if i < 21 then (ad i).1 else b) (fun q : Nat => s.heap.size ≤ q) s s.heap ∧ va_OF "java/lang/String" "coder" "B" (.int 0) (if i < 21 then (ad i).1 else b) (fun q : Nat => s.heap.size ≤ q) s s.heap ∧ va_OF "java/lang/String" "value" "[B" (.ref (ad i).2) (if i < 21 then (ad i).1 else b) (fun q : Nat => s.heap.size ≤ q) s s.heap ∧ va_T .byte (ad i).2 (am_sb.getD i []).length (fun j => .int ((am_sb.getD i []).getD j 0)) (fun q : Nat => s.heap.size ≤ q) s s.heap
    rw [if_pos hi]
    exact h.2
  · exact va_Zof (hts _ fs_l0) (hts _ fs_i0) (va_eqt (hs _ fs_c)) hA
  · exact va_Zqof (hts _ fs_l1) (hts _ fs_i1) (hs _ fs_r1) hA
  · exact vx_Zqof (hts _ fs_l2) (hts _ fs_i2) (hs _ fs_r2) hA
  · exact vx_Zqof (hts _ fs_l3) (hts _ fs_i2) (hs _ fs_r3) hA
  · intro w hw hf
    simp only [Bool.and_eq_true] at hf
    exact va_tabs hf.2 rfl (hts w hw)
