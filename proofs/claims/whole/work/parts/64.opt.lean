-- the cheapest way to cut, by vigour
def opr (a : Nat → Nat) (p : Nat) : Nat → Nat × Nat
  | 0 => (a 0, 0)
  | v + 1 => if (opr a p v).1 < 1000000 ∧ (opr a p v).1 + p ≤ a (v + 1) then ((opr a p v).1 + p, (opr a p v).2 + 1) else (a (v + 1), 0)
theorem opr_s {a : Nat → Nat} {p v : Nat} : opr a p (v + 1) = if (opr a p v).1 < 1000000 ∧ (opr a p v).1 + p ≤ a (v + 1) then ((opr a p v).1 + p, (opr a p v).2 + 1) else (a (v + 1), 0) := rfl
theorem opr_le {a : Nat → Nat} {p : Nat} : ∀ v, (opr a p v).1 ≤ a v
  | 0 => Nat.le_refl _
  | v + 1 => by
    rw [opr_s]
    split
    · next h => exact h.2
    · exact Nat.le_refl _
theorem opr_c {a : Nat → Nat} {p : Nat} : ∀ v, (opr a p v).2 ≤ v
  | 0 => Nat.le_refl _
  | v + 1 => by
    have := opr_c (a := a) (p := p) v
    rw [opr_s]
    split
    · show _ + 1 ≤ _
      omega
    · exact Nat.zero_le _
/-- it is the cheapest, and of those the greatest cut -/
theorem opr_best {a : Nat → Nat} {p : Nat} : ∀ v, ((opr a p v).1 < 1000000 → (opr a p v).1 = a (v - (opr a p v).2) + (opr a p v).2 * p ∧ (∀ c, c ≤ v → (opr a p v).1 ≤ a (v - c) + c * p) ∧ (∀ c, c ≤ v → (opr a p v).2 < c → (opr a p v).1 < a (v - c) + c * p)) ∧ (1000000 ≤ (opr a p v).1 → ∀ c, c ≤ v → 1000000 ≤ a (v - c) + c * p)
  | 0 => by
    refine ⟨fun h => ⟨by simp [opr], fun c hc => ?_, fun c hc h2 => ?_⟩, fun h c hc => ?_⟩
    · have : c = 0 := by omega
      subst this
      simp [opr]
    · omega
    · have : c = 0 := by omega
      subst this
      simpa [opr] using h
  | v + 1 => by
    have ih := opr_best (a := a) (p := p) v
    have hc2 := opr_c (a := a) (p := p) v
    have hsub : ∀ c, 1 ≤ c → a (v + 1 - c) + c * p = a (v - (c - 1)) + (c - 1) * p + p := by
      intro c hc
      rw [show v + 1 - c = v - (c - 1) by omega]
      obtain ⟨d, rfl⟩ : ∃ d, c = d + 1 := ⟨c - 1, by omega⟩
      rw [Nat.add_sub_cancel, Nat.add_mul, Nat.one_mul, Nat.add_assoc]
    rw [opr_s]
    by_cases h : (opr a p v).1 < 1000000 ∧ (opr a p v).1 + p ≤ a (v + 1)
    · rw [if_pos h]
      obtain ⟨i1, i2, i3⟩ := ih.1 h.1
      dsimp only
      refine ⟨fun hf => ⟨?_, fun c hc => ?_, fun c hc hlt => ?_⟩, fun hf c hc => ?_⟩
      · rw [hsub _ (by omega), Nat.add_sub_cancel, ← i1]
      · by_cases e : c = 0
        · subst e
          simpa using h.2
        · rw [hsub c (by omega)]
          have := i2 (c - 1) (by omega)
          omega
      · rw [hsub c (by omega)]
        have := i3 (c - 1) (by omega) (by omega)
        omega
      · by_cases e : c = 0
        · subst e
          have := h.2
          simp only [Nat.sub_zero, Nat.zero_mul, Nat.add_zero]
          omega
        · rw [hsub c (by omega)]
          have := i2 (c - 1) (by omega)
          omega
    · rw [if_neg h]
      dsimp only
      have big : ∀ c, c ≤ v + 1 → 0 < c → a (v + 1) < a (v + 1 - c) + c * p ∨ 1000000 ≤ a (v + 1 - c) + c * p ∧ 1000000 ≤ (opr a p v).1 := by
        intro c hc h0
        rw [hsub c (by omega)]
        by_cases h1 : (opr a p v).1 < 1000000
        · have := (ih.1 h1).2.1 (c - 1) (by omega)
          refine Or.inl ?_
          have h3 : ¬ (opr a p v).1 + p ≤ a (v + 1) := fun q => h ⟨h1, q⟩
          omega
        · have := ih.2 (by omega) (c - 1) (by omega)
          exact Or.inr ⟨by omega, by omega⟩
      refine ⟨fun hf => ⟨by simp, fun c hc => ?_, fun c hc hlt => ?_⟩, fun hf c hc => ?_⟩
      · by_cases e : c = 0
        · subst e
          simp
        · rcases big c hc (by omega) with h1 | h1 <;> omega
      · rcases big c hc hlt with h1 | h1 <;> omega
      · by_cases e : c = 0
        · subst e
          simpa using hf
        · rcases big c hc (by omega) with h1 | h1 <;> omega
section
variable {u : am_St} {tv : Nat} {V : vS} {E : xE} {G : gS} {B S : Nat} {hs : Bool}
def k_a (V : vS) (G : gS) (q i : Nat) (c : Nat → Nat) (x : Nat) : Nat := if k_rp V G q i x < v_be V then c (k_rp V G q i x) else 1000000
def k_pc (V : vS) (G : gS) (i : Nat) : Nat := v_co V ((g_se G + i) % 4)
def k_row (V : vS) (G : gS) (q n : Nat) : Nat → Nat → Nat × Nat
  | 0 => fun _ => (0, 0)
  | m + 1 => opr (k_a V G q (n - (m + 1)) (fun x => (k_row V G q n m x).1)) (k_pc V G (n - (m + 1)))
/-- coins from season i on, and the cut in it -/
def k_r (V : vS) (G : gS) (q n i : Nat) : Nat → Nat × Nat := k_row V G q n (n - i)
theorem k_r_n {q n x : Nat} : k_r V G q n n x = (0, 0) := by
  unfold k_r
  rw [Nat.sub_self]
  rfl
theorem k_r_i {q n i : Nat} (h : i < n) : k_r V G q n i = opr (k_a V G q i (fun x => (k_r V G q n (i + 1) x).1)) (k_pc V G i) := by
  have e : n - i = (n - (i + 1)) + 1 := by omega
  unfold k_r
  rw [e]
  show opr (k_a V G q (n - (n - (i + 1) + 1)) (fun x => (k_row V G q n (n - (i + 1)) x).1)) (k_pc V G (n - (n - (i + 1) + 1))) = _
  rw [show n - (n - (i + 1) + 1) = i by omega]
theorem k_pc_le (hE : VE V E) {i : Nat} : k_pc V G i ≤ 9 := ve_co hE _ (Nat.mod_lt _ (by omega))
theorem k_row_le {q n : Nat} : ∀ m v, (k_row V G q n m v).1 ≤ 1000000
  | 0, v => by show (0 : Nat) ≤ _; omega
  | m + 1, v => by
    refine Nat.le_trans (opr_le v) ?_
    unfold k_a
    split
    · exact k_row_le m _
    · exact Nat.le_refl _
theorem k_r_le {q n i v : Nat} : (k_r V G q n i v).1 ≤ 1000000 := k_row_le _ _
theorem k_row_b (hE : VE V E) {q n : Nat} : ∀ m v, (k_row V G q n m v).1 < 1000000 → (k_row V G q n m v).1 ≤ 9 * (v + m * 108)
  | 0, v, _ => by show (0 : Nat) ≤ _; omega
  | m + 1, v, h => by
    have h1 := (opr_best (a := k_a V G q (n - (m + 1)) (fun x => (k_row V G q n m x).1)) (p := k_pc V G (n - (m + 1))) v).1 h
    have hc := opr_c (a := k_a V G q (n - (m + 1)) (fun x => (k_row V G q n m x).1)) (p := k_pc V G (n - (m + 1))) v
    have hr : k_row V G q n (m + 1) v = opr (k_a V G q (n - (m + 1)) (fun x => (k_row V G q n m x).1)) (k_pc V G (n - (m + 1))) v := rfl
    rw [hr] at h ⊢
    have h2 := h1.1
    have hp := k_pc_le (G := G) hE (i := n - (m + 1))
    generalize opr (k_a V G q (n - (m + 1)) (fun x => (k_row V G q n m x).1)) (k_pc V G (n - (m + 1))) v = R at h h2 hc ⊢
    have h3 : R.2 * k_pc V G (n - (m + 1)) ≤ R.2 * 9 := Nat.mul_le_mul (Nat.le_refl _) hp
    have h4 : k_a V G q (n - (m + 1)) (fun x => (k_row V G q n m x).1) (v - R.2) ≤ 9 * (v - R.2 + 108 + m * 108) := by
      have h5 : k_a V G q (n - (m + 1)) (fun x => (k_row V G q n m x).1) (v - R.2) < 1000000 := by omega
      unfold k_a at h5 ⊢
      split at h5
      · next hb =>
        rw [if_pos hb]
        have ih := k_row_b hE (q := q) (n := n) m _ h5
        have := k_rp_le (G := G) hE (q := q) (i := n - (m + 1)) (x := v - R.2)
        dsimp only
        omega
      · omega
    omega
theorem k_r_b (hE : VE V E) {q n i v : Nat} (hn : n ≤ 12) (h : (k_r V G q n i v).1 < 1000000) : (k_r V G q n i v).1 ≤ 9 * (v + 1296) := by
  have := k_row_b hE (q := q) (n := n) (n - i) v h
  unfold k_r
  omega
/-- above 39 all is cut -/
theorem k_r_top (hE : VE V E) {q n i : Nat} (hn : n ≤ 12) (hi : i < n) : ∀ d, d < 90000 → ((k_r V G q n i 39).1 < 1000000 → k_r V G q n i (39 + d) = ((k_r V G q n i 39).1 + d * k_pc V G i, (k_r V G q n i 39).2 + d)) ∧ (1000000 ≤ (k_r V G q n i 39).1 → k_r V G q n i (39 + d) = (1000000, 0))
  | 0, _ => by
    refine ⟨fun h => by simp, fun h => ?_⟩
    have h0 := k_r_le (V := V) (G := G) (q := q) (n := n) (i := i) (v := 39)
    have h9 : k_r V G q n i 39 = opr (k_a V G q i (fun x => (k_r V G q n (i + 1) x).1)) (k_pc V G i) 39 := by rw [k_r_i hi]
    rw [Nat.add_zero]
    have h8 := opr_s (a := k_a V G q i (fun x => (k_r V G q n (i + 1) x).1)) (p := k_pc V G i) (v := 38)
    rw [h9] at h h0 ⊢
    have hbe := ve_be hE
    have ha : k_a V G q i (fun x => (k_r V G q n (i + 1) x).1) 39 = 1000000 := by
      unfold k_a
      rw [if_neg]
      rw [k_rp_eq]
      have : k_ls V q (g_se G + i) ≤ 9 := by
        have := ve_wi hE
        unfold k_ls
        split <;> omega
      omega
    split at h8
    · next hc =>
      exfalso
      have := k_r_b hE (q := q) (n := n) (i := i) (v := 38) hn (by rw [k_r_i hi]; exact hc.1)
      rw [k_r_i hi] at this
      rw [h8] at h
      dsimp only at h
      have hp := k_pc_le (G := G) hE (i := i)
      omega
    · rw [h8, ha]
  | d + 1, hd => by
    have ih := k_r_top hE (q := q) hn hi d (by omega)
    have hbe := ve_be hE
    have hp := k_pc_le (G := G) hE (i := i)
    have ha : k_a V G q i (fun x => (k_r V G q n (i + 1) x).1) (39 + d + 1) = 1000000 := by
      unfold k_a
      rw [if_neg]
      rw [k_rp_eq]
      have : k_ls V q (g_se G + i) ≤ 9 := by
        have := ve_wi hE
        unfold k_ls
        split <;> omega
      omega
    have hs : k_r V G q n i (39 + (d + 1)) = if (k_r V G q n i (39 + d)).1 < 1000000 ∧ (k_r V G q n i (39 + d)).1 + k_pc V G i ≤ 1000000 then ((k_r V G q n i (39 + d)).1 + k_pc V G i, (k_r V G q n i (39 + d)).2 + 1) else (1000000, 0) := by
      rw [k_r_i hi, ← Nat.add_assoc, opr_s, ha]
    rw [hs]
    refine ⟨fun h => ?_, fun h => ?_⟩
    · have h1 := ih.1 h
      have h2 := k_r_b hE (q := q) (n := n) (i := i) (v := 39) hn h
      have h3 : d * k_pc V G i ≤ d * 9 := Nat.mul_le_mul (Nat.le_refl _) hp
      rw [h1]
      dsimp only
      rw [if_pos ⟨by omega, by omega⟩, Nat.add_mul, Nat.one_mul, Nat.add_assoc, Nat.add_assoc]
    · rw [ih.2 h]
      dsimp only
      rw [if_neg (by omega)]
theorem k_r_min (hE : VE V E) {q n i v : Nat} (hn : n ≤ 12) (hi : i < n) (hv : v < 90000) : ((k_r V G q n i v).1 < 1000000 ↔ (k_r V G q n i (min v 39)).1 < 1000000) ∧ ((k_r V G q n i v).1 < 1000000 → (k_r V G q n i v).1 = (k_r V G q n i (min v 39)).1 + (v - 39) * k_pc V G i ∧ (k_r V G q n i v).2 = (k_r V G q n i (min v 39)).2 + (v - 39)) := by
  by_cases h : v ≤ 39
  · rw [Nat.min_eq_left h, show v - 39 = 0 by omega]
    simp
  · rw [Nat.min_eq_right (by omega)]
    have ht := k_r_top (G := G) hE (q := q) (n := n) (i := i) hn hi (v - 39) (by omega)
    rw [show 39 + (v - 39) = v by omega] at ht
    by_cases c : (k_r V G q n i 39).1 < 1000000
    · have h1 := ht.1 c
      have hb := k_r_b hE (q := q) (n := n) (i := i) (v := 39) hn c
      have hp := k_pc_le (G := G) hE (i := i)
      have h3 : (v - 39) * k_pc V G i ≤ (v - 39) * 9 := Nat.mul_le_mul (Nat.le_refl _) hp
      rw [h1]
      dsimp only
      exact ⟨⟨fun _ => c, fun _ => by omega⟩, fun _ => ⟨rfl, rfl⟩⟩
    · have h1 := ht.2 (by omega)
      rw [h1]
      dsimp only
      exact ⟨⟨fun q => by omega, fun q => absurd q c⟩, fun q => by omega⟩
/-- vigour on the best road -/
def k_v (V : vS) (G : gS) (q n : Nat) : Nat → Nat
  | 0 => g_vi G q
  | i + 1 => k_rp V G q i (k_v V G q n i - (k_r V G q n i (k_v V G q n i)).2)
/-- the road stays within what can be kept -/
theorem k_v_ok {q n : Nat} (h : (k_r V G q n 0 (g_vi G q)).1 < 1000000) : ∀ i, i ≤ n → (k_r V G q n i (k_v V G q n i)).1 < 1000000 ∧ (0 < i → k_v V G q n i < v_be V)
  | 0, _ => ⟨h, fun q => absurd q (by omega)⟩
  | i + 1, hi => by
    have ih := (k_v_ok h i (by omega)).1
    have hr := k_r_i (V := V) (G := G) (q := q) (n := n) (i := i) (by omega)
    have hb := opr_best (a := k_a V G q i (fun x => (k_r V G q n (i + 1) x).1)) (p := k_pc V G i) (k_v V G q n i)
    rw [← hr] at hb
    have h1 := (hb.1 ih).1
    have h2 : k_a V G q i (fun x => (k_r V G q n (i + 1) x).1) (k_v V G q n i - (k_r V G q n i (k_v V G q n i)).2) < 1000000 := by omega
    unfold k_a at h2
    split at h2
    · next hc => exact ⟨h2, fun _ => hc⟩
    · omega
/-- coins paid ahead of season i on the best road -/
def k_sm (V : vS) (G : gS) (q n : Nat) : Nat → Nat
  | 0 => 0
  | i + 1 => k_sm V G q n i + (k_r V G q n i (k_v V G q n i)).2 * k_pc V G i
theorem k_sm_eq {q n : Nat} (h : (k_r V G q n 0 (g_vi G q)).1 < 1000000) : ∀ i, i ≤ n → k_sm V G q n i + (k_r V G q n i (k_v V G q n i)).1 = (k_r V G q n 0 (g_vi G q)).1
  | 0, _ => by
    show 0 + _ = _
    rw [Nat.zero_add]
    rfl
  | i + 1, hi => by
    have ih := k_sm_eq h i (by omega)
    have h0 := (k_v_ok h i (by omega)).1
    have h5 := (k_v_ok h (i + 1) hi).2 (by omega)
    have hr := k_r_i (V := V) (G := G) (q := q) (n := n) (i := i) (by omega)
    have hb := opr_best (a := k_a V G q i (fun x => (k_r V G q n (i + 1) x).1)) (p := k_pc V G i) (k_v V G q n i)
    rw [← hr] at hb
    have h1 := (hb.1 h0).1
    have h2 : k_a V G q i (fun x => (k_r V G q n (i + 1) x).1) (k_v V G q n i - (k_r V G q n i (k_v V G q n i)).2) = (k_r V G q n (i + 1) (k_v V G q n (i + 1))).1 := by
      have h5' : k_rp V G q i (k_v V G q n i - (k_r V G q n i (k_v V G q n i)).2) < v_be V := h5
      unfold k_a
      rw [if_pos h5']
      rfl
    rw [h2] at h1
    show k_sm V G q n i + (k_r V G q n i (k_v V G q n i)).2 * k_pc V G i + _ = _
    omega
theorem k_sm_n {q n : Nat} (h : (k_r V G q n 0 (g_vi G q)).1 < 1000000) : k_sm V G q n n = (k_r V G q n 0 (g_vi G q)).1 := by
  have := k_sm_eq h n (Nat.le_refl _)
  rw [k_r_n] at this
  exact this
end
