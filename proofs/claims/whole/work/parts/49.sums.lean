-- sums
theorem sumf_c {f g : Nat → Nat} : ∀ n, (∀ j, j < n → f j = g j) → sumf f n = sumf g n
  | 0, _ => rfl
  | n + 1, h => by
    unfold sumf
    rw [sumf_c n (fun j hj => h j (by omega)), h n (by omega)]
theorem sumf_add {f g : Nat → Nat} : ∀ n, sumf (fun j => f j + g j) n = sumf f n + sumf g n
  | 0 => rfl
  | n + 1 => by
    unfold sumf
    rw [sumf_add n]
    omega
theorem sumf_z : ∀ n, sumf (fun _ => 0) n = 0
  | 0 => rfl
  | n + 1 => by
    unfold sumf
    rw [sumf_z n]
theorem sumf_one {d x : Nat} : ∀ n, sumf (fun k => if k = d then x else 0) n = if d < n then x else 0
  | 0 => rfl
  | n + 1 => by
    unfold sumf
    rw [sumf_one n]
    by_cases h : n = d
    · subst h
      simp
    · by_cases h2 : d < n
      · rw [if_pos h2, if_neg h, if_pos (by omega), Nat.add_zero]
      · rw [if_neg h2, if_neg h, if_neg (by omega)]
theorem sumf_mem {f : Nat → Nat} {j : Nat} : ∀ n, j < n → f j ≤ sumf f n
  | 0, h => by omega
  | n + 1, h => by
    unfold sumf
    by_cases e : j = n
    · subst e
      omega
    · have := sumf_mem (f := f) (j := j) n (by omega)
      omega
theorem sumf_up {f : Nat → Nat} {i x : Nat} : ∀ n, i < n → sumf (va_up f i x) n + f i = sumf f n + x
  | 0, h => by omega
  | n + 1, h => by
    unfold sumf
    by_cases e : i = n
    · subst e
      rw [sumf_c (f := va_up f i x) (g := f) i (fun j hj => up_ne (by omega)), up_eq]
      omega
    · have := sumf_up (f := f) (i := i) (x := x) n (by omega)
      rw [up_ne (show n ≠ i from fun q => e q.symm)]
      omega
theorem sumf_le2 {f g : Nat → Nat} : ∀ n, (∀ j, j < n → f j ≤ g j) → sumf f n ≤ sumf g n
  | 0, _ => Nat.le_refl _
  | n + 1, h => by
    unfold sumf
    have h1 := sumf_le2 n (fun j hj => h j (by omega))
    have h2 := h n (by omega)
    omega
theorem sumf_mono {f : Nat → Nat} {a b : Nat} (h : a ≤ b) : sumf f a ≤ sumf f b := by
  induction b with
  | zero =>
    have : a = 0 := by omega
    subst this
    exact Nat.le_refl _
  | succ b ih =>
    by_cases e : a = b + 1
    · subst e
      exact Nat.le_refl _
    · have := ih (by omega)
      show sumf f a ≤ sumf f b + f b
      omega
theorem sumf_tail {f : Nat → Nat} {a : Nat} : ∀ b, a ≤ b → (∀ j, a ≤ j → j < b → f j = 0) → sumf f b = sumf f a
  | 0, h, _ => by
    have : a = 0 := by omega
    subst this
    rfl
  | b + 1, h, hz => by
    by_cases e : a = b + 1
    · subst e
      rfl
    · show sumf f b + f b = sumf f a
      rw [sumf_tail b (by omega) (fun j h1 h2 => hz j h1 (by omega)), hz b (by omega) (by omega), Nat.add_zero]
/-- deeds by quarrels, and by their list -/
theorem ded_eq {V : vS} {E : xE} {G : gS} (hE : VE V E) {q s : Nat} : sumf (fun k => if g_ro G k = q then v_fd V k s else 0) (v_Q V) = s_ded V E G q s := by
  unfold s_ded
  by_cases hs : s < 24
  · have key : ∀ n, n ≤ v_de V → sumf (fun k => if g_ro G k = q then sumf (fun i => if x_dq E i = k ∧ x_ds E i = s then x_df E i else 0) n else 0) (v_Q V) = sumf (fun k => if x_ds E k = s ∧ g_ro G (x_dq E k) = q then x_df E k else 0) n := by
      intro n
      induction n with
      | zero =>
        intro _
        have : ∀ k, (if g_ro G k = q then sumf (fun i => if x_dq E i = k ∧ x_ds E i = s then x_df E i else 0) 0 else 0) = 0 := by intro k; simp [sumf]
        rw [sumf_c (g := fun _ => 0) _ (fun j _ => this j), sumf_z]
        rfl
      | succ n ih =>
        intro hn
        have hd := ve_dq hE n (by omega)
        have e1 : sumf (fun k => if g_ro G k = q then sumf (fun i => if x_dq E i = k ∧ x_ds E i = s then x_df E i else 0) (n + 1) else 0) (v_Q V) = sumf (fun k => (if g_ro G k = q then sumf (fun i => if x_dq E i = k ∧ x_ds E i = s then x_df E i else 0) n else 0) + (if k = x_dq E n then (if x_ds E n = s ∧ g_ro G (x_dq E n) = q then x_df E n else 0) else 0)) (v_Q V) := by
          refine sumf_c _ fun j _ => ?_
          simp only [sumf]
          by_cases a1 : g_ro G j = q
          · by_cases a2 : j = x_dq E n
            · subst a2
              by_cases a3 : x_ds E n = s <;> simp [a1, a3]
            · have : ¬ x_dq E n = j := fun q => a2 q.symm
              simp [a1, a2, this]
          · by_cases a2 : j = x_dq E n
            · subst a2
              simp [a1]
            · simp [a1, a2]
        rw [e1, sumf_add, ih (by omega), sumf_one, if_pos hd]
        rfl
    rw [← key (v_de V) (Nat.le_refl _)]
    refine sumf_c _ fun j hj => ?_
    by_cases a1 : g_ro G j = q
    · simp only [a1, if_true, v_fd, hs]
      exact ve_fd hE j s hj hs
    · simp [a1]
  · have h1 : sumf (fun k => if g_ro G k = q then v_fd V k s else 0) (v_Q V) = sumf (fun _ => 0) (v_Q V) := sumf_c _ fun j _ => by simp [v_fd, hs]
    have h2 : sumf (fun k => if x_ds E k = s ∧ g_ro G (x_dq E k) = q then x_df E k else 0) (v_de V) = sumf (fun _ => 0) (v_de V) := sumf_c _ fun j hj => by
      have := ve_ds hE j hj
      rw [if_neg]
      intro q
      omega
    rw [h1, h2, sumf_z, sumf_z]
/-- what always holds of a garden -/
def GI (V : vS) (G : gS) (B S : Nat) : Prop := (∀ j, j < 6 → g_ro G j < 6) ∧ (∀ j, j < v_Q V → g_ro G j < v_Q V) ∧ (∀ j, j < 6 → g_ro G (g_ro G j) = g_ro G j) ∧ (∀ j, v_Q V ≤ j → j < 6 → g_ro G j = j) ∧ (∀ j, j < 6 → g_ro G j ≠ j → g_vi G j = 0) ∧ (∀ j, v_Q V ≤ j → j < 6 → g_vi G j = 0 ∧ g_fr G j = 0 ∧ g_su G j = 0) ∧ sumf (g_vi G) 6 ≤ B ∧ g_se G ≤ S ∧ (∀ j, j < 6 → g_fr G j ≤ S ∧ g_su G j ≤ S)
theorem gi_r6 {V : vS} {G : gS} {B S : Nat} (h : GI V G B S) : ∀ j, j < 6 → g_ro G j < 6 := h.1
theorem gi_rQ {V : vS} {G : gS} {B S : Nat} (h : GI V G B S) : ∀ j, j < v_Q V → g_ro G j < v_Q V := h.2.1
theorem gi_rr {V : vS} {G : gS} {B S : Nat} (h : GI V G B S) : ∀ j, j < 6 → g_ro G (g_ro G j) = g_ro G j := h.2.2.1
theorem gi_rs {V : vS} {G : gS} {B S : Nat} (h : GI V G B S) : ∀ j, v_Q V ≤ j → j < 6 → g_ro G j = j := h.2.2.2.1
theorem gi_v0 {V : vS} {G : gS} {B S : Nat} (h : GI V G B S) : ∀ j, j < 6 → g_ro G j ≠ j → g_vi G j = 0 := h.2.2.2.2.1
theorem gi_z {V : vS} {G : gS} {B S : Nat} (h : GI V G B S) : ∀ j, v_Q V ≤ j → j < 6 → g_vi G j = 0 ∧ g_fr G j = 0 ∧ g_su G j = 0 := h.2.2.2.2.2.1
theorem gi_B {V : vS} {G : gS} {B S : Nat} (h : GI V G B S) : sumf (g_vi G) 6 ≤ B := h.2.2.2.2.2.2.1
theorem gi_S {V : vS} {G : gS} {B S : Nat} (h : GI V G B S) : g_se G ≤ S := h.2.2.2.2.2.2.2.1
theorem gi_f {V : vS} {G : gS} {B S : Nat} (h : GI V G B S) : ∀ j, j < 6 → g_fr G j ≤ S ∧ g_su G j ≤ S := h.2.2.2.2.2.2.2.2
theorem gi_vi {V : vS} {G : gS} {B S : Nat} (h : GI V G B S) : ∀ j, j < 6 → g_vi G j ≤ B := fun j hj => Nat.le_trans (sumf_mem 6 hj) (gi_B h)
theorem gi_mono {V : vS} {G : gS} {B S B2 S2 : Nat} (h : GI V G B S) (hB : B ≤ B2) (hS : S ≤ S2) : GI V G B2 S2 := ⟨h.1, h.2.1, h.2.2.1, h.2.2.2.1, h.2.2.2.2.1, h.2.2.2.2.2.1, Nat.le_trans (gi_B h) hB, Nat.le_trans (gi_S h) hS, fun j hj => ⟨Nat.le_trans (gi_f h j hj).1 hS, Nat.le_trans (gi_f h j hj).2 hS⟩⟩
/-- a garden behind a feeding by deeds is the same on both sides -/
theorem fd_eq {V : vS} {E : xE} {G : gS} {B S : Nat} (hE : VE V E) (hG : GI V G B S) : gd_eq (s_fd V G (fun q => s_ded V E G q (g_se G))) (s_feed V G) := by
  refine ⟨rfl, rfl, fun j hj => ?_, fun j _ => rfl, fun j _ => rfl, fun j _ => rfl⟩
  show (if j < v_Q V ∧ g_ro G j = j then g_vi G j + s_ded V E G j (g_se G) else g_vi G j) = s_fv V G (v_Q V) j
  rw [s_fv_eq, ded_eq hE]
  by_cases h : j < v_Q V ∧ g_ro G j = j
  · rw [if_pos h]
  · rw [if_neg h]
    have : s_ded V E G j (g_se G) = 0 := by
      unfold s_ded
      rw [sumf_c (g := fun _ => 0) _ (fun k hk => ?_), sumf_z]
      rw [if_neg]
      rintro ⟨-, h2⟩
      have h3 := ve_dq hE k hk
      have h4 := gi_rQ hG _ h3
      have h5 := gi_rr hG (x_dq E k) (by have := ve_Q hE; omega)
      rw [h2] at h4 h5
      exact h ⟨h4, h5⟩
    omega
theorem orf_c {P P2 : Nat → Bool} {f f2 : Nat → Int32} : ∀ n, (∀ j, j < n → P j = P2 j) → (∀ j, j < n → f j = f2 j) → orf P f n = orf P2 f2 n
  | 0, _, _ => rfl
  | n + 1, h, h2 => by
    unfold orf
    rw [orf_c n (fun j hj => h j (by omega)) (fun j hj => h2 j (by omega)), h n (by omega), h2 n (by omega)]
theorem fell_c {V : vS} {G G2 : gS} (hQ : v_Q V ≤ 6) (h : gd_eq G G2) : s_fell V G = s_fell V G2 := by
  obtain ⟨h1, h2, h3, h4, h5, h6⟩ := h
  refine orf_c _ (fun j hj => ?_) (fun j _ => rfl)
  unfold s_bear
  rw [h1, h3 j (by omega), h4 j (by omega)]
theorem ripen_c {V : vS} {G G2 : gS} (hQ : v_Q V ≤ 6) (h : gd_eq G G2) : gd_eq (s_ripen V G) (s_ripen V G2) := by
  have a := s_ripen_eq (V := V) (G := G)
  have b := s_ripen_eq (V := V) (G := G2)
  obtain ⟨h1, h2, h3, h4, h5, h6⟩ := h
  have ev : ∀ j, j < 6 → s_rv V G j = s_rv V G2 j := fun j hj => by unfold s_rv; rw [h1, h3 j hj, h4 j hj]
  have ef : ∀ j, j < 6 → s_rf V G j = s_rf V G2 j := fun j hj => by unfold s_rf s_bear; rw [h1, h3 j hj, h4 j hj, h5 j hj]
  have es : ∀ j, j < v_Q V → s_rs V G j = s_rs V G2 j := fun j hj => by
    have x1 : g_ro (s_rip V G) j = g_ro (s_rip V G2) j := h4 j (by omega)
    have x2 : g_vi (s_rip V G) j = g_vi (s_rip V G2) j := by
      show (if j < v_Q V then s_rv V G j else g_vi G j) = (if j < v_Q V then s_rv V G2 j else g_vi G2 j)
      rw [if_pos hj, if_pos hj, ev j (by omega)]
    have x3 : g_su (s_rip V G) j = g_su (s_rip V G2) j := h6 j (by omega)
    unfold s_rs s_sk
    rw [x1, x2, x3, h1, h6 j (by omega)]
  obtain ⟨a1, a2, a3, a4, a5, a6⟩ := a
  obtain ⟨b1, b2, b3, b4, b5, b6⟩ := b
  refine ⟨?_, ?_, fun j hj => ?_, fun j hj => ?_, fun j hj => ?_, fun j hj => ?_⟩
  · rw [← a1, ← b1]; show g_se G + 1 = g_se G2 + 1; rw [h1]
  · rw [← a2, ← b2]; exact h2
  · rw [← a3 j hj, ← b3 j hj]
    show (if j < v_Q V then s_rv V G j else g_vi G j) = (if j < v_Q V then s_rv V G2 j else g_vi G2 j)
    rw [ev j hj, h3 j hj]
  · rw [← a4 j hj, ← b4 j hj]; exact h4 j hj
  · rw [← a5 j hj, ← b5 j hj]
    show (if j < v_Q V then s_rf V G j else g_fr G j) = (if j < v_Q V then s_rf V G2 j else g_fr G2 j)
    rw [ef j hj, h5 j hj]
  · rw [← a6 j hj, ← b6 j hj]
    show (if j < v_Q V then s_rs V G j else g_su G j) = (if j < v_Q V then s_rs V G2 j else g_su G2 j)
    by_cases q : j < v_Q V
    · rw [if_pos q, if_pos q, es j q]
    · rw [if_neg q, if_neg q, h6 j hj]
