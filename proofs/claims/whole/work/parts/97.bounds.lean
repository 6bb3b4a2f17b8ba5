-- HOW MUCH VIGOUR THERE CAN BE
/-- what the deeds of the seasons before s feed -/
def dso (V : vS) (s : Nat) : Nat := sumf (fun r => sumf (fun k => v_fd V k r) (v_Q V)) s
theorem ds_a {d e s x : Nat} : ∀ Q, sumf (fun q => if d = q ∧ e = s then x else 0) Q ≤ if s = e then x else 0 := by
  intro Q
  by_cases h : s = e
  · rw [if_pos h]
    have h1 : sumf (fun q => if d = q ∧ e = s then x else 0) Q = sumf (fun q => if q = d then x else 0) Q := sumf_c _ (fun q _ => by
      by_cases c : q = d
      · rw [if_pos ⟨c.symm, h.symm⟩, if_pos c]
      · rw [if_neg (fun z => c z.1.symm), if_neg c])
    rw [h1, sumf_one]
    split <;> omega
  · rw [if_neg h]
    have h1 : sumf (fun q => if d = q ∧ e = s then x else 0) Q = sumf (fun _ => 0) Q := sumf_c _ (fun q _ => if_neg (fun z => h z.2.symm))
    rw [h1, sumf_z]
    exact Nat.le_refl _
theorem ds_b {d e x : Nat} (Q S : Nat) : sumf (fun s => sumf (fun q => if d = q ∧ e = s then x else 0) Q) S ≤ x := by
  have h1 := sumf_le2 (f := fun s => sumf (fun q => if d = q ∧ e = s then x else 0) Q) (g := fun s => if s = e then x else 0) S (fun s _ => ds_a Q)
  rw [sumf_one] at h1
  split at h1 <;> omega
theorem ds_c {dq ds df : Nat → Nat} (Q S : Nat) : ∀ n, sumf (fun s => sumf (fun q => sumf (fun k => if dq k = q ∧ ds k = s then df k else 0) n) Q) S ≤ sumf df n
  | 0 => by
    show sumf (fun s => sumf (fun q => 0) Q) S ≤ 0
    rw [sumf_c (g := fun _ => 0) S (fun s _ => sumf_z Q), sumf_z]
    exact Nat.le_refl _
  | n + 1 => by
    have ih := ds_c (dq := dq) (ds := ds) (df := df) Q S n
    have hb := ds_b (d := dq n) (e := ds n) (x := df n) Q S
    have h1 : sumf (fun s => sumf (fun q => sumf (fun k => if dq k = q ∧ ds k = s then df k else 0) (n + 1)) Q) S = sumf (fun s => sumf (fun q => sumf (fun k => if dq k = q ∧ ds k = s then df k else 0) n) Q) S + sumf (fun s => sumf (fun q => if dq n = q ∧ ds n = s then df n else 0) Q) S := by
      rw [← sumf_add]
      apply sumf_c
      intro s _
      show sumf (fun q => sumf (fun k => if dq k = q ∧ ds k = s then df k else 0) (n + 1)) Q = _
      rw [← sumf_add]
      rfl
    rw [h1]
    show _ ≤ sumf df n + df n
    omega
section
variable {V : vS} {E : xE} {G : gS} {B S k : Nat}
theorem dso_le (hE : VE V E) (s : Nat) : dso V s ≤ 108 := by
  have h1 : dso V s ≤ sumf (fun r => sumf (fun q => sumf (fun k => if x_dq E k = q ∧ x_ds E k = r then x_df E k else 0) (v_de V)) (v_Q V)) s := sumf_le2 s (fun r _ => sumf_le2 _ (fun q hq => by
    show v_fd V q r ≤ _
    unfold v_fd
    split
    · rename_i h
      rw [ve_fd hE q r hq h]
      exact Nat.le_refl _
    · exact Nat.zero_le _))
  have h2 := ds_c (dq := x_dq E) (ds := x_ds E) (df := x_df E) (v_Q V) s (v_de V)
  have h3 := sumf_le (f := x_df E) (B := 9) (v_de V) (ve_df hE)
  have h4 := ve_de hE
  omega
theorem s_fv_sum2 (hro : ∀ j, j < 6 → g_ro G j < 6) : ∀ n, n ≤ 6 → sumf (s_fv V G n) 6 ≤ sumf (g_vi G) 6 + sumf (fun k => v_fd V k (g_se G)) n
  | 0, _ => Nat.le_refl _
  | n + 1, hn => by
    have ih := s_fv_sum2 hro n (by omega)
    have h := sumf_up (f := s_fv V G n) (i := g_ro G n) (x := s_fv V G n (g_ro G n) + v_fd V n (g_se G)) 6 (hro n (by omega))
    show sumf (va_up (s_fv V G n) (g_ro G n) (s_fv V G n (g_ro G n) + v_fd V n (g_se G))) 6 ≤ sumf (g_vi G) 6 + (sumf (fun k => v_fd V k (g_se G)) n + v_fd V n (g_se G))
    omega
theorem gi_feed2 (hE : VE V E) (hG : GI V G B S) : GI V (s_feed V G) (B + sumf (fun k => v_fd V k (g_se G)) (v_Q V)) S := by
  have h := gi_feed hE hG
  have h1 := s_fv_sum2 (V := V) (gi_r6 hG) (v_Q V) (ve_Q hE)
  have h2 := gi_B hG
  refine ⟨h.1, h.2.1, h.2.2.1, h.2.2.2.1, h.2.2.2.2.1, h.2.2.2.2.2.1, ?_, h.2.2.2.2.2.2.2⟩
  show sumf (s_fv V G (v_Q V)) 6 ≤ _
  omega
theorem gi_B2 {B2 : Nat} (hG : GI V G B S) (h : sumf (g_vi G) 6 ≤ B2) : GI V G B2 S := ⟨hG.1, hG.2.1, hG.2.2.1, hG.2.2.2.1, hG.2.2.2.2.1, hG.2.2.2.2.2.1, h, hG.2.2.2.2.2.2.2⟩
theorem se_pass : g_se (s_pass V G) = g_se G + 1 := by
  unfold s_pass s_ripen
  split <;> rfl
/-- the garden behind k calls -/
def GJ (V : vS) (G : gS) (k : Nat) : Prop := GI V G (180 + dso V (g_se G) + 9 * k) (g_se G) ∧ g_se G ≤ 200
theorem gj_m {k2 : Nat} (h : GJ V G k) (hk : k ≤ k2) : GJ V G k2 := ⟨gi_mono h.1 (by omega) (Nat.le_refl _), h.2⟩
theorem gj_g (hE : VE V E) (h : GJ V G k) : GI V G (288 + 9 * k) 200 := gi_mono h.1 (by have := dso_le hE (g_se G); omega) h.2
theorem gj_plant (hE : VE V E) : GJ V (s_plant V) 0 := ⟨gi_mono (gi_plant hE) (by omega) (Nat.le_refl _), Nat.zero_le _⟩
theorem gj_pass (hE : VE V E) (h : GJ V G k) (hs : g_se G < 200) : GJ V (s_pass V G) k := by
  have h1 := gi_ripen (ve_Q hE) (gi_feed2 hE h.1)
  refine ⟨?_, by rw [se_pass]; omega⟩
  rw [se_pass]
  refine gi_mono h1 ?_ (Nat.le_refl _)
  show _ ≤ 180 + (sumf (fun r => sumf (fun k => v_fd V k r) (v_Q V)) (g_se G) + sumf (fun k => v_fd V k (g_se G)) (v_Q V)) + 9 * k
  unfold dso
  omega
theorem gj_join {a b : Nat} (hQ : v_Q V ≤ 6) (h : GJ V G k) (ha : a < v_Q V) (hb0 : b < v_Q V) (hab : a ≠ b) (hra : g_ro G a = a) (hrb : g_ro G b = b) : GJ V (s_join G a b) k := ⟨gi_join hQ h.1 ha hb0 hab hra hrb, h.2⟩
theorem gi_vi2 {q x : Nat} (hQ : v_Q V ≤ 6) (hG : GI V G B S) (hq : q < v_Q V) (hr : g_ro G q = q) {B2 : Nat} (hB : sumf (va_up (g_vi G) q x) 6 ≤ B2) : GI V (s_vi G q x) B2 S := by
  refine ⟨hG.1, hG.2.1, hG.2.2.1, hG.2.2.2.1, fun j hj h => ?_, fun j h1 h2 => ⟨?_, (gi_z hG j h1 h2).2⟩, hB, hG.2.2.2.2.2.2.2⟩
  · show va_up (g_vi G) q x j = 0
    rw [va_n (fun z => h (by rw [z]; exact hr))]
    exact gi_v0 hG j hj h
  · show va_up (g_vi G) q x j = 0
    rw [va_n (by omega)]
    exact (gi_z hG j h1 h2).1
theorem gj_vi {q m : Nat} (hQ : v_Q V ≤ 6) (h : GJ V G k) (hq : q < v_Q V) (hr : g_ro G q = q) (hm : m ≤ 9) : GJ V (s_vi G q (g_vi G q + m)) (k + 1) := by
  refine ⟨gi_vi2 hQ h.1 hq hr ?_, h.2⟩
  have h1 := sumf_up (f := g_vi G) (i := q) (x := g_vi G q + m) 6 (by omega)
  have h2 := gi_B h.1
  show _ ≤ 180 + dso V (g_se G) + 9 * (k + 1)
  omega
theorem gj_cut {q m : Nat} (hQ : v_Q V ≤ 6) (h : GJ V G k) (hq : q < v_Q V) (hr : g_ro G q = q) : GJ V (s_cut V G q m) k := by
  have h0 : GI V (s_vi G q (g_vi G q - m)) (180 + dso V (g_se G) + 9 * k) (g_se G) := by
    refine gi_vi2 hQ h.1 hq hr ?_
    have h1 := sumf_up (f := g_vi G) (i := q) (x := g_vi G q - m) 6 (by omega)
    have h2 := gi_B h.1
    omega
  exact ⟨h0, h.2⟩
end
