-- PURE: what a text tells
def VP (V : vS) (E : xE) : Prop := (v_Q V ≤ 6) ∧ (v_F V ≤ 6) ∧ (v_la V ≤ 10) ∧ (v_de V ≤ 12) ∧ (v_fe V ≤ 6) ∧ (v_wi V ≤ 9) ∧ (v_be V ≤ 30) ∧ (4 ≤ v_be V) ∧ (∀ j, j < 4 → v_co V j ≤ 9) ∧ (∀ j, j < v_F V → v_pe V j ≤ 99) ∧ (∀ j, j < v_F V → 1 ≤ v_pe V j) ∧ (∀ j, j < v_Q V → v_ki V j < 4) ∧ (∀ j, j < v_Q V → x_fa E j < v_F V) ∧ (∀ j, j < v_Q V → x_fb E j < v_F V) ∧ (∀ j, j < v_Q V → x_fa E j ≠ x_fb E j) ∧ (∀ j, j < v_Q V → v_vi V j ≤ 30) ∧ (∀ j, j < 16 → v_od V j ≤ 100) ∧ (∀ j, j < 144 → v_fo V j ≤ 108) ∧ (∀ k, k < v_de V → x_dq E k < v_Q V) ∧ (∀ k, k < v_de V → x_ds E k < 24) ∧ (∀ k, k < v_de V → x_df E k ≤ 9) ∧ (∀ k, k < v_fe V → v_fq V k < v_Q V) ∧ (∀ k, k < v_fe V → v_fs V k < 24) ∧ (∀ q, q < v_Q V → v_pt V q = decide (x_po E q = 1)) ∧ (∀ q, q < v_Q V → x_po E q ≤ 1) ∧ (∀ q, q < v_Q V → v_pr V q = 1 <<< (nI (x_fa E q) &&& 31) ||| 1 <<< (nI (x_fb E q) &&& 31)) ∧ (∀ q s, q < v_Q V → s < 24 → v_fo V (q * 24 + s) = sumf (fun k => if x_dq E k = q ∧ x_ds E k = s then x_df E k else 0) (v_de V)) ∧ (x_np E = cntf (v_pt V) (v_Q V)) ∧ (v_po V = orf (v_pt V) (fun j => 1 <<< (nI j &&& 31)) (v_Q V)) ∧ (∀ j, 24 * v_Q V ≤ j → j < 144 → v_fo V j = 0)
section
variable {V : vS} {E : xE}
theorem vp_Q (h : VP V E) : v_Q V ≤ 6 := h.1
theorem vp_F (h : VP V E) : v_F V ≤ 6 := h.2.1
theorem vp_la (h : VP V E) : v_la V ≤ 10 := h.2.2.1
theorem vp_de (h : VP V E) : v_de V ≤ 12 := h.2.2.2.1
theorem vp_fe (h : VP V E) : v_fe V ≤ 6 := h.2.2.2.2.1
theorem vp_wi (h : VP V E) : v_wi V ≤ 9 := h.2.2.2.2.2.1
theorem vp_be (h : VP V E) : v_be V ≤ 30 := h.2.2.2.2.2.2.1
theorem vp_be4 (h : VP V E) : 4 ≤ v_be V := h.2.2.2.2.2.2.2.1
theorem vp_co (h : VP V E) : ∀ j, j < 4 → v_co V j ≤ 9 := h.2.2.2.2.2.2.2.2.1
theorem vp_pe (h : VP V E) : ∀ j, j < v_F V → v_pe V j ≤ 99 := h.2.2.2.2.2.2.2.2.2.1
theorem vp_pe1 (h : VP V E) : ∀ j, j < v_F V → 1 ≤ v_pe V j := h.2.2.2.2.2.2.2.2.2.2.1
theorem vp_ki (h : VP V E) : ∀ j, j < v_Q V → v_ki V j < 4 := h.2.2.2.2.2.2.2.2.2.2.2.1
theorem vp_fa (h : VP V E) : ∀ j, j < v_Q V → x_fa E j < v_F V := h.2.2.2.2.2.2.2.2.2.2.2.2.1
theorem vp_fb (h : VP V E) : ∀ j, j < v_Q V → x_fb E j < v_F V := h.2.2.2.2.2.2.2.2.2.2.2.2.2.1
theorem vp_ab (h : VP V E) : ∀ j, j < v_Q V → x_fa E j ≠ x_fb E j := h.2.2.2.2.2.2.2.2.2.2.2.2.2.2.1
theorem vp_vi (h : VP V E) : ∀ j, j < v_Q V → v_vi V j ≤ 30 := h.2.2.2.2.2.2.2.2.2.2.2.2.2.2.2.1
theorem vp_od (h : VP V E) : ∀ j, j < 16 → v_od V j ≤ 100 := h.2.2.2.2.2.2.2.2.2.2.2.2.2.2.2.2.1
theorem vp_fo (h : VP V E) : ∀ j, j < 144 → v_fo V j ≤ 108 := h.2.2.2.2.2.2.2.2.2.2.2.2.2.2.2.2.2.1
theorem vp_dq (h : VP V E) : ∀ k, k < v_de V → x_dq E k < v_Q V := h.2.2.2.2.2.2.2.2.2.2.2.2.2.2.2.2.2.2.1
theorem vp_ds (h : VP V E) : ∀ k, k < v_de V → x_ds E k < 24 := h.2.2.2.2.2.2.2.2.2.2.2.2.2.2.2.2.2.2.2.1
theorem vp_df (h : VP V E) : ∀ k, k < v_de V → x_df E k ≤ 9 := h.2.2.2.2.2.2.2.2.2.2.2.2.2.2.2.2.2.2.2.2.1
theorem vp_fq (h : VP V E) : ∀ k, k < v_fe V → v_fq V k < v_Q V := h.2.2.2.2.2.2.2.2.2.2.2.2.2.2.2.2.2.2.2.2.2.1
theorem vp_fs (h : VP V E) : ∀ k, k < v_fe V → v_fs V k < 24 := h.2.2.2.2.2.2.2.2.2.2.2.2.2.2.2.2.2.2.2.2.2.2.1
theorem vp_po (h : VP V E) : ∀ q, q < v_Q V → v_pt V q = decide (x_po E q = 1) := h.2.2.2.2.2.2.2.2.2.2.2.2.2.2.2.2.2.2.2.2.2.2.2.1
theorem vp_po1 (h : VP V E) : ∀ q, q < v_Q V → x_po E q ≤ 1 := h.2.2.2.2.2.2.2.2.2.2.2.2.2.2.2.2.2.2.2.2.2.2.2.2.1
theorem vp_pr (h : VP V E) : ∀ q, q < v_Q V → v_pr V q = 1 <<< (nI (x_fa E q) &&& 31) ||| 1 <<< (nI (x_fb E q) &&& 31) := h.2.2.2.2.2.2.2.2.2.2.2.2.2.2.2.2.2.2.2.2.2.2.2.2.2.1
theorem vp_fd (h : VP V E) : ∀ q s, q < v_Q V → s < 24 → v_fo V (q * 24 + s) = sumf (fun k => if x_dq E k = q ∧ x_ds E k = s then x_df E k else 0) (v_de V) := h.2.2.2.2.2.2.2.2.2.2.2.2.2.2.2.2.2.2.2.2.2.2.2.2.2.2.1
theorem vp_np (h : VP V E) : x_np E = cntf (v_pt V) (v_Q V) := h.2.2.2.2.2.2.2.2.2.2.2.2.2.2.2.2.2.2.2.2.2.2.2.2.2.2.2.1
theorem vp_bc (h : VP V E) : v_po V = orf (v_pt V) (fun j => 1 <<< (nI j &&& 31)) (v_Q V) := h.2.2.2.2.2.2.2.2.2.2.2.2.2.2.2.2.2.2.2.2.2.2.2.2.2.2.2.2.1
theorem vp_f0 (h : VP V E) : ∀ j, 24 * v_Q V ≤ j → j < 144 → v_fo V j = 0 := h.2.2.2.2.2.2.2.2.2.2.2.2.2.2.2.2.2.2.2.2.2.2.2.2.2.2.2.2.2
theorem vp_ve (h : VP V E) (hQ : 0 < v_Q V) : VE V E := ⟨vp_Q h, hQ, vp_F h, Nat.le_trans (vp_la h) (by omega), vp_de h, vp_fe h, vp_wi h, vp_be h, vp_be4 h, vp_co h, vp_pe h, vp_pe1 h, vp_ki h, vp_fa h, vp_fb h, vp_ab h, vp_vi h, vp_od h, vp_fo h, vp_dq h, vp_ds h, vp_df h, vp_fq h, vp_fs h, vp_po h, vp_po1 h, vp_pr h, vp_fd h, vp_np h, vp_bc h⟩
end
/-- nothing told yet -/
def Z0 (V : vS) (E : xE) : Prop := (v_F V = 0 ∧ v_Q V = 0 ∧ v_la V = 0 ∧ v_de V = 0 ∧ v_fe V = 0 ∧ v_wi V = 0 ∧ v_be V = 0) ∧ v_po V = 0 ∧ (∀ j, j < 16 → v_od V j = 0) ∧ (∀ j, j < 144 → v_fo V j = 0) ∧ x_np E = 0
def ND (t : Nat → Nat) (V : vS) (fn qn : Nat → Nat × Nat) : Prop := ∀ f q, f < v_F V → q < v_Q V → swd t (fn f) (qn q) = false
def PI (t : Nat → Nat) (V : vS) (E : xE) (fn qn : Nat → Nat × Nat) : Prop := VP V E ∧ (nmo t (v_F V) fn ∧ nmo t (v_Q V) qn) ∧ ND t V fn qn
section
variable {t : Nat → Nat} {n lo hi p s un p2 : Nat} {b : Bool} {V : vS} {E : xE} {fn qn : Nat → Nat × Nat} {r : pSt × Nat} {S : pSt}
theorem nxp_ge : p ≤ nxp t n p := Nat.le_trans (tbe_ge (t := t) (n := n)) rnd_ge
theorem gw_i {k : Nat → pR} (h : g_w t n s p k = .inr r) : isw t n p s = true ∧ k (nxp t n p) = .inr r := by
  unfold g_w at h
  split at h
  · exact ⟨by assumption, h⟩
  · cases h
theorem gn_i {k : Nat → Nat → pR} (h : g_n t n lo hi p k = .inr r) : (lo ≤ val t n p ∧ val t n p ≤ hi) ∧ k (val t n p) (nxp t n p) = .inr r := by
  unfold g_n at h
  split at h
  · split at h
    · exact ⟨by assumption, h⟩
    · cases h
  · cases h
theorem gk_i {k : Nat → Nat → pR} (h : g_k t n p k = .inr r) : knd t n p < 4 ∧ k (knd t n p) (nxp t n p) = .inr r := by
  unfold g_k at h
  split at h
  · exact ⟨by assumption, h⟩
  · cases h
theorem ga_i {k : Nat × Nat → Nat → pR} (h : g_a t n V fn qn p k = .inr r) : tso t n p = 1 ∧ (¬ ffm t n V fn p < v_F V ∧ ¬ fqm t n V qn p < v_Q V) ∧ k (p, tbe t n p - p) (nxp t n p) = .inr r := by
  unfold g_a at h
  split at h
  · next c =>
    split at h
    · exact ⟨c.1, by assumption, h⟩
    · cases h
  · cases h
theorem gf_i {k : Nat → Nat → pR} (h : g_f t n V fn un p k = .inr r) : ffm t n V fn p < v_F V ∧ ¬ ffm t n V fn p = un ∧ k (ffm t n V fn p) (nxp t n p) = .inr r := by
  unfold g_f at h
  split at h
  · split at h
    · split at h
      · cases h
      · exact ⟨by assumption, by assumption, h⟩
    · cases h
  · cases h
theorem gq_i {k : Nat → Nat → pR} (h : g_q t n V qn b p k = .inr r) : fqm t n V qn p < v_Q V ∧ ¬ (b && v_pt V (fqm t n V qn p)) = true ∧ k (fqm t n V qn p) (nxp t n p) = .inr r := by
  unfold g_q at h
  split at h
  · split at h
    · split at h
      · cases h
      · exact ⟨by assumption, by assumption, h⟩
    · cases h
  · cases h
theorem ffm_no (h : ¬ ffm t n V fn p < v_F V) : ∀ f, f < v_F V → swd t (fn f) (p, tbe t n p - p) = false := fun f hf => by
  have hle : ffm t n V fn p ≤ v_F V := fnd_le _
  exact fnd_no (P := fun f => swd t (fn f) (p, tbe t n p - p)) (v_F V) f (by unfold ffm at h hle; omega)
theorem fqm_no (h : ¬ fqm t n V qn p < v_Q V) : ∀ f, f < v_Q V → swd t (qn f) (p, tbe t n p - p) = false := fun f hf => by
  have hle : fqm t n V qn p ≤ v_Q V := fnd_le _
  exact fnd_no (P := fun f => swd t (qn f) (p, tbe t n p - p)) (v_Q V) f (by unfold fqm at h hle; omega)
theorem swd_c {a c : Nat × Nat} : swd t a c = swd t c a := by
  unfold swd
  exact decide_eq_decide.mpr ⟨Eq.symm, Eq.symm⟩
-- bits of pots
theorem hb_orf {P : Nat → Bool} : ∀ m, m ≤ 6 → ∀ i, i < 6 → hb (orf P (fun j => 1 <<< (nI j &&& 31)) m) i = (decide (i < m) && P i)
  | 0, _, i, hi => by
    show hb 0 i = _
    rw [hb_0 i hi]
    simp
  | m + 1, hm, i, hi => by
    have ih := hb_orf (P := P) m (by omega) i hi
    rw [orf_if, hb_or, ih]
    by_cases e : i = m
    · subst e
      cases c : P i
      · simp [hb_0 i hi]
      · simp [hb_sh i hi i hi]
    · have e2 : (i < m + 1) ↔ i < m := by omega
      have e3 : ¬ m = i := fun q => e q.symm
      simp only [e2]
      by_cases c : P m = true
      · rw [if_pos c, hb_sh m (by omega) i hi, decide_eq_false e3, Bool.or_false]
      · rw [if_neg c, hb_0 i hi, Bool.or_false]
theorem orf_one {f : Nat → Int32} {q : Nat} : ∀ m, orf (fun k => decide (k = q)) f m = if q < m then f q else 0
  | 0 => by simp [orf]
  | m + 1 => by
    have ih := orf_one (f := f) (q := q) m
    unfold orf
    rw [ih]
    by_cases e : m = q
    · subst e
      simp
    · have e2 : (q < m + 1) ↔ q < m := by omega
      simp [e, e2]
theorem pt_out (h : VP V E) {q : Nat} (h1 : v_Q V ≤ q) (h2 : q < 6) : v_pt V q = false := by
  have e := vp_bc h
  unfold v_pt
  rw [e, hb_orf _ (vp_Q h) q h2, decide_eq_false (by omega), Bool.false_and]
theorem fo_le (h : ∀ q s, q < v_Q V → s < 24 → v_fo V (q * 24 + s) = sumf (fun k => if x_dq E k = q ∧ x_ds E k = s then x_df E k else 0) (v_de V)) (h0 : ∀ j, 24 * v_Q V ≤ j → j < 144 → v_fo V j = 0) (hd : v_de V ≤ 12) (hf : ∀ k, k < v_de V → x_df E k ≤ 9) : ∀ j, j < 144 → v_fo V j ≤ 108 := by
  intro j hj
  by_cases c : j < 24 * v_Q V
  · have e := h (j / 24) (j % 24) (by omega) (by omega)
    rw [show j / 24 * 24 + j % 24 = j by omega] at e
    rw [e]
    have := sumf_le (f := fun k => if x_dq E k = j / 24 ∧ x_ds E k = j % 24 then x_df E k else 0) (B := 9) (v_de V) (fun k hk => by
      show (if _ then _ else _) ≤ 9
      split
      · exact hf k hk
      · omega)
    omega
  · rw [h0 j (by omega) hj]
    omega
-- each line keeps it
theorem pi_val (hz : Z0 V E) (h : pl_val t n V E fn qn p = .inr (S, p2)) : PI t S.1 S.2.1 S.2.2.1 S.2.2.2 ∧ p ≤ p2 := by
  obtain ⟨⟨zF, zQ, zla, zde, zfe, zwi, zbe⟩, zpo, zod, zfo, znp⟩ := hz
  obtain ⟨-, h⟩ := gw_i h
  obtain ⟨v1, h⟩ := gn_i h
  obtain ⟨-, h⟩ := gw_i h
  obtain ⟨v2, h⟩ := gn_i h
  obtain ⟨-, h⟩ := gw_i h
  obtain ⟨v3, h⟩ := gn_i h
  obtain ⟨v4, h⟩ := gn_i h
  obtain ⟨v5, h⟩ := gn_i h
  obtain ⟨v6, h⟩ := gn_i h
  cases h
  have z1 : ∀ {j}, ¬ j < v_F V := fun {j} => by omega
  have z2 : ∀ {j}, ¬ j < v_Q V := fun {j} => by omega
  have z3 : ∀ {j}, ¬ j < v_de V := fun {j} => by omega
  have z4 : ∀ {j}, ¬ j < v_fe V := fun {j} => by omega
  refine ⟨⟨⟨?_, ?_, ?_, ?_, ?_, v1.2, v2.2, v2.1, fun j hj => ?_, fun j hj => absurd hj z1, fun j hj => absurd hj z1, fun j hj => absurd hj z2, fun j hj => absurd hj z2, fun j hj => absurd hj z2, fun j hj => absurd hj z2, fun j hj => absurd hj z2, fun j hj => ?_, fun j hj => ?_, fun j hj => absurd hj z3, fun j hj => absurd hj z3, fun j hj => absurd hj z3, fun j hj => absurd hj z4, fun j hj => absurd hj z4, fun j hj => absurd hj z2, fun j hj => absurd hj z2, fun j hj => absurd hj z2, fun j s hj => absurd hj z2, ?_, ?_, fun j _ hj => zfo j hj⟩, ⟨fun f hf => absurd hf z1, fun f hf => absurd hf z2⟩, fun f q hf => absurd hf z1⟩, ?_⟩
  · show v_Q V ≤ 6; omega
  · show v_F V ≤ 6; omega
  · show v_la V ≤ 10; omega
  · show v_de V ≤ 12; omega
  · show v_fe V ≤ 6; omega
  · have hc : j = 0 ∨ j = 1 ∨ j = 2 ∨ j = 3 := by omega
    rcases hc with rfl | rfl | rfl | rfl
    · exact v3.2
    · exact v4.2
    · exact v5.2
    · exact v6.2
  · show v_od V j ≤ 100; rw [zod j hj]; omega
  · show v_fo V j ≤ 108; rw [zfo j hj]; omega
  · show x_np E = cntf _ (v_Q V); rw [zQ, znp]; rfl
  · show v_po V = orf _ _ (v_Q V); rw [zQ, zpo]; rfl
  · exact Nat.le_trans (Nat.le_trans (Nat.le_trans (Nat.le_trans (Nat.le_trans (Nat.le_trans (Nat.le_trans (Nat.le_trans nxp_ge nxp_ge) nxp_ge) nxp_ge) nxp_ge) nxp_ge) nxp_ge) nxp_ge) nxp_ge
theorem va_e {α : Type} {f : Nat → α} {j : Nat} {x : α} : va_up f j x j = x := by simp [va_up]
theorem va_n {α : Type} {f : Nat → α} {i j : Nat} {x : α} (h : i ≠ j) : va_up f j x i = f i := by simp [va_up, h]
theorem pi_fam (hI : PI t V E fn qn) (hF : v_F V < 6) (h : pl_fam t n V E fn qn p = .inr (S, p2)) : PI t S.1 S.2.1 S.2.2.1 S.2.2.2 ∧ p ≤ p2 := by
  obtain ⟨hv, ⟨hnf, hnq⟩, hnd⟩ := hI
  obtain ⟨hs, ⟨n1, n2⟩, h⟩ := ga_i h
  obtain ⟨-, h⟩ := gw_i h
  obtain ⟨v1, h⟩ := gn_i h
  cases h
  have hv0 := hv
  obtain ⟨h_Q, h_F, h_la, h_de, h_fe, h_wi, h_be, h_be4, h_co, h_pe, h_pe1, h_ki, h_fa, h_fb, h_ab, h_vi, h_od, h_fo, h_dq, h_ds, h_df, h_fq, h_fs, h_po, h_po1, h_pr, h_fd, h_np, h_bc, h_f0⟩ := hv0
  refine ⟨⟨⟨h_Q, ?_, h_la, h_de, h_fe, h_wi, h_be, h_be4, h_co, fun j hj => ?_, fun j hj => ?_, h_ki, fun j hj => ?_, fun j hj => ?_, h_ab, h_vi, h_od, h_fo, h_dq, h_ds, h_df, h_fq, h_fs, h_po, h_po1, h_pr, h_fd, h_np, h_bc, h_f0⟩, ⟨nm_up hnf (nm_cur hs), hnq⟩, fun f q hf hq => ?_⟩, Nat.le_trans (Nat.le_trans nxp_ge nxp_ge) nxp_ge⟩
  · show v_F V + 1 ≤ 6; omega
  · have hj : j < v_F V + 1 := hj
    show va_up (v_pe V) (v_F V) _ j ≤ 99
    by_cases e : j = v_F V
    · rw [e, va_e]; exact v1.2
    · rw [va_n e]; exact vp_pe hv j (by omega)
  · have hj : j < v_F V + 1 := hj
    show 1 ≤ va_up (v_pe V) (v_F V) _ j
    by_cases e : j = v_F V
    · rw [e, va_e]; exact v1.1
    · rw [va_n e]; exact vp_pe1 hv j (by omega)
  · exact Nat.lt_succ_of_lt (vp_fa hv j hj)
  · exact Nat.lt_succ_of_lt (vp_fb hv j hj)
  · have hf : f < v_F V + 1 := hf
    show swd t (va_up fn (v_F V) _ f) (qn q) = false
    by_cases e : f = v_F V
    · rw [e, va_e, swd_c]; exact fqm_no n2 q hq
    · rw [va_n e]; exact hnd f q (by omega) hq
theorem pi_qua (hI : PI t V E fn qn) (hQ : v_Q V < 6) (h : pl_qua t n V E fn qn p = .inr (S, p2)) : PI t S.1 S.2.1 S.2.2.1 S.2.2.2 ∧ p ≤ p2 := by
  obtain ⟨hv, ⟨hnf, hnq⟩, hnd⟩ := hI
  obtain ⟨hs, ⟨n1, n2⟩, h⟩ := ga_i h
  obtain ⟨k1, h⟩ := gk_i h
  obtain ⟨-, h⟩ := gw_i h
  obtain ⟨f1, -, h⟩ := gf_i h
  obtain ⟨f2, f3, h⟩ := gf_i h
  obtain ⟨-, h⟩ := gw_i h
  obtain ⟨v1, h⟩ := gn_i h
  cases h
  have hp0 := pt_out hv (Nat.le_refl _) hQ
  have cs : ∀ j, j < v_Q V + 1 → j = v_Q V ∨ (j ≠ v_Q V ∧ j < v_Q V) := fun j hj => by omega
  have hv0 := hv
  obtain ⟨h_Q, h_F, h_la, h_de, h_fe, h_wi, h_be, h_be4, h_co, h_pe, h_pe1, h_ki, h_fa, h_fb, h_ab, h_vi, h_od, h_fo, h_dq, h_ds, h_df, h_fq, h_fs, h_po, h_po1, h_pr, h_fd, h_np, h_bc, h_f0⟩ := hv0
  refine ⟨⟨⟨?_, h_F, h_la, h_de, h_fe, h_wi, h_be, h_be4, h_co, h_pe, h_pe1, fun j hj => ?_, fun j hj => ?_, fun j hj => ?_, fun j hj => ?_, fun j hj => ?_, h_od, h_fo, fun j hj => Nat.lt_succ_of_lt (vp_dq hv j hj), h_ds, h_df, fun j hj => Nat.lt_succ_of_lt (vp_fq hv j hj), h_fs, fun j hj => ?_, fun j hj => ?_, fun j hj => ?_, fun q s hq hs => ?_, ?_, ?_, fun j h1 h2 => vp_f0 hv j (by have : 24 * (v_Q V + 1) ≤ j := h1; omega) h2⟩, ⟨hnf, nm_up hnq (nm_cur hs)⟩, fun f q hf hq => ?_⟩, Nat.le_trans (Nat.le_trans (Nat.le_trans (Nat.le_trans (Nat.le_trans (Nat.le_trans nxp_ge nxp_ge) nxp_ge) nxp_ge) nxp_ge) nxp_ge) nxp_ge⟩
  · show v_Q V + 1 ≤ 6; omega
  · show va_up (v_ki V) (v_Q V) _ j < 4
    rcases cs j hj with rfl | ⟨e, e2⟩
    · rw [va_e]; exact k1
    · rw [va_n e]; exact vp_ki hv j e2
  · show va_up (x_fa E) (v_Q V) _ j < v_F V
    rcases cs j hj with rfl | ⟨e, e2⟩
    · rw [va_e]; exact f1
    · rw [va_n e]; exact vp_fa hv j e2
  · show va_up (x_fb E) (v_Q V) _ j < v_F V
    rcases cs j hj with rfl | ⟨e, e2⟩
    · rw [va_e]; exact f2
    · rw [va_n e]; exact vp_fb hv j e2
  · show va_up (x_fa E) (v_Q V) _ j ≠ va_up (x_fb E) (v_Q V) _ j
    rcases cs j hj with rfl | ⟨e, e2⟩
    · rw [va_e, va_e]; exact fun q => f3 q.symm
    · rw [va_n e, va_n e]; exact vp_ab hv j e2
  · show va_up (v_vi V) (v_Q V) _ j ≤ 30
    rcases cs j hj with rfl | ⟨e, e2⟩
    · rw [va_e]; exact v1.2
    · rw [va_n e]; exact vp_vi hv j e2
  · show v_pt V j = decide (va_up (x_po E) (v_Q V) 0 j = 1)
    rcases cs j hj with rfl | ⟨e, e2⟩
    · rw [va_e, hp0]; rfl
    · rw [va_n e]; exact vp_po hv j e2
  · show va_up (x_po E) (v_Q V) 0 j ≤ 1
    rcases cs j hj with rfl | ⟨e, e2⟩
    · rw [va_e]; omega
    · rw [va_n e]; exact vp_po1 hv j e2
  · show va_up (v_pr V) (v_Q V) _ j = 1 <<< (nI (va_up (x_fa E) (v_Q V) _ j) &&& 31) ||| 1 <<< (nI (va_up (x_fb E) (v_Q V) _ j) &&& 31)
    rcases cs j hj with rfl | ⟨e, e2⟩
    · rw [va_e, va_e, va_e]
    · rw [va_n e, va_n e, va_n e]; exact vp_pr hv j e2
  · show v_fo V (q * 24 + s) = sumf (fun k => if x_dq E k = q ∧ x_ds E k = s then x_df E k else 0) (v_de V)
    rcases cs q hq with rfl | ⟨e, e2⟩
    · rw [vp_f0 hv _ (by omega) (by omega), sumf_c (g := fun _ => 0) (v_de V) (fun k hk => by
        have := vp_dq hv k hk
        show (if _ then _ else _) = 0
        rw [if_neg (by omega)]), sumf_z]
    · exact vp_fd hv q s e2 hs
  · show x_np E = cntf (v_pt V) (v_Q V + 1)
    rw [cntf_if, hp0]
    exact vp_np hv
  · show v_po V = orf (v_pt V) _ (v_Q V + 1)
    rw [orf_if, hp0, vp_bc hv]
    rw [← vp_bc hv]
    simp
  · have hq : q < v_Q V + 1 := hq
    show swd t (fn f) (va_up qn (v_Q V) _ q) = false
    rcases cs q hq with rfl | ⟨e, e2⟩
    · rw [va_e]; exact ffm_no n1 f hf
    · rw [va_n e]; exact hnd f q hf e2
theorem pi_law (hI : PI t V E fn qn) (hl : v_la V < 10) (h : pl_law t n V E fn qn p = .inr (S, p2)) : PI t S.1 S.2.1 S.2.2.1 S.2.2.2 ∧ p ≤ p2 := by
  obtain ⟨hv, hn, hnd⟩ := hI
  obtain ⟨k1, h⟩ := gk_i h
  obtain ⟨-, h⟩ := gw_i h
  obtain ⟨k2, h⟩ := gk_i h
  split at h
  · cases h
  obtain ⟨-, h⟩ := gw_i h
  obtain ⟨v1, h⟩ := gn_i h
  cases h
  have hv0 := hv
  obtain ⟨h_Q, h_F, h_la, h_de, h_fe, h_wi, h_be, h_be4, h_co, h_pe, h_pe1, h_ki, h_fa, h_fb, h_ab, h_vi, h_od, h_fo, h_dq, h_ds, h_df, h_fq, h_fs, h_po, h_po1, h_pr, h_fd, h_np, h_bc, h_f0⟩ := hv0
  refine ⟨⟨⟨h_Q, h_F, ?_, h_de, h_fe, h_wi, h_be, h_be4, h_co, h_pe, h_pe1, h_ki, h_fa, h_fb, h_ab, h_vi, fun j hj => ?_, h_fo, h_dq, h_ds, h_df, h_fq, h_fs, h_po, h_po1, h_pr, h_fd, h_np, h_bc, h_f0⟩, hn, hnd⟩, Nat.le_trans (Nat.le_trans (Nat.le_trans (Nat.le_trans nxp_ge nxp_ge) nxp_ge) nxp_ge) nxp_ge⟩
  · show v_la V + 1 ≤ 10; omega
  · show va_up (v_od V) _ _ j ≤ 100
    by_cases e : j = knd t n p * 4 + knd t n (nxp t n (nxp t n p))
    · rw [e, va_e]; exact v1.2
    · rw [va_n e]; exact vp_od hv j hj
theorem pi_dee (hI : PI t V E fn qn) (hd : v_de V < 12) (h : pl_dee t n V E fn qn p = .inr (S, p2)) : PI t S.1 S.2.1 S.2.2.1 S.2.2.2 ∧ p ≤ p2 := by
  obtain ⟨hv, hn, hnd⟩ := hI
  obtain ⟨q1, -, h⟩ := gq_i h
  obtain ⟨-, h⟩ := gw_i h
  obtain ⟨v1, h⟩ := gn_i h
  obtain ⟨-, h⟩ := gw_i h
  obtain ⟨v2, h⟩ := gn_i h
  cases h
  generalize fqm t n V qn p = q at *
  generalize val t n (nxp t n (nxp t n p)) = s at *
  generalize val t n (nxp t n (nxp t n (nxp t n (nxp t n p)))) = v at *
  have hQ6 := vp_Q hv
  have cs : ∀ j, j < v_de V + 1 → j = v_de V ∨ (j ≠ v_de V ∧ j < v_de V) := fun j hj => by omega
  have hfd : ∀ q' s', q' < v_Q V → s' < 24 → va_up (v_fo V) (q * 24 + s) (v_fo V (q * 24 + s) + v) (q' * 24 + s') = sumf (fun k => if va_up (x_dq E) (v_de V) q k = q' ∧ va_up (x_ds E) (v_de V) s k = s' then va_up (x_df E) (v_de V) v k else 0) (v_de V + 1) := by
    intro q' s' hq' hs'
    have e0 : sumf (fun k => if va_up (x_dq E) (v_de V) q k = q' ∧ va_up (x_ds E) (v_de V) s k = s' then va_up (x_df E) (v_de V) v k else 0) (v_de V) = sumf (fun k => if x_dq E k = q' ∧ x_ds E k = s' then x_df E k else 0) (v_de V) := sumf_c _ fun k hk => by
      have e : k ≠ v_de V := by omega
      show (if va_up (x_dq E) (v_de V) q k = q' ∧ va_up (x_ds E) (v_de V) s k = s' then va_up (x_df E) (v_de V) v k else 0) = _
      rw [va_n e, va_n e, va_n e]
    show _ = sumf _ (v_de V) + (if va_up (x_dq E) (v_de V) q (v_de V) = q' ∧ va_up (x_ds E) (v_de V) s (v_de V) = s' then va_up (x_df E) (v_de V) v (v_de V) else 0)
    rw [e0, va_e, va_e, va_e, ← vp_fd hv q' s' hq' hs']
    by_cases c : q = q' ∧ s = s'
    · obtain ⟨rfl, rfl⟩ := c
      rw [va_e, if_pos ⟨rfl, rfl⟩]
    · rw [if_neg c, va_n (by omega)]
      rfl
  have hf0 : ∀ j, 24 * v_Q V ≤ j → j < 144 → va_up (v_fo V) (q * 24 + s) (v_fo V (q * 24 + s) + v) j = 0 := fun j h1 h2 => by
    rw [va_n (by omega)]
    exact vp_f0 hv j h1 h2
  have hdf : ∀ k, k < v_de V + 1 → va_up (x_df E) (v_de V) v k ≤ 9 := fun k hk => by
    rcases cs k hk with rfl | ⟨e, e2⟩
    · rw [va_e]; exact v2.2
    · rw [va_n e]; exact vp_df hv k e2
  have hv0 := hv
  obtain ⟨h_Q, h_F, h_la, h_de, h_fe, h_wi, h_be, h_be4, h_co, h_pe, h_pe1, h_ki, h_fa, h_fb, h_ab, h_vi, h_od, h_fo, h_dq, h_ds, h_df, h_fq, h_fs, h_po, h_po1, h_pr, h_fd, h_np, h_bc, h_f0⟩ := hv0
  refine ⟨⟨⟨h_Q, h_F, h_la, ?_, h_fe, h_wi, h_be, h_be4, h_co, h_pe, h_pe1, h_ki, h_fa, h_fb, h_ab, h_vi, h_od, fo_le (V := vs_de (vs_fo V (q * 24 + s) (v_fo V (q * 24 + s) + v)) (v_de V + 1)) (E := es_df (es_ds (es_dq E (v_de V) q) (v_de V) s) (v_de V) v) hfd hf0 (by show v_de V + 1 ≤ 12; omega) hdf, fun k hk => ?_, fun k hk => ?_, hdf, h_fq, h_fs, h_po, h_po1, h_pr, hfd, h_np, h_bc, hf0⟩, hn, hnd⟩, Nat.le_trans (Nat.le_trans (Nat.le_trans (Nat.le_trans nxp_ge nxp_ge) nxp_ge) nxp_ge) nxp_ge⟩
  · show v_de V + 1 ≤ 12; omega
  · show va_up (x_dq E) (v_de V) q k < v_Q V
    rcases cs k hk with rfl | ⟨e, e2⟩
    · rw [va_e]; exact q1
    · rw [va_n e]; exact vp_dq hv k e2
  · show va_up (x_ds E) (v_de V) s k < 24
    rcases cs k hk with rfl | ⟨e, e2⟩
    · rw [va_e]; omega
    · rw [va_n e]; exact vp_ds hv k e2
theorem pi_pot (hI : PI t V E fn qn) (h : pl_pot t n V E fn qn p = .inr (S, p2)) : PI t S.1 S.2.1 S.2.2.1 S.2.2.2 ∧ p ≤ p2 := by
  obtain ⟨hv, hn, hnd⟩ := hI
  obtain ⟨q1, q2, h⟩ := gq_i h
  cases h
  generalize fqm t n V qn p = q at *
  rw [Bool.true_and] at q2
  have q2 : v_pt V q = false := by cases c : v_pt V q
                                   · rfl
                                   · exact absurd c q2
  have hQ6 := vp_Q hv
  have hpt : ∀ k, k < 6 → v_pt (vs_po V (v_po V ||| 1 <<< (nI q &&& 31))) k = (v_pt V k || decide (k = q)) := fun k hk => by
    show hb (v_po V ||| 1 <<< (nI q &&& 31)) k = _
    rw [hb_or, hb_sh q (by omega) k hk]
    show (v_pt V k || decide (q = k)) = (v_pt V k || decide (k = q))
    rw [decide_eq_decide.mpr (⟨Eq.symm, Eq.symm⟩ : q = k ↔ k = q)]
  have hv0 := hv
  obtain ⟨h_Q, h_F, h_la, h_de, h_fe, h_wi, h_be, h_be4, h_co, h_pe, h_pe1, h_ki, h_fa, h_fb, h_ab, h_vi, h_od, h_fo, h_dq, h_ds, h_df, h_fq, h_fs, h_po, h_po1, h_pr, h_fd, h_np, h_bc, h_f0⟩ := hv0
  refine ⟨⟨⟨h_Q, h_F, h_la, h_de, h_fe, h_wi, h_be, h_be4, h_co, h_pe, h_pe1, h_ki, h_fa, h_fb, h_ab, h_vi, h_od, h_fo, h_dq, h_ds, h_df, h_fq, h_fs, fun k hk => ?_, fun k hk => ?_, h_pr, h_fd, ?_, ?_, h_f0⟩, hn, hnd⟩, nxp_ge⟩
  · have hk : k < v_Q V := hk
    rw [hpt k (by omega)]
    show _ = decide (va_up (x_po E) q 1 k = 1)
    by_cases e : k = q
    · rw [e, va_e]; simp
    · rw [va_n e, ← vp_po hv k hk, decide_eq_false e, Bool.or_false]
  · show va_up (x_po E) q 1 k ≤ 1
    by_cases e : k = q
    · rw [e, va_e]; omega
    · rw [va_n e]; exact vp_po1 hv k hk
  · show x_np E + 1 = cntf (v_pt (vs_po V (v_po V ||| 1 <<< (nI q &&& 31)))) (v_Q V)
    rw [cntf_c (P2 := fun k => v_pt V k || decide (k = q)) (v_Q V) (fun k hk => hpt k (by omega))]
    have e := cntf_rm (P := fun k => v_pt V k || decide (k = q)) (a := q) (by simp) (v_Q V) q1
    rw [← e, vp_np hv]
    congr 1
    refine cntf_c _ fun k hk => ?_
    by_cases c : k = q
    · rw [c, q2]; simp
    · simp [c]
  · show v_po V ||| 1 <<< (nI q &&& 31) = orf (v_pt (vs_po V (v_po V ||| 1 <<< (nI q &&& 31)))) _ (v_Q V)
    rw [orf_c (P2 := fun k => v_pt V k || decide (k = q)) (f2 := fun j => 1 <<< (nI j &&& 31)) (v_Q V) (fun k hk => hpt k (by omega)) (fun k hk => rfl), orf_or2 (P1 := v_pt V) (P2 := fun k => decide (k = q)) (fun k hk => rfl), orf_one, if_pos q1, ← vp_bc hv]
theorem pi_fel (hI : PI t V E fn qn) (hf : v_fe V < 6) (h : pl_fel t n V E fn qn p = .inr (S, p2)) : PI t S.1 S.2.1 S.2.2.1 S.2.2.2 ∧ p ≤ p2 := by
  obtain ⟨hv, hn, hnd⟩ := hI
  obtain ⟨q1, -, h⟩ := gq_i h
  obtain ⟨-, h⟩ := gw_i h
  split at h
  · cases h
  obtain ⟨v1, h⟩ := gn_i h
  cases h
  have cs : ∀ j, j < v_fe V + 1 → j = v_fe V ∨ (j ≠ v_fe V ∧ j < v_fe V) := fun j hj => by omega
  have hv0 := hv
  obtain ⟨h_Q, h_F, h_la, h_de, h_fe, h_wi, h_be, h_be4, h_co, h_pe, h_pe1, h_ki, h_fa, h_fb, h_ab, h_vi, h_od, h_fo, h_dq, h_ds, h_df, h_fq, h_fs, h_po, h_po1, h_pr, h_fd, h_np, h_bc, h_f0⟩ := hv0
  refine ⟨⟨⟨h_Q, h_F, h_la, h_de, ?_, h_wi, h_be, h_be4, h_co, h_pe, h_pe1, h_ki, h_fa, h_fb, h_ab, h_vi, h_od, h_fo, h_dq, h_ds, h_df, fun k hk => ?_, fun k hk => ?_, h_po, h_po1, h_pr, h_fd, h_np, h_bc, h_f0⟩, hn, hnd⟩, Nat.le_trans (Nat.le_trans nxp_ge nxp_ge) nxp_ge⟩
  · show v_fe V + 1 ≤ 6; omega
  · show va_up (v_fq V) (v_fe V) _ k < v_Q V
    rcases cs k hk with rfl | ⟨e, e2⟩
    · rw [va_e]; exact q1
    · rw [va_n e]; exact vp_fq hv k e2
  · show va_up (v_fs V) (v_fe V) _ k < 24
    rcases cs k hk with rfl | ⟨e, e2⟩
    · rw [va_e]; omega
    · rw [va_n e]; exact vp_fs hv k e2
end
def full (V : vS) (k : Nat) : Bool := decide ((k = 1 ∧ 6 ≤ v_F V) ∨ (k = 2 ∧ 6 ≤ v_Q V) ∨ (k = 3 ∧ 10 ≤ v_la V) ∨ (k = 4 ∧ 12 ≤ v_de V) ∨ (k = 6 ∧ 6 ≤ v_fe V))
/-- the rest of a line by its first word -/
def pl_of (t : Nat → Nat) (n k : Nat) (V : vS) (E : xE) (fn qn : Nat → Nat × Nat) (p : Nat) : pR := match k with
  | 0 => pl_val t n V E fn qn p
  | 1 => pl_fam t n V E fn qn p
  | 2 => pl_qua t n V E fn qn p
  | 3 => pl_law t n V E fn qn p
  | 4 => pl_dee t n V E fn qn p
  | 5 => pl_pot t n V E fn qn p
  | _ => pl_fel t n V E fn qn p
def pl_line (t : Nat → Nat) (n : Nat) (told : Bool) (V : vS) (E : xE) (fn qn : Nat → Nat × Nat) (p : Nat) : pR := if kwd t n p = 7 then .inl (1, p) else if kwd t n p = 0 ∧ told = true then .inl (3, p) else if full V (kwd t n p) = true then .inl (5, p) else if ¬ kwd t n p = 0 ∧ told = false then .inl (6, p) else pl_of t n (kwd t n p) V E fn qn (nxp t n p)
def pl_go (t : Nat → Nat) (n : Nat) : Nat → pR → pR
  | 0, r => r
  | m + 1, r => match r with
    | .inl e => .inl e
    | .inr q => if tso t n q.2 = 3 then pl_go t n m (pl_line t n true q.1.1 q.1.2.1 q.1.2.2.1 q.1.2.2.2 (nxp t n q.2)) else .inr q
def pl_end (t : Nat → Nat) (n : Nat) (r : pR) : pR := match r with
  | .inl e => .inl e
  | .inr q => if tso t n q.2 = 0 then (if v_Q q.1.1 = 0 then .inl (6, q.2) else .inr q) else .inl (1, q.2)
def pl_all (t : Nat → Nat) (n : Nat) (V : vS) (E : xE) (fn qn : Nat → Nat × Nat) : pR := pl_end t n (pl_go t n 900 (pl_line t n false V E fn qn (tpl t n 0)))
section
variable {t : Nat → Nat} {n p p2 : Nat} {V : vS} {E : xE} {fn qn : Nat → Nat × Nat} {S : pSt} {r : pR} {q : pSt × Nat}
theorem full_f {k : Nat} (h : full V k = false) : (k = 1 → v_F V < 6) ∧ (k = 2 → v_Q V < 6) ∧ (k = 3 → v_la V < 10) ∧ (k = 4 → v_de V < 12) ∧ (k = 6 → v_fe V < 6) := by
  have h := of_decide_eq_false h
  omega
theorem kwd_cs (h : ¬ kwd t n p = 7) : kwd t n p = 0 ∨ kwd t n p = 1 ∨ kwd t n p = 2 ∨ kwd t n p = 3 ∨ kwd t n p = 4 ∨ kwd t n p = 5 ∨ kwd t n p = 6 := by
  have := kwd_le (t := t) (n := n) (p := p)
  omega
theorem pi_line0 (hz : Z0 V E) (h : pl_line t n false V E fn qn p = .inr q) : PI t q.1.1 q.1.2.1 q.1.2.2.1 q.1.2.2.2 ∧ p ≤ q.2 := by
  obtain ⟨S, p2⟩ := q
  unfold pl_line at h
  by_cases c1 : kwd t n p = 7
  · rw [if_pos c1] at h; cases h
  rw [if_neg c1] at h
  rw [if_neg (by simp)] at h
  by_cases c2 : full V (kwd t n p) = true
  · rw [if_pos c2] at h; cases h
  rw [if_neg c2] at h
  by_cases c3 : kwd t n p = 0
  · rw [if_neg (fun q => q.1 c3), c3] at h
    have := pi_val hz h
    exact ⟨this.1, Nat.le_trans nxp_ge this.2⟩
  · rw [if_pos ⟨c3, rfl⟩] at h; cases h
theorem pi_line1 (hI : PI t V E fn qn) (h : pl_line t n true V E fn qn p = .inr q) : PI t q.1.1 q.1.2.1 q.1.2.2.1 q.1.2.2.2 ∧ p ≤ q.2 := by
  obtain ⟨S, p2⟩ := q
  unfold pl_line at h
  by_cases c1 : kwd t n p = 7
  · rw [if_pos c1] at h; cases h
  rw [if_neg c1] at h
  by_cases c0 : kwd t n p = 0
  · rw [if_pos ⟨c0, rfl⟩] at h; cases h
  rw [if_neg (fun q => c0 q.1)] at h
  cases c2 : full V (kwd t n p)
  rotate_left
  · rw [c2, if_pos rfl] at h; cases h
  rw [c2, if_neg (by simp), if_neg (by simp)] at h
  obtain ⟨g1, g2, g3, g4, g6⟩ := full_f c2
  have fin : ∀ {S : pSt} {p2 : Nat}, (PI t S.1 S.2.1 S.2.2.1 S.2.2.2 ∧ nxp t n p ≤ p2) → PI t S.1 S.2.1 S.2.2.1 S.2.2.2 ∧ p ≤ p2 := fun h => ⟨h.1, Nat.le_trans nxp_ge h.2⟩
  rcases kwd_cs c1 with k | k | k | k | k | k | k
  · exact absurd k c0
  · rw [k] at h; exact fin (pi_fam hI (g1 k) h)
  · rw [k] at h; exact fin (pi_qua hI (g2 k) h)
  · rw [k] at h; exact fin (pi_law hI (g3 k) h)
  · rw [k] at h; exact fin (pi_dee hI (g4 k) h)
  · rw [k] at h; exact fin (pi_pot hI h)
  · rw [k] at h; exact fin (pi_fel hI (g6 k) h)
theorem tso_3 (h : tso t n p = 3) : p < n ∧ tbe t n p = p + 1 := by
  unfold tso at h
  unfold tbe
  by_cases c1 : n ≤ p
  · rw [if_pos c1] at h; omega
  rw [if_neg c1] at h ⊢
  by_cases c2 : t p = 59
  · rw [if_pos c2]
    exact ⟨by omega, rfl⟩
  · rw [if_neg c2] at h
    repeat' split at h
    all_goals omega
theorem nxp_3 (h : tso t n p = 3) : p + 1 ≤ nxp t n p := by
  have := (tso_3 h).2
  have h2 : tbe t n p ≤ nxp t n p := rnd_ge
  omega
end
