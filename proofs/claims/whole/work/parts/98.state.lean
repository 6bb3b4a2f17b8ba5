-- ONE STATE OF BOTH
def CI (u : am_St) (hs : Bool) (V : vS) (G : gS) (a : Nat) (H : Nat → gS) (i : Nat) (K : Nat → gS) (tr fl wh : Int32) (k : Nat) (t : Nat → Nat) : Prop := (∃ tv, CW u hs tv V G ∧ u.2.2.2 0 4 = some (20 - tv)) ∧ (vl_ok u 5 ∧ vl_ok u 15) ∧ (∃ σ, ca_at u a H σ) ∧ ci_at u i K ∧ PLN u hs V G ∧ (u.2.1 0 16 = tr ∧ u.2.1 2 0 = fl ∧ (tr = nI 4 → u.2.1 2 1 = wh)) ∧ u.2.1 0 1 = nI k ∧ ∀ j, j < k → u.2.1 1 j = cbt (t j)
def MI (u : am_St) (hs : Bool) (V : vS) (E : xE) (G : gS) (a : Nat) (H : Nat → gS) (i : Nat) (K : Nat → gS) (tr fl wh : Int32) (k : Nat) (t : Nat → Nat) : Prop := MW u hs V E G ∧ ma_at u a H ∧ mi_at u i K ∧ (u.2.1 156 11 = tr ∧ u.2.1 156 9 = fl ∧ (tr = nI 4 → u.2.1 156 10 = wh)) ∧ u.2.1 156 2 = nI k ∧ ∀ j, j < k → u.2.1 157 j = nI (t j)
/-- the pure side: n calls are done -/
def PS (hs : Bool) (V : vS) (E : xE) (G : gS) (a : Nat) (H : Nat → gS) (i : Nat) (K : Nat → gS) (k : Nat) (t : Nat → Nat) (n : Nat) : Prop := (k ≤ 900 ∧ ∀ j, t j < 256) ∧ (hs = false → a = 0 ∧ i = 0) ∧ (hs = true → VE V E ∧ GJ V G n ∧ (∀ j, j < a → GJ V (H j) n) ∧ ∀ j, j < i → GJ V (K j) n)
def CFr (u u2 : am_St) : Prop := u2.1 = u.1 ∧ ∀ a, 156 ≤ a → u2.2.1 a = u.2.1 a ∧ u2.2.2.1 a = u.2.2.1 a ∧ u2.2.2.2 a = u.2.2.2 a
def MFr (u u2 : am_St) : Prop := u2.1 = u.1 ∧ u2.2.2.2 = u.2.2.2 ∧ ∀ a, (a < 156 ∨ 174 < a) → u2.2.1 a = u.2.1 a ∧ u2.2.2.1 a = u.2.2.1 a
section
variable {u u1 u2 u3 : am_St} {hs : Bool} {V : vS} {E : xE} {G G2 : gS} {a i k n tv : Nat} {H K : Nat → gS} {tr fl wh t2 : Int32} {t : Nat → Nat}
theorem ps_w (h : PS hs V E G a H i K k t n) (hn : n < 512) : PW hs V E G (288 + 9 * n) := ⟨by omega, fun q => ⟨(h.2.2 q).1, gj_g (h.2.2 q).1 (h.2.2 q).2.1⟩⟩
theorem ps_m {n2 : Nat} (h : PS hs V E G a H i K k t n) (hn : n ≤ n2) : PS hs V E G a H i K k t n2 := ⟨h.1, h.2.1, fun q => ⟨(h.2.2 q).1, gj_m (h.2.2 q).2.1 hn, fun j hj => gj_m ((h.2.2 q).2.2.1 j hj) hn, fun j hj => gj_m ((h.2.2 q).2.2.2 j hj) hn⟩⟩
theorem md_r (h1 : u2.1 = u.1) (h2 : u2.2.2.2 156 = u.2.2.2 156) (h : md_ok u) : md_ok u2 := by
  unfold md_ok am_kd am_sz at h ⊢
  rw [h1, h2]
  exact h
theorem rw_c {c : Nat} (h1 : u2.2.1 c = u.2.1 c) (h : rw_at u c G) : rw_at u2 c G := by
  unfold rw_at at h ⊢
  rw [h1]
  exact h
theorem mi_fr (h : CFr u u2) (hM : MI u hs V E G a H i K tr fl wh k t) : MI u2 hs V E G a H i K tr fl wh k t := by
  obtain ⟨⟨m1, m2, m3⟩, m4, m5, ⟨m6, m7, m8⟩, m9, m10⟩ := hM
  obtain ⟨f1, f2⟩ := h
  have e := (f2 156 (by omega)).1
  refine ⟨⟨md_r f1 (f2 156 (by omega)).2.2 m1, by rw [e]; exact m2, fun q => ⟨ml_c (f2 159 (by omega)).1 (m3 q).1, rw_c (f2 161 (by omega)).1 (m3 q).2⟩⟩, ma_c (f2 162 (by omega)).1 (by rw [e]) m4, mi_c (f2 163 (by omega)).1 (by rw [e]) m5, ⟨by rw [e]; exact m6, by rw [e]; exact m7, fun q => by rw [e]; exact m8 q⟩, by rw [e]; exact m9, fun j hj => by rw [(f2 157 (by omega)).1]; exact m10 j hj⟩
theorem pln_c (h0 : u2.2.1 0 14 = u.2.1 0 14) (h1 : u2.2.1 43 = u.2.1 43) (h2 : u2.2.2.1 43 = u.2.2.1 43) (h3 : u2.2.1 48 = u.2.1 48) (hg : g_ro G2 = g_ro G) (h : PLN u hs V G) : PLN u2 hs V G2 := by
  rcases h with h | ⟨h4, h5, h6⟩
  · exact Or.inl (h0.trans h)
  · refine Or.inr ⟨h0.trans h4, h5, ?_⟩
    rw [hg]
    exact bs_c h1 h2 h3 h6
theorem ci_fr (h : MFr u u2) (hC : CI u hs V G a H i K tr fl wh k t) : CI u2 hs V G a H i K tr fl wh k t := by
  obtain ⟨⟨tv, ⟨c1, c2, c3, c4, ⟨g1, g2, g3, g4⟩, c5⟩, c6⟩, ⟨v1, v2⟩, ⟨σ, c7⟩, c8, c9, ⟨c10, c11, c12⟩, c13, c14⟩ := hC
  obtain ⟨f1, f2, f3⟩ := h
  have e : u2.2.1 0 = u.2.1 0 := (f3 0 (by omega)).1
  have r : ∀ x, u2.2.2.2 x = u.2.2.2 x := fun x => by rw [f2]
  have e2 : u2.2.1 2 = u.2.1 2 := (f3 2 (by omega)).1
  refine ⟨⟨tv, ⟨cl_r f1 (fun x j _ => by rw [f2]) c1, by rw [f2]; exact c2, c3, by rw [e]; exact c4, ⟨gok_r f1 (r _) g1, gok_r f1 (r _) g2, gok_r f1 (r _) g3, gok_r f1 (r _) g4⟩, fun q => ⟨vl_r f1 (r _) (fun x h1 h2 => (f3 x (by omega)).1) (c5 q).1, gd_r f1 (r _) (fun x h1 h2 => (f3 x (by omega)).1) (c5 q).2⟩⟩, by rw [f2]; exact c6⟩, ⟨vok_r f1 (r _) v1, vok_r f1 (r _) v2⟩, ⟨σ, ca_c c7 f1 (fun x _ => r x) (fun x h1 h2 => (f3 x (by omega)).1) (by rw [e])⟩, ci_c c8 f1 (fun x _ => r x) (fun x h1 h2 => (f3 x (by omega)).1) (by rw [e]), pln_c (by rw [e]) (f3 43 (by omega)).1 (f3 43 (by omega)).2 (f3 48 (by omega)).1 rfl c9, ⟨by rw [e]; exact c10, by rw [e2]; exact c11, fun q => by rw [e2]; exact c12 q⟩, by rw [e]; exact c13, fun j hj => by rw [(f3 1 (by omega)).1]; exact c14 j hj⟩
theorem cs_fr (h : csame u u2 t2) : CFr u u2 := ⟨h.1, fun x hx => ⟨(h.2.2.1 x (by omega) (by unfold scr; omega)).1, (h.2.2.1 x (by omega) (by unfold scr; omega)).2, by rw [h.2.1]⟩⟩
theorem ps_fr (h : psame u u2 t2) : CFr u u2 := ⟨h.1, fun x hx => ⟨h.2.2.1 x (by omega) (by omega), h.2.2.2.1 x (by omega), by funext j; exact h.2.1 x j (by omega)⟩⟩
theorem cf_fr (h : cfr u u2) : CFr u u2 := ⟨h.1, fun x hx => ⟨h.2.2.1 x (by omega) (by omega), by rw [h.2.2.2.1], h.2.1 x (by omega)⟩⟩
theorem ms_fr (h : msame u u2 t2) : MFr u u2 := ⟨h.1, h.2.1, fun x hx => ⟨h.2.2.1 x (by omega) (by unfold mscr; omega), h.2.2.2.1 x (by omega) (by unfold mscr; omega)⟩⟩
theorem mf_fr (h : mfr u u2) : MFr u u2 := ⟨h.1, h.2.1, fun x hx => ⟨h.2.2.1 x (by omega) (by omega), by rw [h.2.2.2.1]⟩⟩
/-- a reading leaves the class's half as it was, but for trouble -/
theorem ci_cs (h : csame u u2 t2) (ht : ¬ t2 = nI 4) (hC : CI u hs V G a H i K tr fl wh k t) : CI u2 hs V G a H i K t2 fl wh k t := by
  obtain ⟨⟨tv, cw, c6⟩, ⟨v1, v2⟩, ⟨σ, c7⟩, c8, c9, ⟨c10, c11, c12⟩, c13, c14⟩ := hC
  have hcw := cs_cw h cw
  obtain ⟨f1, f2, f3, f4, f5⟩ := h
  have r : ∀ x, u2.2.2.2 x = u.2.2.2 x := fun x => by rw [f2]
  have o : ∀ x, 0 < x → ¬ scr x → u2.2.1 x = u.2.1 x := fun x h1 h2 => (f3 x h1 h2).1
  have e2 : u2.2.1 2 = u.2.1 2 := o 2 (by omega) (by unfold scr; omega)
  refine ⟨⟨tv, hcw, by rw [f2]; exact c6⟩, ⟨vok_r f1 (r _) v1, vok_r f1 (r _) v2⟩, ⟨σ, ca_c c7 f1 (fun x _ => r x) (fun x h1 h2 => o x (by omega) (by unfold scr; omega)) (f4 9 (by omega))⟩, ci_c c8 f1 (fun x _ => r x) (fun x h1 h2 => o x (by omega) (by unfold scr; omega)) (f4 11 (by omega)), pln_c (f4 14 (by omega)) (o 43 (by omega) (by unfold scr; omega)) (f3 43 (by omega) (by unfold scr; omega)).2 (o 48 (by omega) (by unfold scr; omega)) rfl c9, ⟨f5, by rw [e2]; exact c11, fun q => absurd q ht⟩, by rw [f4 1 (by omega)]; exact c13, fun j hj => by rw [o 1 (by omega) (by unfold scr; omega)]; exact c14 j hj⟩
theorem ci_ps (h : psame u u2 t2) (hN : PLN u2 hs V G) (ht : ¬ t2 = nI 4) (hC : CI u hs V G a H i K tr fl wh k t) : CI u2 hs V G a H i K t2 fl wh k t := by
  obtain ⟨⟨tv, cw, c6⟩, ⟨v1, v2⟩, ⟨σ, c7⟩, c8, c9, ⟨c10, c11, c12⟩, c13, c14⟩ := hC
  have hcw := ps_cw h cw
  obtain ⟨f1, f2, f3, f4, f5, f6⟩ := h
  have r : ∀ x, x ≠ 43 → u2.2.2.2 x = u.2.2.2 x := fun x hx => by funext j; exact f2 x j (by omega)
  have e2 : u2.2.1 2 = u.2.1 2 := f3 2 (by omega) (by omega)
  refine ⟨⟨tv, hcw, by rw [r 0 (by omega)]; exact c6⟩, ⟨vok_r f1 (r _ (by omega)) v1, vok_r f1 (r _ (by omega)) v2⟩, ⟨σ, ca_c c7 f1 (fun x hx => r x (by omega)) (fun x h1 h2 => f3 x (by omega) (by omega)) (f5 9 (by omega) (by omega))⟩, ci_c c8 f1 (fun x hx => r x (by omega)) (fun x h1 h2 => f3 x (by omega) (by omega)) (f5 11 (by omega) (by omega)), hN, ⟨f6, by rw [e2]; exact c11, fun q => absurd q ht⟩, by rw [f5 1 (by omega) (by omega)]; exact c13, fun j hj => by rw [f3 1 (by omega) (by omega)]; exact c14 j hj⟩
theorem mi_ms (h : msame u u2 t2) (ht : ¬ t2 = nI 4) (hM : MI u hs V E G a H i K tr fl wh k t) : MI u2 hs V E G a H i K t2 fl wh k t := by
  obtain ⟨mw, m4, m5, ⟨m6, m7, m8⟩, m9, m10⟩ := hM
  have hmw := ms_mw h mw
  obtain ⟨f1, f2, f3, f4, f5, f6⟩ := h
  refine ⟨hmw, ma_c (f3 162 (by omega) (by unfold mscr; omega)) (f5 20 (by omega) (by omega) (by omega) (by omega) (by omega) (by omega)) m4, mi_c (f3 163 (by omega) (by unfold mscr; omega)) (f5 21 (by omega) (by omega) (by omega) (by omega) (by omega) (by omega)) m5, ⟨f6, by rw [f5 9 (by omega) (by omega) (by omega) (by omega) (by omega) (by omega)]; exact m7, fun q => absurd q ht⟩, by rw [f5 2 (by omega) (by omega) (by omega) (by omega) (by omega) (by omega)]; exact m9, fun j hj => by rw [f3 157 (by omega) (by unfold mscr; omega)]; exact m10 j hj⟩
end
