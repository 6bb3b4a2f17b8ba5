section AMU
variable {p : Program} {l : Launch} {e : Env} {R : Room} {s : State} {m : MethodId} {args : Array Value} {below : List Frame} {meth : Method} {c : Code} {g : am_Gl} {own : String} {cc : ByteArray} {nL n0 z0 nF zF fr lo : Nat} {Q : State → Prop}
theorem am_cls {w : am_St} {k t : Nat} (h : (w.1.1[k]?).map Prod.fst = some t) : ∃ n, w.1.1[k]? = some (t, n) := by
  cases hx : w.1.1[k]? with
  | none => simp [hx] at h
  | some q =>
    obtain ⟨a, n⟩ := q
    simp [hx] at h
    exact ⟨n, by rw [h]⟩
/-- what the generator decides of a field: its class's number, its place, its sort, the link -/
def am_fl (own : String) (index ci : Nat) (C : String) (T : u_T) (N k t : Nat) (ty : FieldType) : Prop :=
  am_cl[ci]? = some (C, T, N) ∧ k < N ∧ (am_ft ci)[k]? = some t ∧ (am_ft ci).length = N ∧ Cond.fieldLink own index C (T k).2.1 (T k).2.2.1 ∈ am_tbl ∧ (T k).1 = C ∧ (∀ w ∈ u_ws C T N, w ∈ am_tbl) ∧ parseFieldDescriptor (T k).2.2.1 = some ty
theorem am_cell_obj {w : am_St} {k ci n : Nat} (h : w.1.1[k]? = some (ci + 4, n)) : (am_ws g w)[k]? = some (am_rho g k, .inr (ci, (am_ft ci).mapIdx (fun j t => am_fv g w k t j))) := am_ws_at h
theorem am_fv_at {w : am_St} {k ci j t : Nat} (h : (am_ft ci)[j]? = some t) : ((am_ft ci).mapIdx (fun j t => am_fv g w k t j))[j]? = some (am_fv g w k t j) := by rw [List.getElem?_mapIdx, h]; rfl
theorem am_get {cells slots pc index ci j t a : Nat} {C : String} {T : u_T} {N : Nat} {ty : FieldType} {w : am_St} {H : Heap} {locs : List Loc} {ls : Array Slot} {rest : List Value} (X : am_Cx p l e R s m args below meth c g own cc nL n0 z0 nF zF fr lo) (F : am_fl own index ci C T N j t ty) (hd : decode cc pc = .ok (.getfield index, 3)) (hk : (w.1.1[a]?).map Prod.fst = some (ci + 4)) (hR : am_R g w H)
    (kk : W p l e R s m args below meth c H locs cells slots Q (F0 m (pc + 3) ls (am_fv g w a t j :: rest))) : W p l e R s m args below meth c H locs cells slots Q (F0 m pc ls (.ref (am_rho g a) :: rest)) := by
  obtain ⟨n, hn⟩ := am_cls hk
  obtain ⟨f1, f2, f3, f4, f5, f6, f7, f8⟩ := F
  exact va_get (D := g.1) (ci := ci) (C := C) (T := T) (N := N) X.1 X.2.1 X.2.2.2.2.1 f7 X.2.2.2.1 X.2.2.2.2.2.2.1.1 hR.1 a (am_cell_obj hn) f1 j f2 (X.2.2.2.2.1 _ f5) (fun x hx => by rw [f6] at hx; exact hx) (am_fv_at f3) hd kk
theorem so_geti (C : am_Cx p l e R s m args below meth c g own cc nL n0 z0 nF zF fr lo) {pc index ci j t : Nat} {K : String} {T : u_T} {N : Nat} {ty : FieldType} (F : am_fl own index ci K T N j t ty) (ht : t = 0 ∨ t = 3) (hd : decode cc pc = .ok (.getfield index, 3)) : am_SI (am_G p l e R s m args below meth c g nL n0 z0 nF zF Q) pc (pc + 3) (i_gi ci j) := by
  intro cf cf2 h hG
  obtain ⟨L, st, u⟩ := cf
  simp only [i_gi] at h
  split at h
  · split at h
    · next hk =>
      cases h
      refine ⟨hG.1, fun H locs ls hl hR hS hn hz => am_get C F hd hk hR ?_⟩
      have := hG.2 H locs ls hl hR hS hn hz
      rcases ht with rfl | rfl <;> exact this
    · cases h
  · cases h
theorem so_getl (C : am_Cx p l e R s m args below meth c g own cc nL n0 z0 nF zF fr lo) {pc index ci j : Nat} {K : String} {T : u_T} {N : Nat} {ty : FieldType} (F : am_fl own index ci K T N j 1 ty) (hd : decode cc pc = .ok (.getfield index, 3)) : am_SI (am_G p l e R s m args below meth c g nL n0 z0 nF zF Q) pc (pc + 3) (i_gl ci j) := by
  intro cf cf2 h hG
  obtain ⟨L, st, u⟩ := cf
  simp only [i_gl] at h
  split at h
  · split at h
    · next hk =>
      cases h
      exact ⟨hG.1, fun H locs ls hl hR hS hn hz => am_get C F hd hk hR (hG.2 H locs ls hl hR hS hn hz)⟩
    · cases h
  · cases h
theorem am_rn_rf (x : Option Nat) : am_rn g (va_rf x) = va_rf (x.map (am_rho g)) := by cases x <;> rfl
theorem so_getr (C : am_Cx p l e R s m args below meth c g own cc nL n0 z0 nF zF fr lo) {pc index ci j : Nat} {K : String} {T : u_T} {N : Nat} {ty : FieldType} (F : am_fl own index ci K T N j 2 ty) (hd : decode cc pc = .ok (.getfield index, 3)) : am_SI (am_G p l e R s m args below meth c g nL n0 z0 nF zF Q) pc (pc + 3) (i_gr ci j) := by
  intro cf cf2 h hG
  obtain ⟨L, st, u⟩ := cf
  simp only [i_gr] at h
  split at h
  · split at h
    · next hk =>
      cases h
      refine ⟨hG.1, fun H locs ls hl hR hS hn hz => am_get C F hd hk hR ?_⟩
      have := hG.2 H locs ls hl hR hS hn hz
      simp only [List.map_cons, am_rn_rf] at this
      exact this
    · cases h
  · cases h
/-- the rest of what a store into a field needs -/
def am_fp (ci : Nat) (T : u_T) (N : Nat) : Prop := (∃ ty0 : Nat → FieldType, ∀ k, k < N → parseFieldDescriptor (T k).2.2.1 = some (ty0 k)) ∧ (∀ a, a < N → ∀ b, b < N → a ≠ b → (T a).2.1 ≠ (T b).2.1)
theorem am_put {cells slots pc index ci j t a : Nat} {C : String} {T : u_T} {N : Nat} {ty : FieldType} {w w2 : am_St} {H : Heap} {locs : List Loc} {ls : Array Slot} {rest : List Value} {v : Value} (X : am_Cx p l e R s m args below meth c g own cc nL n0 z0 nF zF fr lo) (F : am_fl own index ci C T N j t ty) (P : am_fp ci T N) (hfin : (T j).2.2.2 = false ∨ ((T j).2.2.2 = true ∧ meth.name = "<init>" ∧ (T j).1 = own)) (hd : decode cc pc = .ok (.putfield index, 3)) (hk : (w.1.1[a]?).map Prod.fst = some (ci + 4)) (hR : am_R g w H) (hS : va_S (am_A g) s.heap H locs)
    (hn : narrow ty v = v) (hfit : fits ty v = true) (hL : w2.1 = w.1) (ho : ∀ k, k ≠ a → ∀ kd, am_cell g w2 k kd = am_cell g w k kd) (hv : ∀ n, am_cell g w2 a (ci + 4, n) = .inr (ci, ((am_ft ci).mapIdx (fun j t => am_fv g w a t j)).set j v))
    (kk : ∀ (H1 : Heap) (locs1 : List Loc), am_R g w2 H1 → va_S (am_A g) s.heap H1 locs1 → W p l e R s m args below meth c H1 locs1 cells slots Q (F0 m (pc + 3) ls rest)) : W p l e R s m args below meth c H locs cells slots Q (F0 m pc ls (v :: .ref (am_rho g a) :: rest)) := by
  obtain ⟨n, hn2⟩ := am_cls hk
  obtain ⟨f1, f2, f3, f4, f5, f6, f7, f8⟩ := F
  obtain ⟨⟨ty0, p1⟩, p2⟩ := P
  have hD := am_D_of (g := g) hR.2.1
  have key : ∀ (H1 : Heap) (locs1 : List Loc), H1.size = H.size → va_P g.1 am_cl ((am_ws g w).set a (am_rho g a, .inr (ci, ((am_ft ci).mapIdx (fun j t => am_fv g w a t j)).set j v))) H1 → va_S (am_A g) s.heap H1 locs1 → W p l e R s m args below meth c H1 locs1 cells slots Q (F0 m (pc + 3) ls rest) := by
    intro H1 locs1 hz hP hS1
    refine kk H1 locs1 ⟨?_, by rw [hL]; exact hR.2.1, fun q => ?_⟩ hS1
    · rw [am_ws_set (u := w) (kd := (ci + 4, n)) (by rw [hL]) hn2 ho, hv n]
      exact hP
    · rw [hz, hL]
      rw [hL] at q
      exact hR.2.2 q
  have hl : j < ((am_ft ci).mapIdx (fun j t => am_fv g w a t j)).length := by rw [List.length_mapIdx, f4]; exact f2
  have hap := va_apart X.2.2.2.2.1 f7 ty0 p1 p2 X.2.2.2.2.2.2.1.1 f1 (own := own)
  obtain ⟨r, h1, cell, q1, q2, q3, q4⟩ := hR.1 a _ (am_cell_obj hn2)
  have hr : r = (C, T, N) := Option.some.inj (h1.symm.trans f1)
  subst hr
  obtain ⟨hSl, hfc, kC, hkC, hkind⟩ := X.2.2.2.2.2.2.1.1.1 ci _ f1
  obtain ⟨cf, kf, fi, f, hi, hsl⟩ := hSl j f2
  have hi2 : s.fieldFound? C (T j).2.1 (T j).2.2.1 = some (cf, kf, fi, f) := by rw [f6] at hi; exact hi
  have hlay := X.2.2.2.2.1 _ (f7 _ (u_in_lay f2))
  unfold u_lay at hlay
  have hst := (u_facts hfc hkC (u_lays X.2.2.2.2.1 f7 f2) hi).1
  rcases hfin with hfin | ⟨hfin, hin2, hdecl⟩
  · rw [if_neg (by rw [hfin]; decide)] at hlay
    have h6 := u_store hfc hkC hkind hlay hi f8 hn hfit
    refine W.putK X.1 X.2.1 (f := f) ⟨X.2.2.2.1, X.2.2.2.2.1 _ f5, ⟨_, _, _, hi2⟩, hst⟩ (by rw [q2]; exact h6) q1 q3 (by rw [hsl]; exact k2_hasslot (q4 j f2)) rfl rfl hd fun H' e1 e2 e3 => ?_
    rw [hsl] at e1 ⊢
    exact key H' _ e2 (hR.1.set hD (am_cell_obj hn2) ⟨_, f1, t_OB.to (V := updV (vp_V ((am_ft ci).mapIdx (fun j t => am_fv g w a t j))) j v) ⟨_, e1, q2, q3, t_set q4 hap f2 v⟩ (fun k _ => vp_updV_set hl v k)⟩ e3) (hS.put e2 e3 (hD.2 a _ (am_cell_obj hn2)))
  · rw [if_pos hfin] at hlay
    have hcf : m.cls = cf := by
      obtain ⟨_, _, c', _, _, _, -, -, hf', -, -, -, hown2, -⟩ := Cond.laysFinal_spec hlay
      have e1 : c' = cf := by have := hi.symm.trans hf'; simp at this; exact this.1.symm
      rw [hdecl] at hown2
      rw [← e1]; exact Option.some.inj (X.2.2.2.1.symm.trans hown2)
    have h6 := u_fits hfc hkC hkind (Or.inr hlay) hi f8 hn hfit
    refine W.putFinK X.1 X.2.1 X.2.2.2.1 (X.2.2.2.2.1 _ f5) hi2 hst hcf hin2 (by rw [q2]; exact h6) q1 q3 (by rw [hsl]; exact k2_hasslot (q4 j f2)) rfl rfl hd fun H' e1 e2 e3 => ?_
    rw [hsl] at e1 ⊢
    exact key H' _ e2 (hR.1.set hD (am_cell_obj hn2) ⟨_, f1, t_OB.to (V := updV (vp_V ((am_ft ci).mapIdx (fun j t => am_fv g w a t j))) j v) ⟨_, e1, q2, q3, t_set q4 hap f2 v⟩ (fun k _ => vp_updV_set hl v k)⟩ e3) (hS.put e2 e3 (hD.2 a _ (am_cell_obj hn2)))
end AMU
