section AMZ
variable {p : Program} {l : Launch} {e : Env} {R : Room} {s : State} {m : MethodId} {args : Array Value} {below : List Frame} {meth : Method} {c : Code} {g : am_Gl} {own : String} {cc : ByteArray} {nL n0 z0 fr lo : Nat} {r0 : Option Value} {u0 : am_St}
def am_Rt (r0 : Option Value) (u0 : am_St) : Option Value → am_St → Prop := fun r u => r = r0 ∧ u = u0
/-- where a method stands that is to return r0 and leave u0 -/
abbrev am_GM (p : Program) (l : Launch) (e : Env) (R : Room) (s : State) (m : MethodId) (args : Array Value) (below : List Frame) (meth : Method) (c : Code) (g : am_Gl) (nL n0 z0 : Nat) (r0 : Option Value) (u0 : am_St) : Nat → am_C → Prop :=
  am_G p l e R s m args below meth c g nL n0 z0 (am_len u0) (am_wt u0) (MQ below (am_Qc g r0 u0) args s (am_len u0 - n0) (am_wt u0 - z0) (am_A g))
theorem so_rv (C : am_Cx p l e R s m args below meth c g own cc nL n0 z0 (am_len u0) (am_wt u0) fr lo) (hr : meth.sig.returnType = none) {pc : Nat} (hd : decode cc pc = .ok (.return_, 1)) : am_Snd (am_GM p l e R s m args below meth c g nL n0 z0 r0 u0) (am_Rt r0 u0) pc r_v := by
  intro cf o h hat
  obtain ⟨L, st, u⟩ := cf
  simp only [r_v] at h
  split at h
  · cases h
    obtain ⟨rfl, rfl⟩ := hat
    exact ⟨⟨Nat.le_refl _, Nat.le_refl _⟩, fun H locs ls hl hR hS hn hz => W.vret C.1 C.2.1 hr (fun t ht hW => ⟨⟨rfl, by rw [ht]; exact hR⟩, hS.F ht⟩) hS.2.2 hd C.2.2.2.2.2.1⟩
  · cases h
theorem so_ri (C : am_Cx p l e R s m args below meth c g own cc nL n0 z0 (am_len u0) (am_wt u0) fr lo) (hr : meth.sig.returnType = some .int) {pc : Nat} (hd : decode cc pc = .ok (.ireturn, 1)) : am_Snd (am_GM p l e R s m args below meth c g nL n0 z0 r0 u0) (am_Rt r0 u0) pc r_i := by
  intro cf o h hat
  obtain ⟨L, st, u⟩ := cf
  simp only [r_i] at h
  split at h
  · cases h
    obtain ⟨rfl, rfl⟩ := hat
    exact ⟨⟨Nat.le_refl _, Nat.le_refl _⟩, fun H locs ls hl hR hS hn hz => W.iret C.1 C.2.1 hr (fun t ht hW => ⟨⟨rfl, by rw [ht]; exact hR⟩, hS.F ht⟩) hS.2.2 hd C.2.2.2.2.2.1⟩
  · cases h
theorem so_rz (C : am_Cx p l e R s m args below meth c g own cc nL n0 z0 (am_len u0) (am_wt u0) fr lo) (hr : meth.sig.returnType = some .boolean) {pc : Nat} (hd : decode cc pc = .ok (.ireturn, 1)) : am_Snd (am_GM p l e R s m args below meth c g nL n0 z0 r0 u0) (am_Rt r0 u0) pc r_z := by
  intro cf o h hat
  obtain ⟨L, st, u⟩ := cf
  simp only [r_z] at h
  split at h
  · split at h
    · next hx =>
      cases h
      obtain ⟨rfl, rfl⟩ := hat
      exact ⟨⟨Nat.le_refl _, Nat.le_refl _⟩, fun H locs ls hl hR hS hn hz => W.zret C.1 C.2.1 hr (by rcases hx with rfl | rfl <;> rfl) (fun t ht hW => ⟨⟨rfl, by rw [ht]; exact hR⟩, hS.F ht⟩) hS.2.2 hd C.2.2.2.2.2.1⟩
    · cases h
  · cases h
theorem so_rl (C : am_Cx p l e R s m args below meth c g own cc nL n0 z0 (am_len u0) (am_wt u0) fr lo) (hr : meth.sig.returnType = some .long) {pc : Nat} (hd : decode cc pc = .ok (.lreturn, 1)) : am_Snd (am_GM p l e R s m args below meth c g nL n0 z0 r0 u0) (am_Rt r0 u0) pc r_l := by
  intro cf o h hat
  obtain ⟨L, st, u⟩ := cf
  simp only [r_l] at h
  split at h
  · cases h
    obtain ⟨rfl, rfl⟩ := hat
    exact ⟨⟨Nat.le_refl _, Nat.le_refl _⟩, fun H locs ls hl hR hS hn hz => W.lret C.1 C.2.1 hr (fun t ht hW => ⟨⟨rfl, by rw [ht]; exact hR⟩, hS.F ht⟩) hS.2.2 hd C.2.2.2.2.2.1⟩
  · cases h
/-- what a method's code must be shown to do -/
def am_Body (y : MethodName) (cc : ByteArray) (maxL : Nat) (ret : Option FieldType) (fr lo : Nat) (f : am_F) : Prop :=
  ∀ (p : Program) (l : Launch) (e : Env) (R : Room) (s : State) (m : MethodId) (args : Array Value) (below : List Frame) (meth : Method) (c : Code) (g : am_Gl) (n0 z0 : Nat) (r0 : Option Value) (u0 : am_St),
    am_Cx p l e R s m args below meth c g y.cls cc maxL n0 z0 (am_len u0) (am_wt u0) fr lo → meth.sig.returnType = ret → meth.name = y.name → am_Snd (am_GM p l e R s m args below meth c g maxL n0 z0 r0 u0) (am_Rt r0 u0) 0 f
theorem am_M_of {y : MethodName} {cc : ByteArray} {maxL : Nat} {ret : Option FieldType} {fr lo : Nat} {f : am_F} (hy : plainName y.cls = true) (hf : am_Body y cc maxL ret fr lo f) : am_M y cc maxL ret fr lo (am_den maxL f) := by
  intro l g as u u2 r hst hd hlen hwt
  simp only [am_den] at hd
  split at hd
  · next hle =>
    split at hd
    · next q hq =>
      cases hd
      refine Met.ofW (cc := cc) (maxL := maxL) (ret := ret) hy rfl ?_
      intro p e s m args below meth c s₁ B hml hv
      obtain ⟨rfl, hR, hK⟩ := hv
      have hts := atoms_spec (ws := Cond.code y cc maxL ret :: am_tbl) B.pre
      have C : am_Cx p l e (headSpec (Cond.code y cc maxL ret :: am_tbl) { frames := fr, cells := am_len u2 - am_len u, slots := am_wt u2 - am_wt u, locals := lo }).room s m (as.map (am_rn g)).toArray below meth c g y.cls cc maxL (am_len u) (am_wt u) (am_len u2) (am_wt u2) fr lo :=
        ⟨B.exec, B.bytes, hml, findClass_of_methodNamed B.named, fun w hw => hts w (List.mem_cons_of_mem _ hw), B.notSynchronized, hK, hst, Nat.le_refl _, Nat.le_refl _, Nat.le_refl _, Nat.le_refl _⟩
      have hG := hf p l e _ s m _ below meth c g (am_len u) (am_wt u) r u2 C B.returns (name_of_methodNamed B.named B.method).1 _ _ hq ⟨rfl, rfl⟩
      rw [lg_entry_eq]
      have := hG.2 s.heap [] _ (am_lv_entry g as hle) hR va_S.rf (Nat.le_refl _) (Nat.le_refl _)
      simp only [Nat.sub_self] at this
      exact this
    · cases hd
  · cases hd
end AMZ
theorem so_ldcwS {p : Program} {l : Launch} {e : Env} {R : Room} {s : State} {m : MethodId} {args : Array Value} {below : List Frame} {meth : Method} {c : Code} {g : am_Gl} {own : String} {cc : ByteArray} {nL n0 z0 nF zF fr lo : Nat} {Q : State → Prop} (C : am_Cx p l e R s m args below meth c g own cc nL n0 z0 nF zF fr lo) {pc index i : Nat} {tx : String} (hd : decode cc pc = .ok (.ldc_w index, 3)) (hw : (own, index, tx, i) ∈ am_sr) : am_SI (am_G p l e R s m args below meth c g nL n0 z0 nF zF Q) pc (pc + 3) (i_sg i) :=
  am_pure fun L st u cf2 h => by
    cases h
    refine ⟨rfl, fun H locs ls cells slots hl k => ?_⟩
    have hZ := C.2.2.2.2.2.2.1.2.2.1 _ hw
    have e9 : am_rho g (1000000 + i) = g.2.2.2.1 i := by
      unfold am_rho
      rw [if_neg (by omega), Nat.add_sub_cancel_left]
    intro T hT X
    obtain ⟨t, a1, b1⟩ := k ls hl T hT X
    refine ⟨t, X.ldcStringW C.1 C.2.2.2.1 (text := tx) (a := am_rho g (1000000 + i)) hZ.1 (by rw [e9]; exact hZ.2) (g := F0 m pc ls (st.map (am_rn g))) rfl (by rw [C.2.1]; exact hd) t a1, b1⟩
