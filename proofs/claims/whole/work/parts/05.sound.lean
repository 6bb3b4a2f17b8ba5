section AMS
variable {p : Program} {l : Launch} {e : Env} {R : Room} {s : State} {m : MethodId} {args : Array Value} {below : List Frame} {meth : Method} {c : Code} {g : am_Gl} {own : String} {cc : ByteArray} {nL n0 z0 nF zF fr lo : Nat} {Q : State → Prop}
def am_G (p : Program) (l : Launch) (e : Env) (R : Room) (s : State) (m : MethodId) (args : Array Value) (below : List Frame) (meth : Method) (c : Code) (g : am_Gl) (nL n0 z0 nF zF : Nat) (Q : State → Prop) : Nat → am_C → Prop := fun pc cf =>
  (am_len cf.2.2 ≤ nF ∧ am_wt cf.2.2 ≤ zF) ∧ ∀ (H : Heap) (locs : List Loc) (ls : Array Slot), am_lv g ls nL cf.1 → am_R g cf.2.2 H → va_S (am_A g) s.heap H locs → n0 ≤ am_len cf.2.2 → z0 ≤ am_wt cf.2.2 →
    W p l e R s m args below meth c H locs (am_len cf.2.2 - n0) (am_wt cf.2.2 - z0) Q (F0 m pc ls (cf.2.1.map (am_rn g)))
def am_Cx (p : Program) (l : Launch) (e : Env) (R : Room) (s : State) (m : MethodId) (args : Array Value) (below : List Frame) (meth : Method) (c : Code) (g : am_Gl) (own : String) (cc : ByteArray) (nL n0 z0 nF zF fr lo : Nat) : Prop :=
  p.tables.exec = Jvm.exec ∧ c.code = cc ∧ c.maxLocals = nL ∧ s.vm.findClass own = some m.cls ∧ (∀ w ∈ am_tbl, w.before args s = true) ∧ meth.locks = false ∧ am_K g s ∧ l.stackTraces = false ∧ (fr ≤ R.frames ∧ lo ≤ R.locals ∧ nF - n0 ≤ R.cells ∧ zF - z0 ≤ R.slots)
/-- an instruction that leaves the store as it is -/
theorem am_pure {pc pc2 : Nat} {i : am_I} (h : ∀ L st u cf2, i (L, st, u) = some cf2 → cf2.2.2 = u ∧ ∀ (H : Heap) (locs : List Loc) (ls : Array Slot) (cells slots : Nat), am_lv g ls nL L →
      (∀ ls2, am_lv g ls2 nL cf2.1 → W p l e R s m args below meth c H locs cells slots Q (F0 m pc2 ls2 (cf2.2.1.map (am_rn g)))) → W p l e R s m args below meth c H locs cells slots Q (F0 m pc ls (st.map (am_rn g)))) :
    am_SI (am_G p l e R s m args below meth c g nL n0 z0 nF zF Q) pc pc2 i := by
  intro cf cf2 hi hG
  obtain ⟨L, st, u⟩ := cf
  obtain ⟨h1, h2⟩ := h L st u cf2 hi
  obtain ⟨L2, st2, u2⟩ := cf2
  dsimp only at h1
  subst h1
  refine ⟨hG.1, fun H locs ls hl hR hS hn hz => h2 H locs ls _ _ hl fun ls2 hl2 => hG.2 H locs ls2 hl2 hR hS hn hz⟩
theorem am_pureB {pc pt pf : Nat} {b : am_B} (h : ∀ L st u x cf2, b (L, st, u) = some (x, cf2) → cf2.2.2 = u ∧ cf2.1 = L ∧ ∀ (H : Heap) (locs : List Loc) (ls : Array Slot) (cells slots : Nat),
      (x = true → W p l e R s m args below meth c H locs cells slots Q (F0 m pt ls (cf2.2.1.map (am_rn g)))) → (x = false → W p l e R s m args below meth c H locs cells slots Q (F0 m pf ls (cf2.2.1.map (am_rn g)))) → W p l e R s m args below meth c H locs cells slots Q (F0 m pc ls (st.map (am_rn g)))) :
    am_SB (am_G p l e R s m args below meth c g nL n0 z0 nF zF Q) pc pt pf b := by
  intro cf x cf2 hb ht hf
  obtain ⟨L, st, u⟩ := cf
  obtain ⟨h1, h1', h2⟩ := h L st u x cf2 hb
  obtain ⟨L2, st2, u2⟩ := cf2
  dsimp only at h1 h1'
  subst h1; subst h1'
  refine ⟨?_, fun H locs ls hl hR hS hn hz => h2 H locs ls _ _ (fun hx => (ht hx).2 H locs ls hl hR hS hn hz) (fun hx => (hf hx).2 H locs ls hl hR hS hn hz)⟩
  cases x with
  | true => exact (ht rfl).1
  | false => exact (hf rfl).1
-- constants
theorem so_iconst (C : am_Cx p l e R s m args below meth c g own cc nL n0 z0 nF zF fr lo) {pc : Nat} {n : Int} {v : Int32} (hd : decode cc pc = .ok (.iconst n, 1)) (hv : Int32.ofInt n = v) : am_SI (am_G p l e R s m args below meth c g nL n0 z0 nF zF Q) pc (pc + 1) (i_ic v) :=
  am_pure fun L st u cf2 h => by
    cases h
    exact ⟨rfl, fun H locs ls cells slots hl k => lv_iconst C.1 C.2.1 hd hv (k ls hl)⟩
theorem so_bipush (C : am_Cx p l e R s m args below meth c g own cc nL n0 z0 nF zF fr lo) {pc : Nat} {n : Int} {v : Int32} (hd : decode cc pc = .ok (.bipush n, 2)) (hv : (Int8.ofInt n).toInt32 = v) : am_SI (am_G p l e R s m args below meth c g nL n0 z0 nF zF Q) pc (pc + 2) (i_ic v) :=
  am_pure fun L st u cf2 h => by
    cases h
    exact ⟨rfl, fun H locs ls cells slots hl k => lv_bipush C.1 C.2.1 hd hv (k ls hl)⟩
theorem so_sipush (C : am_Cx p l e R s m args below meth c g own cc nL n0 z0 nF zF fr lo) {pc : Nat} {n : Int} {v : Int32} (hd : decode cc pc = .ok (.sipush n, 3)) (hv : (Int16.ofInt n).toInt32 = v) : am_SI (am_G p l e R s m args below meth c g nL n0 z0 nF zF Q) pc (pc + 3) (i_ic v) :=
  am_pure fun L st u cf2 h => by
    cases h
    exact ⟨rfl, fun H locs ls cells slots hl k => lv_sipush C.1 C.2.1 hd hv (k ls hl)⟩
theorem so_ldc (C : am_Cx p l e R s m args below meth c g own cc nL n0 z0 nF zF fr lo) {pc index : Nat} {v : Int32} (hd : decode cc pc = .ok (.ldc index, 2)) (hw : Cond.constant own index v ∈ am_tbl) : am_SI (am_G p l e R s m args below meth c g nL n0 z0 nF zF Q) pc (pc + 2) (i_ic v) :=
  am_pure fun L st u cf2 h => by
    cases h
    exact ⟨rfl, fun H locs ls cells slots hl k => lv_ldc C.1 C.2.1 C.2.2.2.1 (C.2.2.2.2.1 _ hw) hd (k ls hl)⟩
theorem so_ldcw (C : am_Cx p l e R s m args below meth c g own cc nL n0 z0 nF zF fr lo) {pc index : Nat} {v : Int32} (hd : decode cc pc = .ok (.ldc_w index, 3)) (hw : Cond.constant own index v ∈ am_tbl) : am_SI (am_G p l e R s m args below meth c g nL n0 z0 nF zF Q) pc (pc + 3) (i_ic v) :=
  am_pure fun L st u cf2 h => by
    cases h
    exact ⟨rfl, fun H locs ls cells slots hl k => lv_ldcw C.1 C.2.1 C.2.2.2.1 (C.2.2.2.2.1 _ hw) hd (k ls hl)⟩
theorem so_lconst (C : am_Cx p l e R s m args below meth c g own cc nL n0 z0 nF zF fr lo) {pc : Nat} {n : Fin 2} {v : Int64} (hd : decode cc pc = .ok (.lconst n, 1)) (hv : Int64.ofNat (n : Nat) = v) : am_SI (am_G p l e R s m args below meth c g nL n0 z0 nF zF Q) pc (pc + 1) (i_lc v) :=
  am_pure fun L st u cf2 h => by
    cases h
    exact ⟨rfl, fun H locs ls cells slots hl k => lv_lconst C.1 C.2.1 hd hv (k ls hl)⟩
theorem so_ldc2 (C : am_Cx p l e R s m args below meth c g own cc nL n0 z0 nF zF fr lo) {pc index : Nat} {v : Int64} (hd : decode cc pc = .ok (.ldc2_w index, 3)) (hw : Cond.constantLong own index v ∈ am_tbl) : am_SI (am_G p l e R s m args below meth c g nL n0 z0 nF zF Q) pc (pc + 3) (i_lc v) :=
  am_pure fun L st u cf2 h => by
    cases h
    exact ⟨rfl, fun H locs ls cells slots hl k => lv_ldc2 C.1 C.2.1 C.2.2.2.1 (C.2.2.2.2.1 _ hw) hd (k ls hl)⟩
theorem so_ldcS (C : am_Cx p l e R s m args below meth c g own cc nL n0 z0 nF zF fr lo) {pc index i : Nat} {tx : String} (hd : decode cc pc = .ok (.ldc index, 2)) (hw : (own, index, tx, i) ∈ am_sr) : am_SI (am_G p l e R s m args below meth c g nL n0 z0 nF zF Q) pc (pc + 2) (i_sg i) :=
  am_pure fun L st u cf2 h => by
    cases h
    refine ⟨rfl, fun H locs ls cells slots hl k => va_ldcS (tx := tx) (q := am_rho g (1000000 + i)) C.1 C.2.1 C.2.2.2.1 ?_ hd (k ls hl)⟩
    have e : am_rho g (1000000 + i) = g.2.2.2.1 i := by
      unfold am_rho
      rw [if_neg (by omega), Nat.add_sub_cancel_left]
    rw [e]
    exact C.2.2.2.2.2.2.1.2.2.1 _ hw
-- locals
theorem so_iload_n (C : am_Cx p l e R s m args below meth c g own cc nL n0 z0 nF zF fr lo) {pc k : Nat} {n : Fin 4} (hd : decode cc pc = .ok (.iload_n n, 1)) (hk : (n : Nat) = k) : am_SI (am_G p l e R s m args below meth c g nL n0 z0 nF zF Q) pc (pc + 1) (i_il k) :=
  am_pure fun L st u cf2 h => by
    simp only [i_il] at h
    split at h
    · next x hx =>
      cases h
      exact ⟨rfl, fun H locs ls cells slots hl k => lv_iload_n C.1 C.2.1 hd hk (hl.get hx) (k ls hl)⟩
    · cases h
theorem so_iload (C : am_Cx p l e R s m args below meth c g own cc nL n0 z0 nF zF fr lo) {pc k : Nat} (hd : decode cc pc = .ok (.iload k, 2)) : am_SI (am_G p l e R s m args below meth c g nL n0 z0 nF zF Q) pc (pc + 2) (i_il k) :=
  am_pure fun L st u cf2 h => by
    simp only [i_il] at h
    split at h
    · next x hx =>
      cases h
      exact ⟨rfl, fun H locs ls cells slots hl k => lv_iload C.1 C.2.1 hd (hl.get hx) (k ls hl)⟩
    · cases h
theorem so_lload_n (C : am_Cx p l e R s m args below meth c g own cc nL n0 z0 nF zF fr lo) {pc k : Nat} {n : Fin 4} (hd : decode cc pc = .ok (.lload_n n, 1)) (hk : (n : Nat) = k) : am_SI (am_G p l e R s m args below meth c g nL n0 z0 nF zF Q) pc (pc + 1) (i_ll k) :=
  am_pure fun L st u cf2 h => by
    simp only [i_ll] at h
    split at h
    · next x hx =>
      cases h
      exact ⟨rfl, fun H locs ls cells slots hl k => lv_lload_n C.1 C.2.1 hd hk (hl.get hx) (k ls hl)⟩
    · cases h
theorem so_lload (C : am_Cx p l e R s m args below meth c g own cc nL n0 z0 nF zF fr lo) {pc k : Nat} (hd : decode cc pc = .ok (.lload k, 2)) : am_SI (am_G p l e R s m args below meth c g nL n0 z0 nF zF Q) pc (pc + 2) (i_ll k) :=
  am_pure fun L st u cf2 h => by
    simp only [i_ll] at h
    split at h
    · next x hx =>
      cases h
      exact ⟨rfl, fun H locs ls cells slots hl k => lv_lload C.1 C.2.1 hd (hl.get hx) (k ls hl)⟩
    · cases h
theorem so_aload_n (C : am_Cx p l e R s m args below meth c g own cc nL n0 z0 nF zF fr lo) {pc k : Nat} {n : Fin 4} (hd : decode cc pc = .ok (.aload_n n, 1)) (hk : (n : Nat) = k) : am_SI (am_G p l e R s m args below meth c g nL n0 z0 nF zF Q) pc (pc + 1) (i_al k) :=
  am_pure fun L st u cf2 h => by
    simp only [i_al] at h
    split at h
    · next x hx =>
      cases h
      exact ⟨rfl, fun H locs ls cells slots hl k => lv_aload_n C.1 C.2.1 hd hk (hl.get hx) (k ls hl)⟩
    · cases h
theorem so_aload (C : am_Cx p l e R s m args below meth c g own cc nL n0 z0 nF zF fr lo) {pc k : Nat} (hd : decode cc pc = .ok (.aload k, 2)) : am_SI (am_G p l e R s m args below meth c g nL n0 z0 nF zF Q) pc (pc + 2) (i_al k) :=
  am_pure fun L st u cf2 h => by
    simp only [i_al] at h
    split at h
    · next x hx =>
      cases h
      exact ⟨rfl, fun H locs ls cells slots hl k => lv_aload C.1 C.2.1 hd (hl.get hx) (k ls hl)⟩
    · cases h
theorem so_istore_n (C : am_Cx p l e R s m args below meth c g own cc nL n0 z0 nF zF fr lo) {pc k : Nat} {n : Fin 4} (hd : decode cc pc = .ok (.istore_n n, 1)) (hk : (n : Nat) = k) (hn : k < nL) : am_SI (am_G p l e R s m args below meth c g nL n0 z0 nF zF Q) pc (pc + 1) (i_is k) :=
  am_pure fun L st u cf2 h => by
    simp only [i_is] at h
    split at h
    · cases h
      exact ⟨rfl, fun H locs ls cells slots hl k => lv_istore_n C.1 C.2.1 hd hk hl.2 hn rfl (fun ls2 h2 => k ls2 (am_lv.st1 hl.1 h2))⟩
    · cases h
theorem so_istore (C : am_Cx p l e R s m args below meth c g own cc nL n0 z0 nF zF fr lo) {pc k : Nat} (hd : decode cc pc = .ok (.istore k, 2)) (hn : k < nL) : am_SI (am_G p l e R s m args below meth c g nL n0 z0 nF zF Q) pc (pc + 2) (i_is k) :=
  am_pure fun L st u cf2 h => by
    simp only [i_is] at h
    split at h
    · cases h
      exact ⟨rfl, fun H locs ls cells slots hl k => lv_istore C.1 C.2.1 hd hl.2 hn rfl (fun ls2 h2 => k ls2 (am_lv.st1 hl.1 h2))⟩
    · cases h
theorem so_astore_n (C : am_Cx p l e R s m args below meth c g own cc nL n0 z0 nF zF fr lo) {pc k : Nat} {n : Fin 4} (hd : decode cc pc = .ok (.astore_n n, 1)) (hk : (n : Nat) = k) (hn : k < nL) : am_SI (am_G p l e R s m args below meth c g nL n0 z0 nF zF Q) pc (pc + 1) (i_as k) :=
  am_pure fun L st u cf2 h => by
    simp only [i_as] at h
    split at h
    · cases h
      exact ⟨rfl, fun H locs ls cells slots hl k => lv_astore_n C.1 C.2.1 hd hk hl.2 hn rfl (fun ls2 h2 => k ls2 (am_lv.st1 hl.1 h2))⟩
    · cases h
theorem so_astore (C : am_Cx p l e R s m args below meth c g own cc nL n0 z0 nF zF fr lo) {pc k : Nat} (hd : decode cc pc = .ok (.astore k, 2)) (hn : k < nL) : am_SI (am_G p l e R s m args below meth c g nL n0 z0 nF zF Q) pc (pc + 2) (i_as k) :=
  am_pure fun L st u cf2 h => by
    simp only [i_as] at h
    split at h
    · cases h
      exact ⟨rfl, fun H locs ls cells slots hl k => lv_astore C.1 C.2.1 hd hl.2 hn rfl (fun ls2 h2 => k ls2 (am_lv.st1 hl.1 h2))⟩
    · cases h
theorem so_lstore_n (C : am_Cx p l e R s m args below meth c g own cc nL n0 z0 nF zF fr lo) {pc k : Nat} {n : Fin 4} (hd : decode cc pc = .ok (.lstore_n n, 1)) (hk : (n : Nat) = k) (hn : k + 1 < nL) : am_SI (am_G p l e R s m args below meth c g nL n0 z0 nF zF Q) pc (pc + 1) (i_ls k) :=
  am_pure fun L st u cf2 h => by
    simp only [i_ls] at h
    split at h
    · cases h
      exact ⟨rfl, fun H locs ls cells slots hl k => lv_lstore_n C.1 C.2.1 hd hk hl.2 hn rfl (fun ls2 h2 => k ls2 (am_lv.st2 hl.1 h2))⟩
    · cases h
theorem so_lstore (C : am_Cx p l e R s m args below meth c g own cc nL n0 z0 nF zF fr lo) {pc k : Nat} (hd : decode cc pc = .ok (.lstore k, 2)) (hn : k + 1 < nL) : am_SI (am_G p l e R s m args below meth c g nL n0 z0 nF zF Q) pc (pc + 2) (i_ls k) :=
  am_pure fun L st u cf2 h => by
    simp only [i_ls] at h
    split at h
    · cases h
      exact ⟨rfl, fun H locs ls cells slots hl k => lv_lstore C.1 C.2.1 hd hl.2 hn rfl (fun ls2 h2 => k ls2 (am_lv.st2 hl.1 h2))⟩
    · cases h
theorem so_iinc (C : am_Cx p l e R s m args below meth c g own cc nL n0 z0 nF zF fr lo) {pc k : Nat} {n : Int} {v : Int32} (hd : decode cc pc = .ok (.iinc k n, 3)) (hv : Int32.ofInt n = v) (hn : k < nL) : am_SI (am_G p l e R s m args below meth c g nL n0 z0 nF zF Q) pc (pc + 3) (i_inc k v) :=
  am_pure fun L st u cf2 h => by
    simp only [i_inc] at h
    split at h
    · next x hx =>
      cases h
      subst hv
      obtain ⟨q, hq⟩ := List.getElem?_of_mem (am_ll_mem (g := g) (w := .int x).mpr ⟨_, hx, rfl⟩)
      exact ⟨rfl, fun H locs ls cells slots hl k => lv_iinc C.1 C.2.1 hd hl.2 hq rfl hn rfl (fun ls2 h2 => k ls2 (am_lv.st1 hl.1 h2))⟩
    · cases h
end AMS
