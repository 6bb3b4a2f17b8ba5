section AMV
variable {p : Program} {l : Launch} {e : Env} {R : Room} {s : State} {m : MethodId} {args : Array Value} {below : List Frame} {meth : Method} {c : Code} {g : am_Gl} {own : String} {cc : ByteArray} {nL n0 z0 nF zF fr lo : Nat} {Q : State → Prop}
theorem am_uI_o {u : am_St} {a j : Nat} {x : Int32} : ∀ k, k ≠ a → ∀ kd, am_cell g (am_uI u a j x) k kd = am_cell g u k kd := by
  intro k hk kd
  simp only [am_cell, am_uI, am_fv, va_up, if_neg hk]
theorem am_uJ_o {u : am_St} {a j : Nat} {x : Int64} : ∀ k, k ≠ a → ∀ kd, am_cell g (am_uJ u a j x) k kd = am_cell g u k kd := by
  intro k hk kd
  simp only [am_cell, am_uJ, am_fv, va_up, if_neg hk]
theorem am_uR_o {u : am_St} {a j : Nat} {x : Option Nat} : ∀ k, k ≠ a → ∀ kd, am_cell g (am_uR u a j x) k kd = am_cell g u k kd := by
  intro k hk kd
  simp only [am_cell, am_uR, am_fv, va_up, if_neg hk]
theorem am_set_v {ci j t : Nat} {f f2 : Nat → Nat → Value} {v : Value} (ht : (am_ft ci)[j]? = some t) (h1 : f2 j t = v) (h2 : ∀ k q, k ≠ j → f2 k q = f k q) : (am_ft ci).mapIdx f2 = ((am_ft ci).mapIdx f).set j v := by
  apply List.ext_getElem?
  intro i
  rw [List.getElem?_set, List.getElem?_mapIdx, List.getElem?_mapIdx]
  by_cases hi : j = i
  · subst hi
    rw [if_pos rfl, ht]
    simp only [Option.map_some, h1, List.length_mapIdx]
    rw [if_pos (List.getElem?_eq_some_iff.mp ht).1]
  · rw [if_neg hi]
    cases (am_ft ci)[i]? with
    | none => rfl
    | some q =>
      simp only [Option.map_some]
      rw [h2 i q (fun z => hi z.symm)]
theorem am_uI_v {u : am_St} {a j t ci : Nat} {x : Int32} (ht : (am_ft ci)[j]? = some t) (h0 : t = 0 ∨ t = 3) : ∀ n, am_cell g (am_uI u a j x) a (ci + 4, n) = .inr (ci, ((am_ft ci).mapIdx (fun j t => am_fv g u a t j)).set j (.int x)) := by
  intro n
  show Sum.inr (ci, _) = _
  congr 2
  refine am_set_v ht ?_ ?_
  · rcases h0 with rfl | rfl <;> simp [am_fv, am_uI, va_up]
  · intro k q hk
    simp only [am_fv, am_uI, va_up, if_true, if_neg hk]
theorem am_uJ_v {u : am_St} {a j ci : Nat} {x : Int64} (ht : (am_ft ci)[j]? = some 1) : ∀ n, am_cell g (am_uJ u a j x) a (ci + 4, n) = .inr (ci, ((am_ft ci).mapIdx (fun j t => am_fv g u a t j)).set j (.long x)) := by
  intro n
  show Sum.inr (ci, _) = _
  congr 2
  refine am_set_v ht ?_ ?_
  · simp [am_fv, am_uJ, va_up]
  · intro k q hk
    simp only [am_fv, am_uJ, va_up, if_true, if_neg hk]
theorem am_uR_v {u : am_St} {a j ci : Nat} {x : Nat} (ht : (am_ft ci)[j]? = some 2) : ∀ n, am_cell g (am_uR u a j (some x)) a (ci + 4, n) = .inr (ci, ((am_ft ci).mapIdx (fun j t => am_fv g u a t j)).set j (.ref (am_rho g x))) := by
  intro n
  show Sum.inr (ci, _) = _
  congr 2
  refine am_set_v ht ?_ ?_
  · simp [am_fv, am_uR, va_up, va_rf]
  · intro k q hk
    simp only [am_fv, am_uR, va_up, if_true, if_neg hk]
/-- the ways in which a field may be written -/
def am_fn (T : u_T) (j : Nat) (own : String) (meth : Method) : Prop := (T j).2.2.2 = false ∨ ((T j).2.2.2 = true ∧ meth.name = "<init>" ∧ (T j).1 = own)
theorem so_puti (C : am_Cx p l e R s m args below meth c g own cc nL n0 z0 nF zF fr lo) {pc index ci j : Nat} {K : String} {T : u_T} {N : Nat} (F : am_fl own index ci K T N j 0 .int) (P : am_fp ci T N) (hf : am_fn T j own meth) (hd : decode cc pc = .ok (.putfield index, 3)) : am_SI (am_G p l e R s m args below meth c g nL n0 z0 nF zF Q) pc (pc + 3) (i_pi ci j) := by
  intro cf cf2 h hG
  obtain ⟨L, st, u⟩ := cf
  simp only [i_pi] at h
  split at h
  · next x k r =>
    split at h
    · next hk =>
      cases h
      exact ⟨hG.1, fun H locs ls hl hR hS hn hz => am_put (w2 := am_uI u k j x) C F P hf hd hk hR hS rfl rfl rfl am_uI_o (am_uI_v F.2.2.1 (Or.inl rfl)) (fun H1 locs1 hR1 hS1 => hG.2 H1 locs1 ls hl hR1 hS1 hn hz)⟩
    · cases h
  · cases h
theorem so_putz (C : am_Cx p l e R s m args below meth c g own cc nL n0 z0 nF zF fr lo) {pc index ci j : Nat} {K : String} {T : u_T} {N : Nat} (F : am_fl own index ci K T N j 3 .boolean) (P : am_fp ci T N) (hf : am_fn T j own meth) (hd : decode cc pc = .ok (.putfield index, 3)) : am_SI (am_G p l e R s m args below meth c g nL n0 z0 nF zF Q) pc (pc + 3) (i_pz ci j) := by
  intro cf cf2 h hG
  obtain ⟨L, st, u⟩ := cf
  simp only [i_pz] at h
  split at h
  · next x k r =>
    split at h
    · next hk =>
      cases h
      obtain ⟨hk, hx⟩ := hk
      exact ⟨hG.1, fun H locs ls hl hR hS hn hz => am_put (w2 := am_uI u k j x) C F P hf hd hk hR hS (by rcases hx with rfl | rfl <;> rfl) (by rcases hx with rfl | rfl <;> rfl) rfl am_uI_o (am_uI_v F.2.2.1 (Or.inr rfl)) (fun H1 locs1 hR1 hS1 => hG.2 H1 locs1 ls hl hR1 hS1 hn hz)⟩
    · cases h
  · cases h
theorem so_putl (C : am_Cx p l e R s m args below meth c g own cc nL n0 z0 nF zF fr lo) {pc index ci j : Nat} {K : String} {T : u_T} {N : Nat} (F : am_fl own index ci K T N j 1 .long) (P : am_fp ci T N) (hf : am_fn T j own meth) (hd : decode cc pc = .ok (.putfield index, 3)) : am_SI (am_G p l e R s m args below meth c g nL n0 z0 nF zF Q) pc (pc + 3) (i_pl ci j) := by
  intro cf cf2 h hG
  obtain ⟨L, st, u⟩ := cf
  simp only [i_pl] at h
  split at h
  · next x k r =>
    split at h
    · next hk =>
      cases h
      exact ⟨hG.1, fun H locs ls hl hR hS hn hz => am_put (w2 := am_uJ u k j x) C F P hf hd hk hR hS rfl rfl rfl am_uJ_o (am_uJ_v F.2.2.1) (fun H1 locs1 hR1 hS1 => hG.2 H1 locs1 ls hl hR1 hS1 hn hz)⟩
    · cases h
  · cases h
theorem so_putr (C : am_Cx p l e R s m args below meth c g own cc nL n0 z0 nF zF fr lo) {pc index ci j : Nat} {K : String} {T : u_T} {N : Nat} {ty : FieldType} (F : am_fl own index ci K T N j 2 ty) (hty : (∃ n, ty = .object n) ∨ ∃ t, ty = .array t) (P : am_fp ci T N) (hf : am_fn T j own meth) (hd : decode cc pc = .ok (.putfield index, 3)) : am_SI (am_G p l e R s m args below meth c g nL n0 z0 nF zF Q) pc (pc + 3) (i_pr ci j) := by
  intro cf cf2 h hG
  obtain ⟨L, st, u⟩ := cf
  simp only [i_pr] at h
  split at h
  · next x k r =>
    split at h
    · next hk =>
      cases h
      exact ⟨hG.1, fun H locs ls hl hR hS hn hz => am_put (w2 := am_uR u k j (some x)) C F P hf hd hk hR hS (by rcases hty with ⟨n, rfl⟩ | ⟨t, rfl⟩ <;> rfl) (by rcases hty with ⟨n, rfl⟩ | ⟨t, rfl⟩ <;> rfl) rfl am_uR_o (am_uR_v F.2.2.1) (fun H1 locs1 hR1 hS1 => hG.2 H1 locs1 ls hl hR1 hS1 hn hz)⟩
    · cases h
  · cases h
-- rows
theorem so_iald (C : am_Cx p l e R s m args below meth c g own cc nL n0 z0 nF zF fr lo) {pc : Nat} (hd : decode cc pc = .ok (.iaload, 1)) : am_SI (am_G p l e R s m args below meth c g nL n0 z0 nF zF Q) pc (pc + 1) (i_ia 0) := by
  intro cf cf2 h hG
  obtain ⟨L, st, u⟩ := cf
  simp only [i_ia] at h
  split at h
  · split at h
    · next a n hk =>
      split at h
      · next hc =>
        obtain ⟨rfl, hin⟩ := hc
        cases h
        exact ⟨hG.1, fun H locs ls hl hR hS hn hz => va_iald C.1 C.2.1 C.2.2.2.2.2.2.1.1 hR.1 _ 0 (am_ws_at hk) rfl hin hd (hG.2 H locs ls hl hR hS hn hz)⟩
      · cases h
    · cases h
  · cases h
theorem so_bald (C : am_Cx p l e R s m args below meth c g own cc nL n0 z0 nF zF fr lo) {pc : Nat} (hd : decode cc pc = .ok (.baload, 1)) : am_SI (am_G p l e R s m args below meth c g nL n0 z0 nF zF Q) pc (pc + 1) (i_ia 1) := by
  intro cf cf2 h hG
  obtain ⟨L, st, u⟩ := cf
  simp only [i_ia] at h
  split at h
  · split at h
    · next a n hk =>
      split at h
      · next hc =>
        obtain ⟨rfl, hin⟩ := hc
        cases h
        exact ⟨hG.1, fun H locs ls hl hR hS hn hz => va_bald C.1 C.2.1 C.2.2.2.2.2.2.1.1 hR.1 _ 1 (am_ws_at hk) rfl hin hd (hG.2 H locs ls hl hR hS hn hz)⟩
      · cases h
    · cases h
  · cases h
theorem so_lald (C : am_Cx p l e R s m args below meth c g own cc nL n0 z0 nF zF fr lo) {pc : Nat} (hd : decode cc pc = .ok (.laload, 1)) : am_SI (am_G p l e R s m args below meth c g nL n0 z0 nF zF Q) pc (pc + 1) i_la := by
  intro cf cf2 h hG
  obtain ⟨L, st, u⟩ := cf
  simp only [i_la] at h
  split at h
  · split at h
    · next a n hk =>
      split at h
      · next hc =>
        obtain ⟨rfl, hin⟩ := hc
        cases h
        exact ⟨hG.1, fun H locs ls hl hR hS hn hz => va_lald C.1 C.2.1 C.2.2.2.2.2.2.1.1 hR.1 _ 2 (am_ws_at hk) rfl hin hd (hG.2 H locs ls hl hR hS hn hz)⟩
      · cases h
    · cases h
  · cases h
theorem so_aald (C : am_Cx p l e R s m args below meth c g own cc nL n0 z0 nF zF fr lo) {pc : Nat} (hd : decode cc pc = .ok (.aaload, 1)) : am_SI (am_G p l e R s m args below meth c g nL n0 z0 nF zF Q) pc (pc + 1) i_aa := by
  intro cf cf2 h hG
  obtain ⟨L, st, u⟩ := cf
  simp only [i_aa] at h
  split at h
  · split at h
    · next a n hk =>
      split at h
      · next hc =>
        obtain ⟨rfl, hin⟩ := hc
        cases h
        refine ⟨hG.1, fun H locs ls hl hR hS hn hz => va_aldq C.1 C.2.1 C.2.2.2.2.2.2.1.1 hR.1 _ 3 (am_ws_at hk) rfl hin hd ?_⟩
        have := hG.2 H locs ls hl hR hS hn hz
        simp only [List.map_cons, am_rn_rf] at this
        exact this
      · cases h
    · cases h
  · cases h
/-- a row's cell behind a store -/
theorem am_stored {w w2 : am_St} {H H1 : Heap} {a : Nat} {kd : Nat × Nat} {x : va_E} (hR : am_R g w H) (hk : w.1.1[a]? = some kd) (hL : w2.1 = w.1) (ho : ∀ k, k ≠ a → ∀ kd, am_cell g w2 k kd = am_cell g w k kd) (hx : am_cell g w2 a kd = x) (he : va_at g.1 am_cl (am_rho g a, x) H1) (hz : H1.size = H.size) (oq : ∀ q : Nat, q ≠ am_rho g a → H1[q]? = H[q]?) : am_R g w2 H1 := by
  refine ⟨?_, by rw [hL]; exact hR.2.1, fun q => ?_⟩
  · rw [am_ws_set (u := w) (kd := kd) (by rw [hL]) hk ho, hx]
    exact hR.1.set (am_D_of hR.2.1) (am_ws_at hk) he oq
  · rw [hz, hL]
    rw [hL] at q
    exact hR.2.2 q
theorem so_iast (C : am_Cx p l e R s m args below meth c g own cc nL n0 z0 nF zF fr lo) {pc : Nat} (hd : decode cc pc = .ok (.iastore, 1)) : am_SI (am_G p l e R s m args below meth c g nL n0 z0 nF zF Q) pc (pc + 1) i_iS := by
  intro cf cf2 h hG
  obtain ⟨L, st, u⟩ := cf
  simp only [i_iS] at h
  split at h
  · next x i k r =>
    split at h
    · next a n hk =>
      split at h
      · next hc =>
        obtain ⟨rfl, hin⟩ := hc
        cases h
        refine ⟨hG.1, fun H locs ls hl hR hS hn hz => ?_⟩
        refine W.iast C.1 C.2.1 (hR.1 k _ (am_ws_at hk)) ((C.2.2.2.2.2.2.1.1.2 0 _ rfl).1 n (fun j => .int (u.2.1 k j))) (fun q => by cases q) (by show ¬ (i < 0 ∨ (arrV _ _ _).slots.size ≤ _); rw [arrV_size]; exact hin) rfl rfl hd fun H1 e z oq => ?_
        refine hG.2 H1 _ ls hl (am_stored (w2 := am_uI u k i.toNatClampNeg x) hR hk rfl am_uI_o rfl ?_ z oq) (hS.put z oq ((am_D_of (g := g) hR.2.1).2 k _ (am_ws_at hk))) hn hz
        show H1[am_rho g k]? = some (vp_cell _ _)
        rw [e]
        show some ((arrV (g.2.1 0) n (fun j => Value.int (u.2.1 k j))).setSlot i.toNatClampNeg (.int x)) = some (arrV (g.2.1 0) n (fun j => Value.int ((am_uI u k i.toNatClampNeg x).2.1 k j)))
        rw [arrV_store]
        congr 2
        funext q
        by_cases hq : q = i.toNatClampNeg
        · subst hq
          simp [updV, va_up, am_uI]
        · simp [updV, va_up, am_uI, hq]
      · cases h
    · cases h
  · cases h
theorem so_bast (C : am_Cx p l e R s m args below meth c g own cc nL n0 z0 nF zF fr lo) {pc : Nat} (hd : decode cc pc = .ok (.bastore, 1)) : am_SI (am_G p l e R s m args below meth c g nL n0 z0 nF zF Q) pc (pc + 1) i_bS := by
  intro cf cf2 h hG
  obtain ⟨L, st, u⟩ := cf
  simp only [i_bS] at h
  split at h
  · next x i k r =>
    split at h
    · next a n hk =>
      split at h
      · next hc =>
        obtain ⟨rfl, hin⟩ := hc
        cases h
        refine ⟨hG.1, fun H locs ls hl hR hS hn hz => ?_⟩
        refine W.bast C.1 C.2.1 (hR.1 k _ (am_ws_at hk)) ((C.2.2.2.2.2.2.1.1.2 1 _ rfl).1 n (fun j => .int (u.2.1 k j))) (fun q => by cases q) (by show ¬ (i < 0 ∨ (arrV _ _ _).slots.size ≤ _); rw [arrV_size]; exact hin) rfl rfl hd fun H1 e z oq => ?_
        refine hG.2 H1 _ ls hl (am_stored (w2 := am_uI u k i.toNatClampNeg x.toInt8.toInt32) hR hk rfl am_uI_o rfl ?_ z oq) (hS.put z oq ((am_D_of (g := g) hR.2.1).2 k _ (am_ws_at hk))) hn hz
        show H1[am_rho g k]? = some (vp_cell _ _)
        rw [e]
        show some ((arrV (g.2.1 1) n (fun j => Value.int (u.2.1 k j))).setSlot i.toNatClampNeg (narrow .byte (.int x))) = some (arrV (g.2.1 1) n (fun j => Value.int ((am_uI u k i.toNatClampNeg x.toInt8.toInt32).2.1 k j)))
        rw [arrV_store]
        congr 2
        funext q
        by_cases hq : q = i.toNatClampNeg
        · subst hq
          simp [updV, va_up, am_uI, narrow]
        · simp [updV, va_up, am_uI, hq]
      · cases h
    · cases h
  · cases h
theorem so_last (C : am_Cx p l e R s m args below meth c g own cc nL n0 z0 nF zF fr lo) {pc : Nat} (hd : decode cc pc = .ok (.lastore, 1)) : am_SI (am_G p l e R s m args below meth c g nL n0 z0 nF zF Q) pc (pc + 1) i_lS := by
  intro cf cf2 h hG
  obtain ⟨L, st, u⟩ := cf
  simp only [i_lS] at h
  split at h
  · next x i k r =>
    split at h
    · next a n hk =>
      split at h
      · next hc =>
        obtain ⟨rfl, hin⟩ := hc
        cases h
        refine ⟨hG.1, fun H locs ls hl hR hS hn hz => ?_⟩
        refine W.last C.1 C.2.1 (hR.1 k _ (am_ws_at hk)) ((C.2.2.2.2.2.2.1.1.2 2 _ rfl).1 n (fun j => .long (u.2.2.1 k j))) (fun q => by cases q) (by show ¬ (i < 0 ∨ (arrV _ _ _).slots.size ≤ _); rw [arrV_size]; exact hin) rfl rfl hd fun H1 e z oq => ?_
        refine hG.2 H1 _ ls hl (am_stored (w2 := am_uJ u k i.toNatClampNeg x) hR hk rfl am_uJ_o rfl ?_ z oq) (hS.put z oq ((am_D_of (g := g) hR.2.1).2 k _ (am_ws_at hk))) hn hz
        show H1[am_rho g k]? = some (vp_cell _ _)
        rw [e]
        show some ((arrV (g.2.1 2) n (fun j => Value.long (u.2.2.1 k j))).setSlot i.toNatClampNeg (.long x)) = some (arrV (g.2.1 2) n (fun j => Value.long ((am_uJ u k i.toNatClampNeg x).2.2.1 k j)))
        rw [arrV_store]
        congr 2
        funext q
        by_cases hq : q = i.toNatClampNeg
        · subst hq
          simp [updV, va_up, am_uJ]
        · simp [updV, va_up, am_uJ, hq]
      · cases h
    · cases h
  · cases h
theorem so_aast (C : am_Cx p l e R s m args below meth c g own cc nL n0 z0 nF zF fr lo) {pc : Nat} (hd : decode cc pc = .ok (.aastore, 1)) : am_SI (am_G p l e R s m args below meth c g nL n0 z0 nF zF Q) pc (pc + 1) i_aS := by
  intro cf cf2 h hG
  obtain ⟨L, st, u⟩ := cf
  simp only [i_aS] at h
  split at h
  · next v i k r =>
    split at h
    · next a n hk =>
      split at h
      · next hc =>
        obtain ⟨⟨rfl, hv⟩, hin⟩ := hc
        cases h
        obtain ⟨nv, hv⟩ := am_cls hv
        refine ⟨hG.1, fun H locs ls hl hR hS hn hz => ?_⟩
        have hlt : i.toNatClampNeg < n := Nat.not_le.mp fun q => hin (Or.inr q)
        have h0 : ¬ i < 0 := fun q => hin (Or.inl q)
        have hK := C.2.2.2.2.2.2.1.1
        obtain ⟨r', hr', cellV, g1, g2, g3, -⟩ := hR.1 v _ (am_cell_obj (ci := 2) hv)
        have hcls := (hK.1 2 (RX2, TX2, 6) rfl).2
        obtain ⟨kA, comp, k1, k2, k3, -⟩ := (hK.2 3 _ rfl).2
        have hcomp : comp = g.1.1 2 := Option.some.inj (k3.symm.trans hcls.1)
        subst hcomp
        obtain ⟨kC, hkC, -⟩ := hcls.2
        refine W.aast C.1 C.2.1 (hR.1 k _ (am_ws_at hk)) (fun q h => by cases h) (fun h => by cases h) k1 k2 rfl hkC ⟨h0, by show _ < (arrV _ _ _).slots.size; rw [arrV_size]; exact hlt⟩ g1 (fun q h => by rw [g3] at h; cases h) (by rw [g2]; exact hkC) (by rw [g2]; exact va_assign hcls) rfl rfl hd fun H1 e z oq => ?_
        refine hG.2 H1 _ ls hl (am_stored (w2 := am_uR u k i.toNatClampNeg (some v)) hR hk rfl am_uR_o rfl ?_ z oq) (hS.put z oq ((am_D_of (g := g) hR.2.1).2 k _ (am_ws_at hk))) hn hz
        show H1[am_rho g k]? = some (vp_cell _ _)
        rw [e]
        show some ((arrV (g.2.1 3) n (fun j => va_rf ((u.2.2.2 k j).map (am_rho g)))).setSlot i.toNatClampNeg (.ref (am_rho g v))) = some (arrV (g.2.1 3) n (fun j => va_rf (((am_uR u k i.toNatClampNeg (some v)).2.2.2 k j).map (am_rho g))))
        rw [arrV_store]
        congr 2
        funext q
        by_cases hq : q = i.toNatClampNeg
        · subst hq
          simp [updV, va_up, am_uR, va_rf]
        · simp [updV, va_up, am_uR, hq]
      · cases h
    · cases h
  · cases h
theorem so_alen (C : am_Cx p l e R s m args below meth c g own cc nL n0 z0 nF zF fr lo) {pc : Nat} (hd : decode cc pc = .ok (.arraylength, 1)) : am_SI (am_G p l e R s m args below meth c g nL n0 z0 nF zF Q) pc (pc + 1) i_len := by
  intro cf cf2 h hG
  obtain ⟨L, st, u⟩ := cf
  simp only [i_len] at h
  split at h
  · next k r =>
    split at h
    · next a n hk =>
      split at h
      · next hc =>
        cases h
        refine ⟨hG.1, fun H locs ls hl hR hS hn hz => ?_⟩
        have kk := hG.2 H locs ls hl hR hS hn hz
        rcases (show a = 0 ∨ a = 1 ∨ a = 2 ∨ a = 3 by omega) with rfl | rfl | rfl | rfl
        · exact va_alen C.1 C.2.1 C.2.2.2.2.2.2.1.1 hR.1 _ 0 (am_ws_at hk) rfl rfl hd kk
        · exact va_alen C.1 C.2.1 C.2.2.2.2.2.2.1.1 hR.1 _ 1 (am_ws_at hk) rfl rfl hd kk
        · exact va_alen C.1 C.2.1 C.2.2.2.2.2.2.1.1 hR.1 _ 2 (am_ws_at hk) rfl rfl hd kk
        · exact va_alen C.1 C.2.1 C.2.2.2.2.2.2.1.1 hR.1 _ 3 (am_ws_at hk) rfl rfl hd kk
      · cases h
    · cases h
  · cases h
end AMV
