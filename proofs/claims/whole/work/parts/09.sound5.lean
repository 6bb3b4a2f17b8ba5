section AMW
variable {p : Program} {l : Launch} {e : Env} {R : Room} {s : State} {m : MethodId} {args : Array Value} {below : List Frame} {meth : Method} {c : Code} {g : am_Gl} {own : String} {cc : ByteArray} {nL n0 z0 nF zF fr lo : Nat} {Q : State → Prop}
theorem am_alloc {u : am_St} {H H1 : Heap} {kd n : Nat} {locs : List Loc} (hR : am_R g u H) (hop : u.1.2.1 = true) (hlt : u.1.1.length < 1000000) (hz : H1.size = H.size + 1) (ho : ∀ q, q < H.size → H1[q]? = H[q]?) (hc : va_at g.1 am_cl (am_rho g u.1.1.length, am_cell g (am_new u kd n) u.1.1.length (kd, n)) H1) (hS : va_S (am_A g) s.heap H locs) : am_R g (am_new u kd n) H1 ∧ va_S (am_A g) s.heap H1 locs := by
  have hsz := hR.2.2 hop
  refine ⟨⟨?_, ?_, fun _ => ?_⟩, ?_, fun q h1 h2 => ?_, hS.2.2⟩
  · rw [am_ws_push (u := u) (kd := (kd, n)) rfl ?_]
    · refine va_P.app (hR.1.kept fun k q hk => ho _ (hR.1 k q hk).lt) ?_
      intro k q hk
      cases k with
      | zero => cases hk; exact hc
      | succ k => simp at hk
    · intro j hj kd2
      have hne : j ≠ u.1.1.length := by omega
      simp only [am_cell, am_new, am_fv, va_up, if_neg hne]
  · simp [am_new]
    omega
  · simp [am_new]
    omega
  · rw [hz]
    exact Nat.le_succ_of_le hS.1
  · rw [ho q (Nat.lt_of_lt_of_le h1 hS.1)]
    exact hS.2.1 q h1 h2
def am_dv : Nat → Value
  | 1 => .long 0
  | 2 => .null
  | _ => .int 0
def am_fb (ci : Nat) (T : u_T) (N : Nat) : Prop := ∃ ty : Nat → FieldType, (∀ k, k < N → parseFieldDescriptor (T k).2.2.1 = some (ty k)) ∧ ∀ k, k < N → ∃ t, (am_ft ci)[k]? = some t ∧ defaultValue (ty k) = am_dv t
theorem so_new (C : am_Cx p l e R s m args below meth c g own cc nL n0 z0 nF zF fr lo) {pc index ci N : Nat} {K : String} {T : u_T} (hc : am_cl[ci]? = some (K, T, N)) (hin : ∀ w ∈ u_ws K T N, w ∈ am_tbl) (hb : am_fb ci T N) (hlk : Cond.classLink own index K ∈ am_tbl) (hins : Cond.instantiable K N ∈ am_tbl) (hini : Cond.initialized K ∈ am_tbl) (hd : decode cc pc = .ok (.new index, 3)) : am_SI (am_G p l e R s m args below meth c g nL n0 z0 nF zF Q) pc (pc + 3) (i_new ci N) := by
  intro cf cf2 h hG
  obtain ⟨L, st, u⟩ := cf
  simp only [i_new] at h
  split at h
  · next hop =>
    obtain ⟨hop, hlt⟩ := hop
    cases h
    have hb1 : am_len u + 1 ≤ nF := hG.1.1
    have hb2 : am_wt u + N ≤ zF := hG.1.2
    have hts := C.2.2.2.2.1
    obtain ⟨ty, ht1, ht2⟩ := hb
    refine ⟨⟨by show am_len u ≤ nF; omega, by show am_wt u ≤ zF; omega⟩, fun H locs ls hl hR hS hn hz => ?_⟩
    have hn : n0 ≤ am_len u := hn
    have hz : z0 ≤ am_wt u := hz
    have hr := C.2.2.2.2.2.2.2.2
    have hKn := C.2.2.2.2.2.2.1.1.1 ci _ hc
    have hH : H.size = g.2.2.1 + u.1.1.length := hR.2.2 hop
    show W p l e R s m args below meth c H locs (am_len u - n0) (am_wt u - z0) Q (F0 m pc ls (st.map (am_rn g)))
    refine W.newcK C.1 C.2.1 C.2.2.2.1 (hts _ hlk) (hts _ hins) (hts _ hini) rfl hd (by omega) (by omega) hKn.2.1 rfl fun H1 kC hkC e1 z1 o1 => ?_
    have hborn := u_born (o := H.size) (H := H1) ty hts hin hKn hkC e1 ht1
    have hat : va_at g.1 am_cl (am_rho g u.1.1.length, am_cell g (am_new u (ci + 4) N) u.1.1.length (ci + 4, N)) H1 := by
      show ∃ r : vw_C, am_cl[ci]? = some r ∧ t_OB (am_rho g u.1.1.length) (g.1.1 ci) r.2.2 (g.1.2 ci) H1 (vp_V _)
      refine ⟨_, hc, ?_⟩
      rw [am_rho_lt hlt, ← hH]
      refine hborn.to fun k hk => ?_
      obtain ⟨t, g1, g2⟩ := ht2 k hk
      rw [g2]
      show am_dv t = ((am_ft ci).mapIdx _).getD k .null
      rw [List.getD_eq_getElem?_getD, am_fv_at g1]
      simp only [Option.getD_some, am_fv, am_new, va_up, if_true, am_dv]
      rcases t with _ | _ | _ | t <;> rfl
    obtain ⟨hR1, hS1⟩ := am_alloc (n := N) hR hop hlt z1 o1 hat hS
    have kk := hG.2 H1 locs ls hl hR1 hS1 (by show n0 ≤ am_len u + 1; omega) (by show z0 ≤ am_wt u + N; omega)
    have e3 : am_len u - n0 + 1 = am_len (am_new u (ci + 4) N) - n0 := by show _ = am_len u + 1 - n0; omega
    have e4 : am_wt u - z0 + N = am_wt (am_new u (ci + 4) N) - z0 := by show _ = am_wt u + N - z0; omega
    show W p l e R s m args below meth c H1 locs (am_len u - n0 + 1) (am_wt u - z0 + N) Q (F0 m (pc + 3) ls (.ref H.size :: st.map (am_rn g)))
    rw [e3, e4, hH, ← am_rho_lt (g := g) hlt]
    exact kk
  · cases h
theorem am_na {t : Nat} {ty : FieldType} (hty : (am_tys g)[t]? = some (g.2.1 t, ty)) (hp : ∀ C, ty ≠ .object C) {x0 : (Nat → Int32) ⊕ (Nat → Int64) ⊕ (Nat → UInt32) ⊕ (Nat → UInt64) ⊕ (Nat → Option Nat)} (hcell : ∀ (u : am_St) (n : Nat), am_cell g (am_new u t n) u.1.1.length (t, n) = .inl (g.2.1 t, n, x0)) (hdv : ∀ (cA : ClassId) (n : Nat), vp_cell cA (n, x0) = arrV cA n (fun _ => defaultValue ty)) (hby : componentBytes ty ≤ 8)
    (C : am_Cx p l e R s m args below meth c g own cc nL n0 z0 nF zF fr lo) {pc : Nat} {atype : ArrayType} (hat : newarray.typeOf atype = ty) (hw : Cond.arrayClass ty ∈ am_tbl) (hd : decode cc pc = .ok (.newarray atype, 2)) : am_SI (am_G p l e R s m args below meth c g nL n0 z0 nF zF Q) pc (pc + 2) (i_na t) := by
  intro cf cf2 h hG
  obtain ⟨L, st, u⟩ := cf
  simp only [i_na] at h
  split at h
  · next n r =>
    split at h
    · next hop =>
      obtain ⟨⟨hop, hlt⟩, hn0, hle⟩ := hop
      cases h
      have hb1 : am_len u + 1 ≤ nF := hG.1.1
      have hb2 : am_wt u + n.toNatClampNeg ≤ zF := hG.1.2
      refine ⟨⟨by show am_len u ≤ nF; omega, by show am_wt u ≤ zF; omega⟩, fun H locs ls hl hR hS hn hz => ?_⟩
      have hn : n0 ≤ am_len u := hn
      have hz : z0 ≤ am_wt u := hz
      have hr := C.2.2.2.2.2.2.2.2
      have hH : H.size = g.2.2.1 + u.1.1.length := hR.2.2 hop
      have hK := (C.2.2.2.2.2.2.1.1.2 t _ hty).2
      subst hat
      show W p l e R s m args below meth c H locs (am_len u - n0) (am_wt u - z0) Q (F0 m pc ls (.int n :: r.map (am_rn g)))
      refine va_newaK C.1 C.2.1 (C.2.2.2.2.1 _ hw) rfl hd rfl hn0 rfl (Nat.le_trans (Nat.mul_le_mul hle hby) (by decide)) (by omega) (by omega) rfl fun H1 cA e1 z1 o1 hAr hNm => ?_
      have hcA : cA = g.2.1 t := by
        have : s.vm.findClass ("[" ++ (newarray.typeOf atype).toString) = some (g.2.1 t) := by
          cases hz : newarray.typeOf atype with
          | object Cn => exact absurd hz (hp Cn)
          | _ => rw [hz] at hK; exact hK
        exact Option.some.inj (hNm.symm.trans this)
      subst hcA
      have hat : va_at g.1 am_cl (am_rho g u.1.1.length, am_cell g (am_new u t n.toNatClampNeg) u.1.1.length (t, n.toNatClampNeg)) H1 := by
        rw [hcell]
        show H1[am_rho g u.1.1.length]? = some (vp_cell _ _)
        rw [am_rho_lt hlt, ← hH, e1]
        exact congrArg some (hdv (g.2.1 t) n.toNatClampNeg).symm
      obtain ⟨hR1, hS1⟩ := am_alloc (n := n.toNatClampNeg) hR hop hlt z1 o1 hat hS
      have kk := hG.2 H1 locs ls hl hR1 hS1 (by show n0 ≤ am_len u + 1; omega) (by show z0 ≤ am_wt u + n.toNatClampNeg; omega)
      have e3 : am_len u - n0 + 1 = am_len (am_new u t n.toNatClampNeg) - n0 := by show _ = am_len u + 1 - n0; omega
      have e4 : am_wt u - z0 + n.toNatClampNeg = am_wt (am_new u t n.toNatClampNeg) - z0 := by show _ = am_wt u + n.toNatClampNeg - z0; omega
      show W p l e R s m args below meth c H1 locs (am_len u - n0 + 1) (am_wt u - z0 + n.toNatClampNeg) Q (F0 m (pc + 2) ls (.ref H.size :: r.map (am_rn g)))
      rw [e3, e4, hH, ← am_rho_lt (g := g) hlt]
      exact kk
    · cases h
  · cases h
theorem so_newI (C : am_Cx p l e R s m args below meth c g own cc nL n0 z0 nF zF fr lo) {pc : Nat} (hw : Cond.arrayClass .int ∈ am_tbl) (hd : decode cc pc = .ok (.newarray .int, 2)) : am_SI (am_G p l e R s m args below meth c g nL n0 z0 nF zF Q) pc (pc + 2) (i_na 0) :=
  am_na (ty := .int) (x0 := .inl (fun _ => 0)) rfl (fun _ h => by cases h) (fun u n => by simp [am_cell, am_new, va_up]) (fun cA n => rfl) (by decide) C rfl hw hd
theorem so_newB (C : am_Cx p l e R s m args below meth c g own cc nL n0 z0 nF zF fr lo) {pc : Nat} (hw : Cond.arrayClass .byte ∈ am_tbl) (hd : decode cc pc = .ok (.newarray .byte, 2)) : am_SI (am_G p l e R s m args below meth c g nL n0 z0 nF zF Q) pc (pc + 2) (i_na 1) :=
  am_na (ty := .byte) (x0 := .inl (fun _ => 0)) rfl (fun _ h => by cases h) (fun u n => by simp [am_cell, am_new, va_up]) (fun cA n => rfl) (by decide) C rfl hw hd
theorem so_newL (C : am_Cx p l e R s m args below meth c g own cc nL n0 z0 nF zF fr lo) {pc : Nat} (hw : Cond.arrayClass .long ∈ am_tbl) (hd : decode cc pc = .ok (.newarray .long, 2)) : am_SI (am_G p l e R s m args below meth c g nL n0 z0 nF zF Q) pc (pc + 2) (i_na 2) :=
  am_na (ty := .long) (x0 := .inr (.inl (fun _ => 0))) rfl (fun _ h => by cases h) (fun u n => by simp [am_cell, am_new, va_up]) (fun cA n => rfl) (by decide) C rfl hw hd
end AMW
section AMX
variable {p : Program} {l : Launch} {e : Env} {R : Room} {s : State} {m : MethodId} {args : Array Value} {below : List Frame} {meth : Method} {c : Code} {g : am_Gl} {own : String} {cc : ByteArray} {nL n0 z0 nF zF fr lo : Nat} {Q : State → Prop}
theorem so_newG (C : am_Cx p l e R s m args below meth c g own cc nL n0 z0 nF zF fr lo) {pc index : Nat} (hw : Cond.classLink own index RX2 ∈ am_tbl) (hd : decode cc pc = .ok (.anewarray index, 3)) : am_SI (am_G p l e R s m args below meth c g nL n0 z0 nF zF Q) pc (pc + 3) (i_na 3) := by
  intro cf cf2 h hG
  obtain ⟨L, st, u⟩ := cf
  simp only [i_na] at h
  split at h
  · next n r =>
    split at h
    · next hop =>
      obtain ⟨⟨hop, hlt⟩, hn0, hle⟩ := hop
      cases h
      have hb1 : am_len u + 1 ≤ nF := hG.1.1
      have hb2 : am_wt u + n.toNatClampNeg ≤ zF := hG.1.2
      refine ⟨⟨by show am_len u ≤ nF; omega, by show am_wt u ≤ zF; omega⟩, fun H locs ls hl hR hS hn hz => ?_⟩
      have hn : n0 ≤ am_len u := hn
      have hz : z0 ≤ am_wt u := hz
      have hr := C.2.2.2.2.2.2.2.2
      have hH : H.size = g.2.2.1 + u.1.1.length := hR.2.2 hop
      obtain ⟨-, -, -, -, -, hK⟩ := (C.2.2.2.2.2.2.1.1.2 3 _ rfl).2
      have hover := C.2.2.2.2.2.2.1.2.2.2.2.2.2.2.2.2.1
      show W p l e R s m args below meth c H locs (am_len u - n0) (am_wt u - z0) Q (F0 m pc ls (.int n :: r.map (am_rn g)))
      refine W.anew C.1 C.2.1 C.2.2.2.1 (C.2.2.2.2.1 _ hw) (va_AO.use hover) rfl hd rfl hn0 (by omega) (by omega) (by omega) fun cA kA comp f1 f2 f3 f4 => ?_
      have hcA : cA = g.2.1 3 := Option.some.inj (f1.symm.trans hK)
      subst hcA
      generalize hH1 : H.push ({ cls := g.2.1 3, slots := Array.replicate n.toNatClampNeg .null, vm := .none } : Cell) = H1
      have z1 : H1.size = H.size + 1 := by rw [← hH1, Array.size_push]
      have e1 : H1[H.size]? = some (arrV (g.2.1 3) n.toNatClampNeg (fun _ => .null)) := by rw [← hH1, Array.getElem?_push_size, ← arrV_new]
      have o1 : ∀ q, q < H.size → H1[q]? = H[q]? := fun q hq => by rw [← hH1, Array.getElem?_push, if_neg (Nat.ne_of_lt hq)]
      have hat : va_at g.1 am_cl (am_rho g u.1.1.length, am_cell g (am_new u 3 n.toNatClampNeg) u.1.1.length (3, n.toNatClampNeg)) H1 := by
        show H1[am_rho g u.1.1.length]? = some (arrV (g.2.1 3) n.toNatClampNeg (fun j => va_rf (((am_new u 3 n.toNatClampNeg).2.2.2 u.1.1.length j).map (am_rho g))))
        rw [am_rho_lt hlt, ← hH, e1]
        congr 2
        funext j
        simp [am_new, va_up, va_rf]
      obtain ⟨hR1, hS1⟩ := am_alloc (n := n.toNatClampNeg) hR hop hlt z1 o1 hat hS
      have kk := hG.2 H1 locs ls hl hR1 hS1 (by show n0 ≤ am_len u + 1; omega) (by show z0 ≤ am_wt u + n.toNatClampNeg; omega)
      have e3 : am_len u - n0 + 1 = am_len (am_new u 3 n.toNatClampNeg) - n0 := by show _ = am_len u + 1 - n0; omega
      have e4 : am_wt u - z0 + n.toNatClampNeg = am_wt (am_new u 3 n.toNatClampNeg) - z0 := by show _ = am_wt u + n.toNatClampNeg - z0; omega
      show W p l e R s m args below meth c H1 locs (am_len u - n0 + 1) (am_wt u - z0 + n.toNatClampNeg) Q (F0 m (pc + 3) ls (.ref H.size :: r.map (am_rn g)))
      rw [e3, e4, hH, ← am_rho_lt (g := g) hlt]
      exact kk
    · cases h
  · cases h
theorem am_cats (r : List Value) : ((r.map (am_rn g)).map fun v => v.category).sum = (r.map fun v => v.category).sum := by
  rw [List.map_map]
  congr 1
  apply List.map_congr_left
  intro v _
  exact am_rn_cat g v
theorem so_oinit (C : am_Cx p l e R s m args below meth c g own cc nL n0 z0 nF zF fr lo) {pc index : Nat} (hw : Cond.methodLink own index objectInit ∈ am_tbl) (hi : Cond.instanceMethod objectInit ∈ am_tbl) (hc : Cond.code objectInit ⟨#[0xb1]⟩ 1 none ∈ am_tbl) (hr : 1 ≤ fr ∧ 20 ≤ lo) (hd : decode cc pc = .ok (.invokespecial index, 3)) : am_SI (am_G p l e R s m args below meth c g nL n0 z0 nF zF Q) pc (pc + 3) i_oi :=
  am_pure fun L st u cf2 h => by
    simp only [i_oi] at h
    split at h
    · split at h
      · next hs =>
        cases h
        refine ⟨rfl, fun H locs ls cells slots hl k => ?_⟩
        have hts := C.2.2.2.2.1
        have hrm := C.2.2.2.2.2.2.2.2
        exact W.objInit C.1 C.2.1 C.2.2.2.1 (hts _ hw) (hts _ hi) (hts _ hc) rfl (by rw [C.2.2.1]; exact hl.2.1) rfl hd (by omega) (by rw [am_cats]; show 2 * 0 + _ + 12 ≤ _; omega) (k ls hl)
      · cases h
    · cases h
/-- Math.max, Math.min -/
theorem so_max (C : am_Cx p l e R s m args below meth c g own cc nL n0 z0 nF zF fr lo) {pc index : Nat} (hw : Cond.methodLink own index Lib.Math.max.name ∈ am_tbl) (hi : Cond.static Lib.Math.max.name ∈ am_tbl) (hni : Cond.initialized "java/lang/Math" ∈ am_tbl) (hc : Cond.code Lib.Math.max.name Lib.Math.max.code 2 (some .int) ∈ am_tbl) (hr : 1 ≤ fr ∧ 21 ≤ lo) (hd : decode cc pc = .ok (.invokestatic index, 3)) : am_SI (am_G p l e R s m args below meth c g nL n0 z0 nF zF Q) pc (pc + 3) (i_mx (fun x y => if x < y then y else x)) := by
  intro cf cf2 h hG
  obtain ⟨L, st, u⟩ := cf
  simp only [i_mx] at h
  split at h
  · split at h
    · next hs =>
      cases h
      have hts := C.2.2.2.2.1
      have hrm := C.2.2.2.2.2.2.2.2
      have hb1 : am_len u ≤ nF := hG.1.1
      have hb2 : am_wt u ≤ zF := hG.1.2
      refine ⟨hG.1, fun H locs ls hl hR hS hn hz => va_mmax C.1 C.2.1 (by rw [C.2.2.1]; exact hl.2.1.symm) C.2.2.2.1 (hts _ hw) (hts _ hi) (hts _ hni) (hts _ hc) (by omega) (by rw [am_cats]; omega) ?_ ?_ hd (hG.2 H locs ls hl hR hS hn hz)⟩
      · show am_len u - n0 ≤ _
        omega
      · show am_wt u - z0 ≤ _
        omega
    · cases h
  · cases h
theorem so_min (C : am_Cx p l e R s m args below meth c g own cc nL n0 z0 nF zF fr lo) {pc index : Nat} (hw : Cond.methodLink own index Lib.Math.min.name ∈ am_tbl) (hi : Cond.static Lib.Math.min.name ∈ am_tbl) (hni : Cond.initialized "java/lang/Math" ∈ am_tbl) (hc : Cond.code Lib.Math.min.name Lib.Math.min.code 2 (some .int) ∈ am_tbl) (hr : 1 ≤ fr ∧ 21 ≤ lo) (hd : decode cc pc = .ok (.invokestatic index, 3)) : am_SI (am_G p l e R s m args below meth c g nL n0 z0 nF zF Q) pc (pc + 3) (i_mx (fun x y => if y < x then y else x)) := by
  intro cf cf2 h hG
  obtain ⟨L, st, u⟩ := cf
  simp only [i_mx] at h
  split at h
  · split at h
    · next hs =>
      cases h
      have hts := C.2.2.2.2.1
      have hrm := C.2.2.2.2.2.2.2.2
      have hb1 : am_len u ≤ nF := hG.1.1
      have hb2 : am_wt u ≤ zF := hG.1.2
      refine ⟨hG.1, fun H locs ls hl hR hS hn hz => va_mmin C.1 C.2.1 (by rw [C.2.2.1]; exact hl.2.1.symm) C.2.2.2.1 (hts _ hw) (hts _ hi) (hts _ hni) (hts _ hc) (by omega) (by rw [am_cats]; omega) ?_ ?_ hd (hG.2 H locs ls hl hR hS hn hz)⟩
      · show am_len u - n0 ≤ _
        omega
      · show am_wt u - z0 ≤ _
        omega
    · cases h
  · cases h
end AMX
