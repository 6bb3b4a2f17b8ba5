-- THE LAW: its words, its frame, its script
def R_law : String := "GraftQuarrelLaw"
def lw_P (b : Addr) (xs : List Int32) (args : Array Value) (s : State) : Prop := args = #[.ref b] ∧ s.IntsAt b xs ∧ xs.length ≤ 3072 ∧ (Jvm.Cond.and given_1 narrow_1).before args s = true
def lw_Q (_ : Array Value) (s : State) (o : Outcome) (t : State) : Prop := o = .returned (some (.int 1)) ∧ Framed s o t [] 601024 7293034
def lw_Z (below : List Frame) (a : Array Value) (s : State) : State → Prop := fun t => ∃ o, t.status = .running ∧ Ended t below o ∧ lw_Q a s o t
theorem lw_ret {p : Program} {l : Launch} {e : Env} {s : State} {m : MethodId} {below : List Frame} {meth : Method} {c : Code} {b : Nat} (hx : p.tables.exec = Jvm.exec) (hb : c.code = code) (hr : meth.sig.returnType = ret) (hlocks : meth.locks = false) {pc : Nat} {H : Heap} {ls : Array Slot} (hdg : decode code pc = .ok (.ireturn, 1)) : W p l e room_1 s m #[Value.ref b] below meth c H [] 601024 7293034 (lw_Z below #[Value.ref b] s) (F0 m pc ls [.int 1]) := by
  intro T hT X
  obtain ⟨fs, hret, hrun, hended, hW, hframe⟩ := X.leave (v := some (.int 1)) (hlocks := hlocks) (fun h => by rw [hr] at h; cases h)
  have hmeth' : T.vm.method? m = some meth := X.method'
  refine ⟨T.setFrames fs, ?_, .returned (some (.int 1)), hrun, hended, rfl, ⟨_, rfl⟩, hW, hframe⟩
  jvm_step X.here [X.here.top, hx, hb, hdg, hmeth', hr, ret, narrow_b1]
  (try refine ⟨rfl, ?_⟩); (try refine ⟨rfl, ?_⟩)
  first | (intro acts; rw [hret _ acts rfl rfl rfl]) | rw [hret _ _ rfl rfl rfl]
  exact Steps.refl _
def lw_At (p : Program) (s : State) (m : MethodId) (meth : Method) (c : Code) (b L : Nat) (xs : Nat → Int32) : Prop :=
  p.tables.exec = Jvm.exec ∧ c.code = code ∧ meth.sig.returnType = ret ∧ c.maxLocals = 7 ∧ s.vm.findClass R_law = some m.cls ∧ (∀ w ∈ lw_tbl, w.before #[Value.ref b] s = true) ∧ va_X b L xs s s.heap ∧ b < s.heap.size ∧ meth.locks = false ∧ (Jvm.Cond.and given_1 narrow_1).before #[Value.ref b] s = true

abbrev Lc (i : Nat) (o5 o6 : Option Value) : List (Option Value) := [some (.ref 1000021), some (.ref 0), some (.ref 156), some (.ref 175), some (.int (nI i)), o5, o6]
abbrev lG (p : Program) (l : Launch) (e : Env) (s : State) (m : MethodId) (below : List Frame) (meth : Method) (c : Code) (g : am_Gl) (b : Nat) : Nat → am_C → Prop :=
  am_G p l e room_1 s m #[Value.ref b] below meth c g 7 0 0 601024 7293034 (lw_Z below #[Value.ref b] s)
abbrev lCx (p : Program) (l : Launch) (e : Env) (s : State) (m : MethodId) (below : List Frame) (meth : Method) (c : Code) (g : am_Gl) (b L : Nat) (xs : Nat → Int32) : Prop :=
  am_Cx p l e room_1 s m #[Value.ref b] below meth c g RL code 7 0 0 601024 7293034 2048 84000 ∧ (va_X b L xs s s.heap ∧ b < s.heap.size ∧ g.2.2.1 = s.heap.size ∧ g.2.2.2.1 21 = b) ∧ L ≤ 3072 ∧ meth.sig.returnType = ret
section LAW
variable {p : Program} {l : Launch} {e : Env} {s : State} {m : MethodId} {below : List Frame} {meth : Method} {c : Code} {g : am_Gl} {b L : Nat} {xs : Nat → Int32}
theorem lx_b (C : lCx p l e s m below meth c g b L xs) : am_rho g 1000021 = b := by
  unfold am_rho
  rw [if_neg (by omega)]
  exact C.2.1.2.2.2
theorem lx_A (C : lCx p l e s m below meth c g b L xs) : ¬ am_A g b := by
  show ¬ g.2.2.1 ≤ b
  rw [C.2.1.2.2.1]
  exact Nat.not_le.mpr C.2.1.2.1
theorem so_arg (C : lCx p l e s m below meth c g b L xs) {pc i : Nat} (k : Nat) {o5 o6 : Option Value} {st : List Value} {u : am_St} {n : Int} (hk : k < 6) (hi : i + 6 ≤ L) (hn : Int32.ofInt n = nI k) (d0 : decode code pc = .ok (.aload_n 0, 1)) (d1 : decode code (pc + 1) = .ok (.iload 4, 2)) (d2 : decode code (pc + 3) = .ok (.iconst n, 1)) (d3 : decode code (pc + 4) = .ok (.iadd, 1)) (d4 : decode code (pc + 5) = .ok (.iaload, 1))
    (K : lG p l e s m below meth c g b (pc + 6) (Lc i o5 o6, .int (xs (i + k)) :: st, u)) : lG p l e s m below meth c g b pc (Lc i o5 o6, st, u) := by
  have hL := C.2.2.1
  refine (so_aload_n C.1 d0 rfl) _ (Lc i o5 o6, .ref 1000021 :: st, u) rfl ?_
  refine (so_iload C.1 d1) _ (Lc i o5 o6, .int (nI i) :: .ref 1000021 :: st, u) rfl ?_
  refine (so_iconst C.1 d2 hn) _ (Lc i o5 o6, .int (nI k) :: .int (nI i) :: .ref 1000021 :: st, u) rfl ?_
  refine (so_iadd C.1 d3) _ (Lc i o5 o6, .int (nI i + nI k) :: .ref 1000021 :: st, u) rfl ?_
  rw [nI_add]
  refine ⟨K.1, fun H locs ls hl hR hS hn hz => ?_⟩
  show W p l e room_1 s m #[Value.ref b] below meth c H locs _ _ _ (F0 m (pc + 5) ls (.int (nI (i + k)) :: .ref (am_rho g 1000021) :: st.map (am_rn g)))
  rw [lx_b C]
  refine va_sld C.1.1 C.1.2.1 C.2.1.1 C.2.1.2.1 (lx_A C) hS (nI_in (by omega) (by omega)) d4 ?_
  rw [nI_clamp (by omega)]
  exact K.2 H locs ls hl hR hS hn hz
theorem so_arg0 (C : lCx p l e s m below meth c g b L xs) {pc i : Nat} {o5 o6 : Option Value} {st : List Value} {u : am_St} (hi : i + 6 ≤ L) (d0 : decode code pc = .ok (.aload_n 0, 1)) (d1 : decode code (pc + 1) = .ok (.iload 4, 2)) (d4 : decode code (pc + 3) = .ok (.iaload, 1))
    (K : lG p l e s m below meth c g b (pc + 4) (Lc i o5 o6, .int (xs i) :: st, u)) : lG p l e s m below meth c g b pc (Lc i o5 o6, st, u) := by
  have hL := C.2.2.1
  refine (so_aload_n C.1 d0 rfl) _ (Lc i o5 o6, .ref 1000021 :: st, u) rfl ?_
  refine (so_iload C.1 d1) _ (Lc i o5 o6, .int (nI i) :: .ref 1000021 :: st, u) rfl ?_
  refine ⟨K.1, fun H locs ls hl hR hS hn hz => ?_⟩
  show W p l e room_1 s m #[Value.ref b] below meth c H locs _ _ _ (F0 m (pc + 3) ls (.int (nI i) :: .ref (am_rho g 1000021) :: st.map (am_rn g)))
  rw [lx_b C]
  refine va_sld C.1.1 C.1.2.1 C.2.1.1 C.2.1.2.1 (lx_A C) hS (nI_in (by omega) (by omega)) d4 ?_
  rw [nI_clamp (by omega)]
  exact K.2 H locs ls hl hR hS hn hz
theorem so_slen (C : lCx p l e s m below meth c g b L xs) {pc i : Nat} {o5 o6 : Option Value} {st : List Value} {u : am_St} (d0 : decode code pc = .ok (.aload_n 0, 1)) (d1 : decode code (pc + 1) = .ok (.arraylength, 1))
    (K : lG p l e s m below meth c g b (pc + 2) (Lc i o5 o6, .int (nI L) :: st, u)) : lG p l e s m below meth c g b pc (Lc i o5 o6, st, u) := by
  refine (so_aload_n C.1 d0 rfl) _ (Lc i o5 o6, .ref 1000021 :: st, u) rfl ?_
  refine ⟨K.1, fun H locs ls hl hR hS hn hz => ?_⟩
  show W p l e room_1 s m #[Value.ref b] below meth c H locs _ _ _ (F0 m (pc + 1) ls (.ref (am_rho g 1000021) :: st.map (am_rn g)))
  rw [lx_b C]
  refine va_slen C.1.1 C.1.2.1 C.2.1.1 C.2.1.2.1 (lx_A C) hS d1 ?_
  exact K.2 H locs ls hl hR hS hn hz
theorem so_jp (C : lCx p l e s m below meth c g b L xs) {pc tgt : Nat} {off : Int} {cf : am_C} (hd : decode code pc = .ok (.goto off, 3)) (ht : (pc : Int) + off = (tgt : Int)) (K : lG p l e s m below meth c g b tgt cf) : lG p l e s m below meth c g b pc cf :=
  (so_goto (Rt := fun _ _ => True) C.1 hd ht so_to) cf (.inl (tgt, cf)) rfl K
abbrev bz (x : Int32) : Int32 := if x = 0 then 0 else 1
theorem so_bz (C : lCx p l e s m below meth c g b L xs) {pc : Nat} {x : Int32} {LL : List (Option Value)} {st : List Value} {u : am_St} (d0 : decode code pc = .ok (.ifCond .eq 7, 3)) (d1 : decode code (pc + 3) = .ok (.iconst 1, 1)) (d2 : decode code (pc + 4) = .ok (.goto 4, 3)) (d3 : decode code (pc + 7) = .ok (.iconst 0, 1))
    (K : lG p l e s m below meth c g b (pc + 8) (LL, .int (bz x) :: st, u)) : lG p l e s m below meth c g b pc (LL, .int x :: st, u) := by
  refine (so_if_eq C.1 d0 (tgt := pc + 7) (by omega)) _ (decide (x = 0)) (LL, st, u) rfl (fun h => ?_) (fun h => ?_)
  · have h0 := of_decide_eq_true h
    rw [show bz x = 0 from if_pos h0] at K
    exact (so_iconst C.1 d3 (v := 0) (by decide)) _ (LL, .int 0 :: st, u) rfl K
  · have h0 := of_decide_eq_false h
    rw [show bz x = 1 from if_neg h0] at K
    exact (so_iconst C.1 d1 (v := 1) (by decide)) _ (LL, .int 1 :: st, u) rfl (so_jp C d2 (tgt := pc + 8) (by omega) K)
theorem so_eqi (C : lCx p l e s m below meth c g b L xs) {pc tgt : Nat} {off : Int} {x : Int32} {LL : List (Option Value)} {st : List Value} {u : am_St} (hd : decode code pc = .ok (.if_icmp .eq off, 3)) (ht : (pc : Int) + off = (tgt : Int)) (K : lG p l e s m below meth c g b tgt (LL, st, u)) : lG p l e s m below meth c g b pc (LL, .int x :: .int x :: st, u) :=
  (so_icmp_eq C.1 hd ht) _ true (LL, st, u) (by show some (decide (x = x), LL, st, u) = _; rw [decide_eq_true rfl]) (fun _ => K) (fun h => nomatch h)
theorem so_eql (C : lCx p l e s m below meth c g b L xs) {pc tgt : Nat} {off : Int} {x : Int64} {LL : List (Option Value)} {st : List Value} {u : am_St} (hc : decode code pc = .ok (.lcmp, 1)) (hd : decode code (pc + 1) = .ok (.ifCond .eq off, 3)) (ht : ((pc + 1 : Nat) : Int) + off = (tgt : Int)) (K : lG p l e s m below meth c g b tgt (LL, st, u)) : lG p l e s m below meth c g b pc (LL, .long x :: .long x :: st, u) := by
  refine (so_lcmp C.1 hc) _ (LL, .int (lg_cmp x x) :: st, u) rfl ?_
  have h0 : lg_cmp x x = 0 := by
    unfold lg_cmp
    simp
  rw [h0]
  exact (so_if_eq C.1 hd ht) _ true (LL, st, u) rfl (fun _ => K) (fun h => nomatch h)
end LAW
-- what a method answers is an int (a long)
section FI
variable {P : Value → Prop}
def am_fp2 (P : Value → Prop) (f : am_F) : Prop := ∀ cf v u, f cf = some (.inr (some v, u)) → P v
theorem fi_th {i : am_I} {f : am_F} (h : am_fp2 P f) : am_fp2 P (am_th i f) := by
  intro cf v u q
  obtain ⟨c2, h1, h2⟩ := Option.bind_eq_some_iff.mp q
  exact h c2 v u h2
theorem fi_to {pc : Nat} : am_fp2 P (am_to pc) := fun cf v u q => nomatch q
theorem fi_br {bb : am_B} {f h : am_F} (h1 : am_fp2 P f) (h2 : am_fp2 P h) : am_fp2 P (am_br bb f h) := by
  intro cf v u q
  obtain ⟨⟨x, c2⟩, e1, e2⟩ := Option.bind_eq_some_iff.mp q
  cases x with
  | true => exact h1 c2 v u e2
  | false => exact h2 c2 v u e2
theorem fi_sq {j : Nat} {f h : am_F} (h1 : am_fp2 P f) (h2 : am_fp2 P h) : am_fp2 P (am_sq j f h) := by
  intro cf v u q
  obtain ⟨o1, e1, e2⟩ := Option.bind_eq_some_iff.mp q
  match o1, e2 with
  | .inl z, e2 =>
    by_cases hj : z.1 = j
    · simp only [hj, if_true] at e2
      exact h2 z.2 v u e2
    · simp only [hj, if_false] at e2
      cases e2
  | .inr z, e2 =>
    cases e2
    exact h1 cf v u e1
theorem fi_lp {j : Nat} {f : am_F} (h1 : am_fp2 P f) : ∀ n, am_fp2 P (am_lp n j f) := by
  intro n
  induction n with
  | zero => intro cf v u q; cases q
  | succ n ih =>
    intro cf v u q
    obtain ⟨o1, e1, e2⟩ := Option.bind_eq_some_iff.mp q
    match o1, e2 with
    | .inl z, e2 =>
      by_cases hj : z.1 = j
      · simp only [hj, if_true] at e2
        exact ih z.2 v u e2
      · simp only [hj, if_false] at e2
        cases e2
    | .inr z, e2 =>
      cases e2
      exact h1 cf v u e1
theorem fi_den {nL : Nat} {f : am_F} (h : am_fp2 P f) {as : List Value} {u u2 : am_St} {v : Value} (q : am_den nL f as u = some (some v, u2)) : P v := by
  simp only [am_den] at q
  split at q
  · split at q
    · next z hz =>
      cases q
      exact h _ v u2 hz
    · cases q
  · cases q
end FI
abbrev isI (v : Value) : Prop := ∃ x : Int32, v = .int x
abbrev isJ (v : Value) : Prop := ∃ x : Int64, v = .long x
theorem fi_ri : am_fp2 isI r_i := by
  intro cf v u q
  simp only [r_i] at q
  split at q
  · cases q; exact ⟨_, rfl⟩
  · cases q
theorem fi_rz : am_fp2 isI r_z := by
  intro cf v u q
  simp only [r_z] at q
  split at q
  · split at q
    · cases q; exact ⟨_, rfl⟩
    · cases q
  · cases q
theorem fi_rl : am_fp2 isJ r_l := by
  intro cf v u q
  simp only [r_l] at q
  split at q
  · cases q; exact ⟨_, rfl⟩
  · cases q
-- the state between two calls of the law
def LInv (n : Nat) (u : am_St) : Prop := (∃ s : sS, CJ u s ∧ MJ u s ∧ PJ s n) ∧ u.1.1 = u_9.1.1 ∧ u.1.2.1 = false ∧ am_len u ≤ 1000 + n ∧ am_wt u ≤ 100000 + 6 * n
theorem li_0 {n : Nat} {u : am_St} (h : LInv n u) : am_kd u 0 = some 10 := by
  obtain ⟨⟨s, hC, -⟩, -⟩ := h
  obtain ⟨⟨tv, cw, -⟩, -⟩ := hC
  exact cw.1.1
theorem li_156 {n : Nat} {u : am_St} (h : LInv n u) : am_kd u 156 = some 11 := by
  obtain ⟨⟨s, -, hM, -⟩, -⟩ := h
  exact hM.1.1.1
theorem li_up {n : Nat} {u : am_St} (h : LInv n u) : LInv (n + 1) u := by
  obtain ⟨⟨s, hC, hM, hP⟩, h1, h2, h3, h4⟩ := h
  exact ⟨⟨s, hC, hM, ps_m hP (by omega)⟩, h1, h2, by omega, by omega⟩
theorem li_st {D6 D7 : am_D} {as : List Value} (h : AStp D6 D7 as) {n : Nat} {u : am_St} (hn : n < 512) (I : LInv n u) : ∃ r u2 u3, D6 (.ref 0 :: as) u = some (some r, u2) ∧ D7 (.ref 156 :: as) u2 = some (some r, u3) ∧ u2.1 = u.1 ∧ u3.1 = u2.1 ∧ LInv (n + 1) u3 := by
  obtain ⟨⟨s, hC, hM, hP⟩, h1, h2, h3, h4⟩ := I
  obtain ⟨r, s2, P2, ⟨u2, e6, f6, C2⟩, hm⟩ := h s n u hn hC hM hP
  obtain ⟨u3, e7, f7, M3⟩ := hm u2 (mi_fr f6 hM)
  have e1 : u3.1 = u.1 := f7.1.trans f6.1
  refine ⟨r, u2, u3, e6, e7, f6.1, f7.1, ⟨s2, ci_fr f7 C2, M3, P2⟩, by rw [e1]; exact h1, by rw [e1]; exact h2, ?_, ?_⟩
  · show u3.1.2.2.1 ≤ 1000 + (n + 1)
    rw [e1]
    exact Nat.le_trans h3 (by omega)
  · show u3.1.2.2.2 ≤ 100000 + 6 * (n + 1)
    rw [e1]
    exact Nat.le_trans h4 (by omega)
theorem kd_1 {u u2 : am_St} {k : Nat} (h : u2.1 = u.1) : am_kd u2 k = am_kd u k := by unfold am_kd; rw [h]
theorem ln_1 {u u2 : am_St} (h : u2.1 = u.1) : am_len u ≤ am_len u2 := by unfold am_len; rw [h]; exact Nat.le_refl _
theorem wt_1 {u u2 : am_St} (h : u2.1 = u.1) : am_wt u ≤ am_wt u2 := by unfold am_wt; rw [h]; exact Nat.le_refl _
