section AMY
variable {p : Program} {l : Launch} {e : Env} {R : Room} {s : State} {m : MethodId} {args : Array Value} {below : List Frame} {meth : Method} {c : Code} {g : am_Gl} {own : String} {cc : ByteArray} {nL n0 z0 nF zF fr lo : Nat} {Q : State → Prop}
theorem am_GoodIn {y : MethodName} {bytes : ByteArray} {maxL : Nat} {ret : Option FieldType} (h : Cond.code y bytes maxL ret ∈ am_tbl) : GoodIn am_tbl (Cond.code y bytes maxL ret :: am_tbl) := by
  intro w hw
  rcases List.mem_cons.mp hw with rfl | hw
  · exact ⟨h, good_of_word (am_good h).2⟩
  · exact ⟨hw, good_of_word (am_good hw).2⟩
/-- behind a call -/
theorem am_run {H : Heap} {locs : List Loc} {cells slots mc ms pc : Nat} {ls : Array Slot} {st0 rest : List Value} {u2 : am_St} {r : Option Value} {a : Array Value} (hr : va_Run p l e R s m args below meth c H locs cells slots mc ms (F0 m pc ls st0) rest (am_Qc g r u2 a) (am_A g)) (hS : va_S (am_A g) s.heap H locs)
    (kk : ∀ (H1 : Heap) (locs1 : List Loc), am_R g u2 H1 → va_S (am_A g) s.heap H1 locs1 → W p l e R s m args below meth c H1 locs1 (cells + mc) (slots + ms) Q (F0 m (pc + 3) ls ((r.map (am_rn g)).toList ++ rest))) : W p l e R s m args below meth c H locs cells slots Q (F0 m pc ls st0) := by
  intro T hT X
  obtain ⟨v, st₀, t, T', L, h0, X', hL, e1, e2, ⟨⟨hv, hRt⟩, hz, hk⟩, st⟩ := hr T hT X
  cases hv
  rw [h0] at hz hk
  obtain ⟨t2, a1, b1⟩ := kk T'.heap (locs ++ L) (by rw [e1]; exact hRt) ⟨Nat.le_trans hS.1 (by rw [e1]; exact hz), fun q h1 h2 => by rw [e1, hk q (Nat.lt_of_lt_of_le h1 hS.1) h2]; exact hS.2.1 q h1 h2, fun q hq => by
      rcases List.mem_append.mp hq with h | h
      · exact hS.2.2 q h
      · exact hL q h⟩ T' rfl X'
  exact ⟨t2, st t2 a1, b1⟩
/-- what a call needs, put together once: Kk makes the run out of the stack's values -/
theorem am_call {pc n : Nat} {d : am_D} {y : MethodName} {bytes : ByteArray} {maxL : Nat} {ret : Option FieldType} {fr2 lo2 : Nat} (C : am_Cx p l e R s m args below meth c g own cc nL n0 z0 nF zF fr lo) (M : am_M y bytes maxL ret fr2 lo2 d) {cf cf2 : am_C} (h : i_cs n d cf = some cf2)
    (hrun : ∀ (u2 : am_St) (r : Option Value) (H : Heap) (locs : List Loc) (ls : Array Slot) (cells slots : Nat), ls.size = nL → am_R g cf.2.2 H → va_S (am_A g) s.heap H locs → (((cf.2.1.drop n).map (am_rn g)).map fun v => v.category).sum ≤ 8 → cells + (am_len u2 - am_len cf.2.2) ≤ R.cells ∧ slots + (am_wt u2 - am_wt cf.2.2) ≤ R.slots →
      Met l y (Cond.code y bytes maxL ret :: am_tbl) { frames := fr2, cells := am_len u2 - am_len cf.2.2, slots := am_wt u2 - am_wt cf.2.2, locals := lo2 } (am_Pc g (cf.2.1.take n).reverse cf.2.2) (am_Qc g r u2) (am_len u2 - am_len cf.2.2) (am_wt u2 - am_wt cf.2.2) (am_A g) →
      (∀ U : State, U.heap = H → s.WarmedH U.vm → am_Pc g (cf.2.1.take n).reverse cf.2.2 ((cf.2.1.take n).reverse.map (am_rn g)).toArray U) → cf.2.1.map (am_rn g) = ((cf.2.1.take n).reverse.map (am_rn g)).reverse ++ (cf.2.1.drop n).map (am_rn g) → ((cf.2.1.take n).reverse.map (am_rn g)).length = n →
      ∃ a, va_Run p l e R s m args below meth c H locs cells slots (am_len u2 - am_len cf.2.2) (am_wt u2 - am_wt cf.2.2) (F0 m pc ls (cf.2.1.map (am_rn g))) ((cf.2.1.drop n).map (am_rn g)) (am_Qc g r u2 a) (am_A g))
    (hG : am_G p l e R s m args below meth c g nL n0 z0 nF zF Q (pc + 3) cf2) : am_G p l e R s m args below meth c g nL n0 z0 nF zF Q pc cf := by
  obtain ⟨L, st, u⟩ := cf
  simp only [i_cs] at h
  split at h
  · next hle =>
    obtain ⟨⟨r, u2⟩, h1, h2⟩ := Option.bind_eq_some_iff.mp h
    simp only at h2
    split at h2
    · next hok =>
      cases h2
      simp only [am_ok, Bool.and_eq_true, decide_eq_true_eq] at hok
      obtain ⟨⟨hsum, hlen⟩, hwt⟩ := hok
      have hb1 : am_len u2 ≤ nF := hG.1.1
      have hb2 : am_wt u2 ≤ zF := hG.1.2
      have hrm := C.2.2.2.2.2.2.2.2
      refine ⟨⟨Nat.le_trans hlen hb1, Nat.le_trans hwt hb2⟩, fun H locs ls hl hR hS hn hz => ?_⟩
      have hn : n0 ≤ am_len u := hn
      have hz : z0 ≤ am_wt u := hz
      have hM := M l g _ u u2 r C.2.2.2.2.2.2.2.1 h1 hlen hwt
      have hstk : st.map (am_rn g) = ((st.take n).reverse.map (am_rn g)).reverse ++ (st.drop n).map (am_rn g) := by
        rw [← List.map_reverse, List.reverse_reverse, ← List.map_append, List.take_append_drop]
      obtain ⟨a, hrn⟩ := hrun u2 r H locs ls (am_len u - n0) (am_wt u - z0) hl.2.1 hR hS (by rw [am_cats]; exact hsum) ⟨by show am_len u - n0 + (am_len u2 - am_len u) ≤ _; omega, by show am_wt u - z0 + (am_wt u2 - am_wt u) ≤ _; omega⟩ hM
        (fun U hU hW => ⟨rfl, by rw [hU]; exact hR, C.2.2.2.2.2.2.1.go hW hU hS⟩) hstk (by simp; exact Nat.min_eq_left hle)
      refine am_run hrn hS fun H1 locs1 hR1 hS1 => ?_
      have kk := hG.2 H1 locs1 ls hl hR1 hS1 (Nat.le_trans hn hlen) (Nat.le_trans hz hwt)
      have e3 : am_len u - n0 + (am_len u2 - am_len u) = am_len u2 - n0 := by omega
      have e4 : am_wt u - z0 + (am_wt u2 - am_wt u) = am_wt u2 - z0 := by omega
      show W p l e R s m args below meth c H1 locs1 (am_len u - n0 + (am_len u2 - am_len u)) (am_wt u - z0 + (am_wt u2 - am_wt u)) Q (F0 m (pc + 3) ls ((r.map (am_rn g)).toList ++ (st.drop n).map (am_rn g)))
      rw [e3, e4]
      have e5 : (r.map (am_rn g)).toList ++ (st.drop n).map (am_rn g) = (r.toList ++ st.drop n).map (am_rn g) := by
        cases r <;> simp
      rw [e5]
      exact kk
    · cases h2
  · cases h
theorem so_cs (C : am_Cx p l e R s m args below meth c g own cc nL n0 z0 nF zF fr lo) {pc index n : Nat} {d : am_D} {y : MethodName} {bytes : ByteArray} {maxL : Nat} {ret : Option FieldType} {fr2 lo2 : Nat} (M : am_M y bytes maxL ret fr2 lo2 d) (hc : Cond.code y bytes maxL ret ∈ am_tbl) (hl : Cond.methodLink own index y ∈ am_tbl) (hst : Cond.static y ∈ am_tbl) (hi : Cond.initialized y.cls ∈ am_tbl) (hy : y.cls ≠ "java/lang/invoke/MethodHandle" ∧ y.cls ≠ "java/lang/invoke/VarHandle" ∧ (parseMethodDescriptor y.desc).map (fun d => d.parameters.length) = some n) (hr : fr2 + 1 ≤ fr ∧ 8 + (maxL + 11) + lo2 ≤ lo) (hd : decode cc pc = .ok (.invokestatic index, 3)) :
    am_SI (am_G p l e R s m args below meth c g nL n0 z0 nF zF Q) pc (pc + 3) (i_cs n d) := by
  intro cf cf2 h hG
  have hts := C.2.2.2.2.1
  have hrm := C.2.2.2.2.2.2.2.2
  refine am_call C M h (fun u2 r H locs ls cells slots hls hR hS hsum hroom hM hPc hstk hlen => ?_) hG
  exact ⟨_, va_runS (Ts := am_tbl) (n := n) (bytes := bytes) (maxL := maxL) (ret := ret) ⟨C.1, C.2.1, C.2.2.1, C.2.2.2.1, hts⟩ hM ⟨callB_of n hts (am_GoodIn hc) rfl rfl rfl (hts _ hi) (hts _ hl) hy ⟨by show fr2 + 1 ≤ _; omega, by show 8 + (maxL + 11) + lo2 ≤ _; omega⟩, hts _ hst⟩ ⟨am_blind, hPc⟩ rfl hlen hls hstk (by show 2 * 0 + _ ≤ _; omega) hd hroom⟩
theorem so_csN (C : am_Cx p l e R s m args below meth c g own cc nL n0 z0 nF zF fr lo) {pc index n : Nat} {d : am_D} {y : MethodName} {host : String} {bytes : ByteArray} {maxL : Nat} {ret : Option FieldType} {fr2 lo2 : Nat} (M : am_M y bytes maxL ret fr2 lo2 d) (hc : Cond.code y bytes maxL ret ∈ am_tbl) (hl : Cond.methodLinkNest own index y host ∈ am_nw) (hst : Cond.static y ∈ am_tbl) (hi : Cond.initialized y.cls ∈ am_tbl) (hy : y.cls ≠ "java/lang/invoke/MethodHandle" ∧ y.cls ≠ "java/lang/invoke/VarHandle" ∧ (parseMethodDescriptor y.desc).map (fun d => d.parameters.length) = some n) (hr : fr2 + 1 ≤ fr ∧ 8 + (maxL + 11) + lo2 ≤ lo) (hd : decode cc pc = .ok (.invokestatic index, 3)) :
    am_SI (am_G p l e R s m args below meth c g nL n0 z0 nF zF Q) pc (pc + 3) (i_cs n d) := by
  intro cf cf2 h hG
  have hts := C.2.2.2.2.1
  have hrm := C.2.2.2.2.2.2.2.2
  refine am_call C M h (fun u2 r H locs ls cells slots hls hR hS hsum hroom hM hPc hstk hlen => ?_) hG
  exact ⟨_, va_runSN (Ts := am_tbl) (n := n) (bytes := bytes) (maxL := maxL) (ret := ret) (host := host) ⟨C.1, C.2.1, C.2.2.1, C.2.2.2.1, hts⟩ hM ⟨va_cnB n hts (am_GoodIn hc) rfl rfl rfl (C.2.2.2.2.2.2.1.2.1 _ hl) (hts _ hi) hy ⟨by show fr2 + 1 ≤ _; omega, by show 8 + (maxL + 11) + lo2 ≤ _; omega⟩, hts _ hst, trivial⟩ ⟨am_blind, hPc⟩ rfl hlen hls hstk (by show 2 * 0 + _ ≤ _; omega) hd hroom⟩
/-- the receiver of a call, n values below the top -/
theorem am_recv {st : List Value} {n : Nat} {v : Value} (h : st[n]? = some v) : (st.take (n + 1)).reverse = v :: (st.take n).reverse := by
  rw [List.take_add_one, h]
  simp
theorem so_cv (C : am_Cx p l e R s m args below meth c g own cc nL n0 z0 nF zF fr lo) {pc index n ci N : Nat} {K : String} {T : u_T} {d : am_D} {y : MethodName} {bytes : ByteArray} {maxL : Nat} {ret : Option FieldType} {fr2 lo2 : Nat} (M : am_M y bytes maxL ret fr2 lo2 d) (hk : am_cl[ci]? = some (K, T, N)) (hc : Cond.code y bytes maxL ret ∈ am_tbl) (hl : Cond.methodLink own index y ∈ am_tbl) (hin : Cond.instanceMethod y ∈ am_tbl) (hse : Cond.selects K y y ∈ am_tbl) (hi : Cond.initialized y.cls ∈ am_tbl) (hy : y.cls ≠ "java/lang/invoke/MethodHandle" ∧ y.cls ≠ "java/lang/invoke/VarHandle" ∧ (parseMethodDescriptor y.desc).map (fun d => d.parameters.length) = some n) (hr : fr2 + 1 ≤ fr ∧ 8 + (maxL + 11) + lo2 ≤ lo) (hd : decode cc pc = .ok (.invokevirtual index, 3)) :
    am_SI (am_G p l e R s m args below meth c g nL n0 z0 nF zF Q) pc (pc + 3) (i_cv ci n d) := by
  intro cf cf2 h hG
  have hts := C.2.2.2.2.1
  have hrm := C.2.2.2.2.2.2.2.2
  simp only [i_cv] at h
  split at h
  · next k hst =>
    split at h
    · next hck =>
      refine am_call C M h (fun u2 r H locs ls cells slots hls hR hS hsum hroom hM hPc hstk hlen => ?_) hG
      obtain ⟨nn, hck⟩ := am_cls hck
      have e1 := am_recv hst
      have hlt := (List.getElem?_eq_some_iff.mp hst).1
      rw [e1] at hstk hPc hlen hM
      exact ⟨_, va_runV (Ts := am_tbl) (n := n) (C := K) (b := am_rho g k) (As := (cf.2.1.take n).reverse.map (am_rn g)) (bytes := bytes) (maxL := maxL) (ret := ret) ⟨C.1, C.2.1, C.2.2.1, C.2.2.2.1, hts⟩ hM ⟨callB_of n hts (am_GoodIn hc) rfl rfl rfl (hts _ hi) (hts _ hl) hy ⟨by show fr2 + 1 ≤ _; omega, by show 8 + (maxL + 11) + lo2 ≤ _; omega⟩, hts _ hin, hts _ hse⟩ ⟨am_blind, va_recv C.2.2.2.2.2.2.1.1 hR.1 hk (am_cell_obj hck), hPc⟩ rfl (by simp; omega) hls (by rw [hstk]; simp [am_rn]) (by show 2 * 0 + _ ≤ _; omega) hd hroom⟩
    · cases h
  · cases h
/-- constructors -/
theorem so_ci (C : am_Cx p l e R s m args below meth c g own cc nL n0 z0 nF zF fr lo) {pc index n ci : Nat} {d : am_D} {y : MethodName} {bytes : ByteArray} {maxL : Nat} {fr2 lo2 : Nat} (M : am_M y bytes maxL none fr2 lo2 d) (hc : Cond.code y bytes maxL none ∈ am_tbl) (hl : Cond.methodLink own index y ∈ am_tbl) (hin : Cond.instanceMethod y ∈ am_tbl) (hi : Cond.initialized y.cls ∈ am_tbl) (hy : y.name = "<init>" ∧ y.cls ≠ "java/lang/invoke/MethodHandle" ∧ y.cls ≠ "java/lang/invoke/VarHandle" ∧ (parseMethodDescriptor y.desc).map (fun d => d.parameters.length) = some n) (hr : fr2 + 1 ≤ fr ∧ 8 + (maxL + 11) + lo2 ≤ lo) (hd : decode cc pc = .ok (.invokespecial index, 3)) :
    am_SI (am_G p l e R s m args below meth c g nL n0 z0 nF zF Q) pc (pc + 3) (i_cv ci n d) := by
  intro cf cf2 h hG
  have hts := C.2.2.2.2.1
  have hrm := C.2.2.2.2.2.2.2.2
  simp only [i_cv] at h
  split at h
  · next k hst =>
    split at h
    · next hck =>
      refine am_call C M h (fun u2 r H locs ls cells slots hls hR hS hsum hroom hM hPc hstk hlen => ?_) hG
      have e1 := am_recv hst
      have hlt := (List.getElem?_eq_some_iff.mp hst).1
      rw [e1] at hstk hPc hlen hM
      exact ⟨_, va_runI (Ts := am_tbl) (n := n) (b := am_rho g k) (As := (cf.2.1.take n).reverse.map (am_rn g)) (bytes := bytes) (maxL := maxL) ⟨C.1, C.2.1, C.2.2.1, C.2.2.2.1, hts⟩ hM ⟨callB_of n hts (am_GoodIn hc) rfl rfl rfl (hts _ hi) (hts _ hl) hy.2 ⟨by show fr2 + 1 ≤ _; omega, by show 8 + (maxL + 11) + lo2 ≤ _; omega⟩, hy.1, hts _ hin⟩ ⟨am_blind, hPc⟩ rfl (by simp; omega) hls (by rw [hstk]; simp [am_rn]) (by show 2 * 0 + _ ≤ _; omega) hd hroom⟩
    · cases h
  · cases h
theorem so_ciN (C : am_Cx p l e R s m args below meth c g own cc nL n0 z0 nF zF fr lo) {pc index n ci : Nat} {d : am_D} {y : MethodName} {host : String} {bytes : ByteArray} {maxL : Nat} {fr2 lo2 : Nat} (M : am_M y bytes maxL none fr2 lo2 d) (hc : Cond.code y bytes maxL none ∈ am_tbl) (hl : Cond.methodLinkNest own index y host ∈ am_nw) (hin : Cond.instanceMethod y ∈ am_tbl) (hi : Cond.initialized y.cls ∈ am_tbl) (hy : y.name = "<init>" ∧ y.cls ≠ "java/lang/invoke/MethodHandle" ∧ y.cls ≠ "java/lang/invoke/VarHandle" ∧ (parseMethodDescriptor y.desc).map (fun d => d.parameters.length) = some n) (hr : fr2 + 1 ≤ fr ∧ 8 + (maxL + 11) + lo2 ≤ lo) (hd : decode cc pc = .ok (.invokespecial index, 3)) :
    am_SI (am_G p l e R s m args below meth c g nL n0 z0 nF zF Q) pc (pc + 3) (i_cv ci n d) := by
  intro cf cf2 h hG
  have hts := C.2.2.2.2.1
  have hrm := C.2.2.2.2.2.2.2.2
  simp only [i_cv] at h
  split at h
  · next k hst =>
    split at h
    · next hck =>
      refine am_call C M h (fun u2 r H locs ls cells slots hls hR hS hsum hroom hM hPc hstk hlen => ?_) hG
      have e1 := am_recv hst
      have hlt := (List.getElem?_eq_some_iff.mp hst).1
      rw [e1] at hstk hPc hlen hM
      exact ⟨_, va_runIN (Ts := am_tbl) (n := n) (b := am_rho g k) (As := (cf.2.1.take n).reverse.map (am_rn g)) (bytes := bytes) (maxL := maxL) (host := host) ⟨C.1, C.2.1, C.2.2.1, C.2.2.2.1, hts⟩ hM ⟨va_cnB n hts (am_GoodIn hc) rfl rfl rfl (C.2.2.2.2.2.2.1.2.1 _ hl) (hts _ hi) hy.2 ⟨by show fr2 + 1 ≤ _; omega, by show 8 + (maxL + 11) + lo2 ≤ _; omega⟩, hy.1, hts _ hin⟩ ⟨am_blind, hPc⟩ rfl (by simp; omega) hls (by rw [hstk]; simp [am_rn]) (by show 2 * 0 + _ ≤ _; omega) hd hroom⟩
    · cases h
  · cases h
end AMY
