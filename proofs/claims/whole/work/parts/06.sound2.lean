section AMT
variable {p : Program} {l : Launch} {e : Env} {R : Room} {s : State} {m : MethodId} {args : Array Value} {below : List Frame} {meth : Method} {c : Code} {g : am_Gl} {own : String} {cc : ByteArray} {nL n0 z0 nF zF fr lo : Nat} {Q : State → Prop}
theorem so_iadd (C : am_Cx p l e R s m args below meth c g own cc nL n0 z0 nF zF fr lo) {pc : Nat} (hd : decode cc pc = .ok (.iadd, 1)) : am_SI (am_G p l e R s m args below meth c g nL n0 z0 nF zF Q) pc (pc + 1) (i_2 (fun x y => x + y)) :=
  am_pure fun L st u cf2 h => by
    simp only [i_2] at h
    split at h
    · cases h
      exact ⟨rfl, fun H locs ls cells slots hl k => lv_iadd C.1 C.2.1 hd (k ls hl)⟩
    · cases h
theorem so_isub (C : am_Cx p l e R s m args below meth c g own cc nL n0 z0 nF zF fr lo) {pc : Nat} (hd : decode cc pc = .ok (.isub, 1)) : am_SI (am_G p l e R s m args below meth c g nL n0 z0 nF zF Q) pc (pc + 1) (i_2 (fun x y => x - y)) :=
  am_pure fun L st u cf2 h => by
    simp only [i_2] at h
    split at h
    · cases h
      exact ⟨rfl, fun H locs ls cells slots hl k => lv_isub C.1 C.2.1 hd (k ls hl)⟩
    · cases h
theorem so_imul (C : am_Cx p l e R s m args below meth c g own cc nL n0 z0 nF zF fr lo) {pc : Nat} (hd : decode cc pc = .ok (.imul, 1)) : am_SI (am_G p l e R s m args below meth c g nL n0 z0 nF zF Q) pc (pc + 1) (i_2 (fun x y => x * y)) :=
  am_pure fun L st u cf2 h => by
    simp only [i_2] at h
    split at h
    · cases h
      exact ⟨rfl, fun H locs ls cells slots hl k => lv_imul C.1 C.2.1 hd (k ls hl)⟩
    · cases h
theorem so_iand (C : am_Cx p l e R s m args below meth c g own cc nL n0 z0 nF zF fr lo) {pc : Nat} (hd : decode cc pc = .ok (.iand, 1)) : am_SI (am_G p l e R s m args below meth c g nL n0 z0 nF zF Q) pc (pc + 1) (i_2 (fun x y => x &&& y)) :=
  am_pure fun L st u cf2 h => by
    simp only [i_2] at h
    split at h
    · cases h
      exact ⟨rfl, fun H locs ls cells slots hl k => lv_iand C.1 C.2.1 hd (k ls hl)⟩
    · cases h
theorem so_ior (C : am_Cx p l e R s m args below meth c g own cc nL n0 z0 nF zF fr lo) {pc : Nat} (hd : decode cc pc = .ok (.ior, 1)) : am_SI (am_G p l e R s m args below meth c g nL n0 z0 nF zF Q) pc (pc + 1) (i_2 (fun x y => x ||| y)) :=
  am_pure fun L st u cf2 h => by
    simp only [i_2] at h
    split at h
    · cases h
      exact ⟨rfl, fun H locs ls cells slots hl k => lv_ior C.1 C.2.1 hd (k ls hl)⟩
    · cases h
theorem so_ixor (C : am_Cx p l e R s m args below meth c g own cc nL n0 z0 nF zF fr lo) {pc : Nat} (hd : decode cc pc = .ok (.ixor, 1)) : am_SI (am_G p l e R s m args below meth c g nL n0 z0 nF zF Q) pc (pc + 1) (i_2 (fun x y => x ^^^ y)) :=
  am_pure fun L st u cf2 h => by
    simp only [i_2] at h
    split at h
    · cases h
      exact ⟨rfl, fun H locs ls cells slots hl k => lv_ixor C.1 C.2.1 hd (k ls hl)⟩
    · cases h
theorem so_ishl (C : am_Cx p l e R s m args below meth c g own cc nL n0 z0 nF zF fr lo) {pc : Nat} (hd : decode cc pc = .ok (.ishl, 1)) : am_SI (am_G p l e R s m args below meth c g nL n0 z0 nF zF Q) pc (pc + 1) (i_2 (fun x y => x <<< (y &&& 31))) :=
  am_pure fun L st u cf2 h => by
    simp only [i_2] at h
    split at h
    · cases h
      exact ⟨rfl, fun H locs ls cells slots hl k => lv_ishl C.1 C.2.1 hd (k ls hl)⟩
    · cases h
theorem so_ishr (C : am_Cx p l e R s m args below meth c g own cc nL n0 z0 nF zF fr lo) {pc : Nat} (hd : decode cc pc = .ok (.ishr, 1)) : am_SI (am_G p l e R s m args below meth c g nL n0 z0 nF zF Q) pc (pc + 1) (i_2 (fun x y => x >>> (y &&& 31))) :=
  am_pure fun L st u cf2 h => by
    simp only [i_2] at h
    split at h
    · cases h
      exact ⟨rfl, fun H locs ls cells slots hl k => lv_ishr C.1 C.2.1 hd (k ls hl)⟩
    · cases h
theorem so_iushr (C : am_Cx p l e R s m args below meth c g own cc nL n0 z0 nF zF fr lo) {pc : Nat} (hd : decode cc pc = .ok (.iushr, 1)) : am_SI (am_G p l e R s m args below meth c g nL n0 z0 nF zF Q) pc (pc + 1) (i_2 (fun x y => (x.toUInt32 >>> (y.toUInt32 &&& Int32.toUInt32 31)).toInt32)) :=
  am_pure fun L st u cf2 h => by
    simp only [i_2] at h
    split at h
    · cases h
      exact ⟨rfl, fun H locs ls cells slots hl k => lv_iushr C.1 C.2.1 hd rfl (k ls hl)⟩
    · cases h
theorem so_ladd (C : am_Cx p l e R s m args below meth c g own cc nL n0 z0 nF zF fr lo) {pc : Nat} (hd : decode cc pc = .ok (.ladd, 1)) : am_SI (am_G p l e R s m args below meth c g nL n0 z0 nF zF Q) pc (pc + 1) (j_2 (fun x y => x + y)) :=
  am_pure fun L st u cf2 h => by
    simp only [j_2] at h
    split at h
    · cases h
      exact ⟨rfl, fun H locs ls cells slots hl k => lv_ladd C.1 C.2.1 hd (k ls hl)⟩
    · cases h
theorem so_lmul (C : am_Cx p l e R s m args below meth c g own cc nL n0 z0 nF zF fr lo) {pc : Nat} (hd : decode cc pc = .ok (.lmul, 1)) : am_SI (am_G p l e R s m args below meth c g nL n0 z0 nF zF Q) pc (pc + 1) (j_2 (fun x y => x * y)) :=
  am_pure fun L st u cf2 h => by
    simp only [j_2] at h
    split at h
    · cases h
      exact ⟨rfl, fun H locs ls cells slots hl k => lv_lmul C.1 C.2.1 hd (k ls hl)⟩
    · cases h
theorem so_lsub (C : am_Cx p l e R s m args below meth c g own cc nL n0 z0 nF zF fr lo) {pc : Nat} (hd : decode cc pc = .ok (.lsub, 1)) : am_SI (am_G p l e R s m args below meth c g nL n0 z0 nF zF Q) pc (pc + 1) (j_2 (fun x y => x - y)) :=
  am_pure fun L st u cf2 h => by
    simp only [j_2] at h
    split at h
    · cases h
      exact ⟨rfl, fun H locs ls cells slots hl k => lv_lsub C.1 C.2.1 hd (k ls hl)⟩
    · cases h
theorem so_lcmp (C : am_Cx p l e R s m args below meth c g own cc nL n0 z0 nF zF fr lo) {pc : Nat} (hd : decode cc pc = .ok (.lcmp, 1)) : am_SI (am_G p l e R s m args below meth c g nL n0 z0 nF zF Q) pc (pc + 1) (j_cmp) :=
  am_pure fun L st u cf2 h => by
    simp only [j_cmp] at h
    split at h
    · cases h
      exact ⟨rfl, fun H locs ls cells slots hl k => W.lcmp C.1 C.2.1 hd (k ls hl)⟩
    · cases h
theorem so_i2l (C : am_Cx p l e R s m args below meth c g own cc nL n0 z0 nF zF fr lo) {pc : Nat} (hd : decode cc pc = .ok (.i2l, 1)) : am_SI (am_G p l e R s m args below meth c g nL n0 z0 nF zF Q) pc (pc + 1) (i_i2l) :=
  am_pure fun L st u cf2 h => by
    simp only [i_i2l] at h
    split at h
    · cases h
      exact ⟨rfl, fun H locs ls cells slots hl k => lv_i2l C.1 C.2.1 hd rfl (k ls hl)⟩
    · cases h
theorem so_i2b (C : am_Cx p l e R s m args below meth c g own cc nL n0 z0 nF zF fr lo) {pc : Nat} (hd : decode cc pc = .ok (.i2b, 1)) : am_SI (am_G p l e R s m args below meth c g nL n0 z0 nF zF Q) pc (pc + 1) (i_1 (fun x => x.toInt8.toInt32)) :=
  am_pure fun L st u cf2 h => by
    simp only [i_1] at h
    split at h
    · cases h
      exact ⟨rfl, fun H locs ls cells slots hl k => lv_i2b C.1 C.2.1 hd rfl (k ls hl)⟩
    · cases h
theorem so_idiv (C : am_Cx p l e R s m args below meth c g own cc nL n0 z0 nF zF fr lo) {pc : Nat} (hd : decode cc pc = .ok (.idiv, 1)) : am_SI (am_G p l e R s m args below meth c g nL n0 z0 nF zF Q) pc (pc + 1) (i_2n (fun x y => x / y)) :=
  am_pure fun L st u cf2 h => by
    simp only [i_2n] at h
    split at h
    · split at h
      · cases h
      · next hc =>
        cases h
        exact ⟨rfl, fun H locs ls cells slots hl k => lv_idiv C.1 C.2.1 hd hc (k ls hl)⟩
    · cases h
theorem so_irem (C : am_Cx p l e R s m args below meth c g own cc nL n0 z0 nF zF fr lo) {pc : Nat} (hd : decode cc pc = .ok (.irem, 1)) : am_SI (am_G p l e R s m args below meth c g nL n0 z0 nF zF Q) pc (pc + 1) (i_2n (fun x y => x - x / y * y)) :=
  am_pure fun L st u cf2 h => by
    simp only [i_2n] at h
    split at h
    · split at h
      · cases h
      · next hc =>
        cases h
        exact ⟨rfl, fun H locs ls cells slots hl k => lv_irem C.1 C.2.1 hd hc (k ls hl)⟩
    · cases h
theorem so_ldiv (C : am_Cx p l e R s m args below meth c g own cc nL n0 z0 nF zF fr lo) {pc : Nat} (hd : decode cc pc = .ok (.ldiv, 1)) : am_SI (am_G p l e R s m args below meth c g nL n0 z0 nF zF Q) pc (pc + 1) (j_2n (fun x y => x / y)) :=
  am_pure fun L st u cf2 h => by
    simp only [j_2n] at h
    split at h
    · split at h
      · cases h
      · next hc =>
        cases h
        exact ⟨rfl, fun H locs ls cells slots hl k => lv_ldiv C.1 C.2.1 hd hc (k ls hl)⟩
    · cases h
theorem so_lrem (C : am_Cx p l e R s m args below meth c g own cc nL n0 z0 nF zF fr lo) {pc : Nat} (hd : decode cc pc = .ok (.lrem, 1)) : am_SI (am_G p l e R s m args below meth c g nL n0 z0 nF zF Q) pc (pc + 1) (j_2n (fun x y => x - x / y * y)) :=
  am_pure fun L st u cf2 h => by
    simp only [j_2n] at h
    split at h
    · split at h
      · cases h
      · next hc =>
        cases h
        exact ⟨rfl, fun H locs ls cells slots hl k => lv_lrem C.1 C.2.1 hd hc (k ls hl)⟩
    · cases h
theorem so_dup (C : am_Cx p l e R s m args below meth c g own cc nL n0 z0 nF zF fr lo) {pc : Nat} (hd : decode cc pc = .ok (.dup, 1)) : am_SI (am_G p l e R s m args below meth c g nL n0 z0 nF zF Q) pc (pc + 1) (i_dup) :=
  am_pure fun L st u cf2 h => by
    simp only [i_dup] at h
    split at h
    · split at h
      · next hc =>
        cases h
        exact ⟨rfl, fun H locs ls cells slots hl k => lv_dup C.1 C.2.1 hd (by rw [am_rn_cat]; exact hc) (k ls hl)⟩
      · next hc =>
        cases h
    · cases h
theorem so_pop (C : am_Cx p l e R s m args below meth c g own cc nL n0 z0 nF zF fr lo) {pc : Nat} (hd : decode cc pc = .ok (.pop, 1)) : am_SI (am_G p l e R s m args below meth c g nL n0 z0 nF zF Q) pc (pc + 1) (i_pop) :=
  am_pure fun L st u cf2 h => by
    simp only [i_pop] at h
    split at h
    · split at h
      · next hc =>
        cases h
        exact ⟨rfl, fun H locs ls cells slots hl k => lv_pop C.1 C.2.1 hd (by rw [am_rn_cat]; exact hc) (k ls hl)⟩
      · next hc =>
        cases h
    · cases h
theorem so_dup2 (C : am_Cx p l e R s m args below meth c g own cc nL n0 z0 nF zF fr lo) {pc : Nat} (hd : decode cc pc = .ok (.dup2, 1)) : am_SI (am_G p l e R s m args below meth c g nL n0 z0 nF zF Q) pc (pc + 1) (i_dup2) :=
  am_pure fun L st u cf2 h => by
    simp only [i_dup2] at h
    split at h
    · split at h
      · next hc =>
        cases h
        exact ⟨rfl, fun H locs ls cells slots hl k => lv_dup2_11 C.1 C.2.1 hd (by rw [am_rn_cat]; exact hc.1) (by rw [am_rn_cat]; exact hc.2) (k ls hl)⟩
      · next hc =>
        cases h
    · cases h
theorem so_if_eq (C : am_Cx p l e R s m args below meth c g own cc nL n0 z0 nF zF fr lo) {pc tgt : Nat} {off : Int} (hd : decode cc pc = .ok (.ifCond .eq off, 3)) (ht : (pc : Int) + off = (tgt : Int)) : am_SB (am_G p l e R s m args below meth c g nL n0 z0 nF zF Q) pc tgt (pc + 3) (b_1 (fun x => decide (x = 0))) :=
  am_pureB fun L st u x cf2 h => by
    simp only [b_1] at h
    split at h
    · cases h
      exact ⟨rfl, rfl, fun H locs ls cells slots k1 k2 => lv_if_eq C.1 C.2.1 hd ht (fun q => k1 (decide_eq_true q)) (fun q => k2 (decide_eq_false q))⟩
    · cases h
theorem so_icmp_eq (C : am_Cx p l e R s m args below meth c g own cc nL n0 z0 nF zF fr lo) {pc tgt : Nat} {off : Int} (hd : decode cc pc = .ok (.if_icmp .eq off, 3)) (ht : (pc : Int) + off = (tgt : Int)) : am_SB (am_G p l e R s m args below meth c g nL n0 z0 nF zF Q) pc tgt (pc + 3) (b_2 (fun x y => decide (x = y))) :=
  am_pureB fun L st u x cf2 h => by
    simp only [b_2] at h
    split at h
    · cases h
      exact ⟨rfl, rfl, fun H locs ls cells slots k1 k2 => lv_icmp_eq C.1 C.2.1 hd ht (fun q => k1 (decide_eq_true q)) (fun q => k2 (decide_eq_false q))⟩
    · cases h
theorem so_if_ne (C : am_Cx p l e R s m args below meth c g own cc nL n0 z0 nF zF fr lo) {pc tgt : Nat} {off : Int} (hd : decode cc pc = .ok (.ifCond .ne off, 3)) (ht : (pc : Int) + off = (tgt : Int)) : am_SB (am_G p l e R s m args below meth c g nL n0 z0 nF zF Q) pc tgt (pc + 3) (b_1 (fun x => decide (¬ x = 0))) :=
  am_pureB fun L st u x cf2 h => by
    simp only [b_1] at h
    split at h
    · cases h
      exact ⟨rfl, rfl, fun H locs ls cells slots k1 k2 => lv_if_ne C.1 C.2.1 hd ht (fun q => k1 (decide_eq_true q)) (fun q => k2 (decide_eq_false (fun z => z q)))⟩
    · cases h
theorem so_icmp_ne (C : am_Cx p l e R s m args below meth c g own cc nL n0 z0 nF zF fr lo) {pc tgt : Nat} {off : Int} (hd : decode cc pc = .ok (.if_icmp .ne off, 3)) (ht : (pc : Int) + off = (tgt : Int)) : am_SB (am_G p l e R s m args below meth c g nL n0 z0 nF zF Q) pc tgt (pc + 3) (b_2 (fun x y => decide (¬ x = y))) :=
  am_pureB fun L st u x cf2 h => by
    simp only [b_2] at h
    split at h
    · cases h
      exact ⟨rfl, rfl, fun H locs ls cells slots k1 k2 => lv_icmp_ne C.1 C.2.1 hd ht (fun q => k1 (decide_eq_true q)) (fun q => k2 (decide_eq_false (fun z => z q)))⟩
    · cases h
theorem so_if_lt (C : am_Cx p l e R s m args below meth c g own cc nL n0 z0 nF zF fr lo) {pc tgt : Nat} {off : Int} (hd : decode cc pc = .ok (.ifCond .lt off, 3)) (ht : (pc : Int) + off = (tgt : Int)) : am_SB (am_G p l e R s m args below meth c g nL n0 z0 nF zF Q) pc tgt (pc + 3) (b_1 (fun x => decide (x < 0))) :=
  am_pureB fun L st u x cf2 h => by
    simp only [b_1] at h
    split at h
    · cases h
      exact ⟨rfl, rfl, fun H locs ls cells slots k1 k2 => lv_if_lt C.1 C.2.1 hd ht (fun q => k1 (decide_eq_true q)) (fun q => k2 (decide_eq_false q))⟩
    · cases h
theorem so_icmp_lt (C : am_Cx p l e R s m args below meth c g own cc nL n0 z0 nF zF fr lo) {pc tgt : Nat} {off : Int} (hd : decode cc pc = .ok (.if_icmp .lt off, 3)) (ht : (pc : Int) + off = (tgt : Int)) : am_SB (am_G p l e R s m args below meth c g nL n0 z0 nF zF Q) pc tgt (pc + 3) (b_2 (fun x y => decide (x < y))) :=
  am_pureB fun L st u x cf2 h => by
    simp only [b_2] at h
    split at h
    · cases h
      exact ⟨rfl, rfl, fun H locs ls cells slots k1 k2 => lv_icmp_lt C.1 C.2.1 hd ht (fun q => k1 (decide_eq_true q)) (fun q => k2 (decide_eq_false q))⟩
    · cases h
theorem so_if_ge (C : am_Cx p l e R s m args below meth c g own cc nL n0 z0 nF zF fr lo) {pc tgt : Nat} {off : Int} (hd : decode cc pc = .ok (.ifCond .ge off, 3)) (ht : (pc : Int) + off = (tgt : Int)) : am_SB (am_G p l e R s m args below meth c g nL n0 z0 nF zF Q) pc tgt (pc + 3) (b_1 (fun x => decide (0 ≤ x))) :=
  am_pureB fun L st u x cf2 h => by
    simp only [b_1] at h
    split at h
    · cases h
      exact ⟨rfl, rfl, fun H locs ls cells slots k1 k2 => lv_if_ge C.1 C.2.1 hd ht (fun q => k1 (decide_eq_true q)) (fun q => k2 (decide_eq_false q))⟩
    · cases h
theorem so_icmp_ge (C : am_Cx p l e R s m args below meth c g own cc nL n0 z0 nF zF fr lo) {pc tgt : Nat} {off : Int} (hd : decode cc pc = .ok (.if_icmp .ge off, 3)) (ht : (pc : Int) + off = (tgt : Int)) : am_SB (am_G p l e R s m args below meth c g nL n0 z0 nF zF Q) pc tgt (pc + 3) (b_2 (fun x y => decide (y ≤ x))) :=
  am_pureB fun L st u x cf2 h => by
    simp only [b_2] at h
    split at h
    · cases h
      exact ⟨rfl, rfl, fun H locs ls cells slots k1 k2 => lv_icmp_ge C.1 C.2.1 hd ht (fun q => k1 (decide_eq_true q)) (fun q => k2 (decide_eq_false q))⟩
    · cases h
theorem so_if_gt (C : am_Cx p l e R s m args below meth c g own cc nL n0 z0 nF zF fr lo) {pc tgt : Nat} {off : Int} (hd : decode cc pc = .ok (.ifCond .gt off, 3)) (ht : (pc : Int) + off = (tgt : Int)) : am_SB (am_G p l e R s m args below meth c g nL n0 z0 nF zF Q) pc tgt (pc + 3) (b_1 (fun x => decide (0 < x))) :=
  am_pureB fun L st u x cf2 h => by
    simp only [b_1] at h
    split at h
    · cases h
      exact ⟨rfl, rfl, fun H locs ls cells slots k1 k2 => lv_if_gt C.1 C.2.1 hd ht (fun q => k1 (decide_eq_true q)) (fun q => k2 (decide_eq_false q))⟩
    · cases h
theorem so_icmp_gt (C : am_Cx p l e R s m args below meth c g own cc nL n0 z0 nF zF fr lo) {pc tgt : Nat} {off : Int} (hd : decode cc pc = .ok (.if_icmp .gt off, 3)) (ht : (pc : Int) + off = (tgt : Int)) : am_SB (am_G p l e R s m args below meth c g nL n0 z0 nF zF Q) pc tgt (pc + 3) (b_2 (fun x y => decide (y < x))) :=
  am_pureB fun L st u x cf2 h => by
    simp only [b_2] at h
    split at h
    · cases h
      exact ⟨rfl, rfl, fun H locs ls cells slots k1 k2 => lv_icmp_gt C.1 C.2.1 hd ht (fun q => k1 (decide_eq_true q)) (fun q => k2 (decide_eq_false q))⟩
    · cases h
theorem so_if_le (C : am_Cx p l e R s m args below meth c g own cc nL n0 z0 nF zF fr lo) {pc tgt : Nat} {off : Int} (hd : decode cc pc = .ok (.ifCond .le off, 3)) (ht : (pc : Int) + off = (tgt : Int)) : am_SB (am_G p l e R s m args below meth c g nL n0 z0 nF zF Q) pc tgt (pc + 3) (b_1 (fun x => decide (x ≤ 0))) :=
  am_pureB fun L st u x cf2 h => by
    simp only [b_1] at h
    split at h
    · cases h
      exact ⟨rfl, rfl, fun H locs ls cells slots k1 k2 => lv_if_le C.1 C.2.1 hd ht (fun q => k1 (decide_eq_true q)) (fun q => k2 (decide_eq_false q))⟩
    · cases h
theorem so_icmp_le (C : am_Cx p l e R s m args below meth c g own cc nL n0 z0 nF zF fr lo) {pc tgt : Nat} {off : Int} (hd : decode cc pc = .ok (.if_icmp .le off, 3)) (ht : (pc : Int) + off = (tgt : Int)) : am_SB (am_G p l e R s m args below meth c g nL n0 z0 nF zF Q) pc tgt (pc + 3) (b_2 (fun x y => decide (x ≤ y))) :=
  am_pureB fun L st u x cf2 h => by
    simp only [b_2] at h
    split at h
    · cases h
      exact ⟨rfl, rfl, fun H locs ls cells slots k1 k2 => lv_icmp_le C.1 C.2.1 hd ht (fun q => k1 (decide_eq_true q)) (fun q => k2 (decide_eq_false q))⟩
    · cases h
theorem so_goto (C : am_Cx p l e R s m args below meth c g own cc nL n0 z0 nF zF fr lo) {pc tgt : Nat} {off : Int} {Rt : Option Value → am_St → Prop} {f : am_F} (hd : decode cc pc = .ok (.goto off, 3)) (ht : (pc : Int) + off = (tgt : Int)) (h : am_Snd (am_G p l e R s m args below meth c g nL n0 z0 nF zF Q) Rt tgt f) : am_Snd (am_G p l e R s m args below meth c g nL n0 z0 nF zF Q) Rt pc f := by
  intro cf o ho hat
  have hG := h cf o ho hat
  exact ⟨hG.1, fun H locs ls hl hR hS hn hz => lv_goto C.1 C.2.1 hd ht (hG.2 H locs ls hl hR hS hn hz)⟩
theorem so_sw (C : am_Cx p l e R s m args below meth c g own cc nL n0 z0 nF zF fr lo) {pc len : Nat} {lo2 hi dflt : Int} {offs : Array Int} {Rt : Option Value → am_St → Prop} {fs : List am_F} {d : am_F} {td : Nat} (hd : decode cc pc = .ok (.tableswitch dflt lo2 hi offs, len)) (hn : fs.length = (hi - lo2 + 1).toNat) (hlh : lo2 ≤ hi) (htd : (pc : Int) + dflt = (td : Int)) (h0 : am_Snd (am_G p l e R s m args below meth c g nL n0 z0 nF zF Q) Rt td d)
    (h : ∀ (k : Nat) (f : am_F), fs[k]? = some f → ∃ (off : Int) (tg : Nat), offs[k]? = some off ∧ (pc : Int) + off = (tg : Int) ∧ am_Snd (am_G p l e R s m args below meth c g nL n0 z0 nF zF Q) Rt tg f) : am_Snd (am_G p l e R s m args below meth c g nL n0 z0 nF zF Q) Rt pc (am_sw lo2 fs d) := by
  intro cf o ho hat
  obtain ⟨L, st, u⟩ := cf
  simp only [am_sw] at ho
  split at ho
  · next x r =>
    split at ho
    · next hx =>
      have hG := h0 _ o ho hat
      exact ⟨hG.1, fun H locs ls hl hR hS hn hz => lv_tableOut C.1 C.2.1 hd (Or.inl hx) htd (hG.2 H locs ls hl hR hS hn hz)⟩
    · next hx =>
      split at ho
      · next f hf =>
        obtain ⟨off, tg, g1, g2, g3⟩ := h _ f hf
        have hG := g3 _ o ho hat
        have hlt := (List.getElem?_eq_some_iff.mp hf).1
        exact ⟨hG.1, fun H locs ls hl hR hS hn2 hz => lv_tableIn C.1 C.2.1 hd hx (by omega) g1 g2 (hG.2 H locs ls hl hR hS hn2 hz)⟩
      · next hf =>
        have hG := h0 _ o ho hat
        have hge := List.getElem?_eq_none_iff.mp hf
        exact ⟨hG.1, fun H locs ls hl hR hS hn2 hz => lv_tableOut C.1 C.2.1 hd (Or.inr (by omega)) htd (hG.2 H locs ls hl hR hS hn2 hz)⟩
  · cases ho
end AMT
