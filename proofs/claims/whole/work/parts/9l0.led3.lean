-- LED IN THE LAW
section
variable {u u1 u2 u3 : am_St} {hs : Bool} {V : vS} {E : xE} {G G2 : gS} {a i k n tv : Nat} {H K : Nat → gS} {tr fl wh t2 : Int32} {t : Nat → Nat}
theorem ci_fx (f1 : u2.1 = u.1) (f2 : u2.2.2.2 = u.2.2.2) (f3 : ∀ a, a < 156 → u2.2.1 a = u.2.1 a ∧ u2.2.2.1 a = u.2.2.1 a) (hC : CI u hs V G a H i K tr fl wh k t) : CI u2 hs V G a H i K tr fl wh k t := by
  obtain ⟨⟨tv, ⟨c1, c2, c3, c4, ⟨g1, g2, g3, g4⟩, c5⟩, c6⟩, ⟨v1, v2⟩, ⟨σ, c7⟩, c8, c9, ⟨c10, c11, c12⟩, c13, c14⟩ := hC
  have e : u2.2.1 0 = u.2.1 0 := (f3 0 (by omega)).1
  have r : ∀ x, u2.2.2.2 x = u.2.2.2 x := fun x => by rw [f2]
  have e2 : u2.2.1 2 = u.2.1 2 := (f3 2 (by omega)).1
  refine ⟨⟨tv, ⟨cl_r f1 (fun x j _ => by rw [f2]) c1, by rw [f2]; exact c2, c3, by rw [e]; exact c4, ⟨gok_r f1 (r _) g1, gok_r f1 (r _) g2, gok_r f1 (r _) g3, gok_r f1 (r _) g4⟩, fun q => ⟨vl_r f1 (r _) (fun x h1 h2 => (f3 x (by omega)).1) (c5 q).1, gd_r f1 (r _) (fun x h1 h2 => (f3 x (by omega)).1) (c5 q).2⟩⟩, by rw [f2]; exact c6⟩, ⟨vok_r f1 (r _) v1, vok_r f1 (r _) v2⟩, ⟨σ, ca_c c7 f1 (fun x _ => r x) (fun x h1 h2 => (f3 x (by omega)).1) (by rw [e])⟩, ci_c c8 f1 (fun x _ => r x) (fun x h1 h2 => (f3 x (by omega)).1) (by rw [e]), pln_c (by rw [e]) (f3 43 (by omega)).1 (f3 43 (by omega)).2 (f3 48 (by omega)).1 rfl c9, ⟨by rw [e]; exact c10, by rw [e2]; exact c11, fun q => by rw [e2]; exact c12 q⟩, by rw [e]; exact c13, fun j hj => by rw [(f3 1 (by omega)).1]; exact c14 j hj⟩
theorem mi_fx (f1 : u2.1 = u.1) (f2 : ∀ a, 156 ≤ a ∧ a ≤ 174 → u2.2.1 a = u.2.1 a ∧ u2.2.2.1 a = u.2.2.1 a ∧ u2.2.2.2 a = u.2.2.2 a) (hM : MI u hs V E G a H i K tr fl wh k t) : MI u2 hs V E G a H i K tr fl wh k t := by
  obtain ⟨⟨m1, m2, m3⟩, m4, m5, ⟨m6, m7, m8⟩, m9, m10⟩ := hM
  have e := (f2 156 (by omega)).1
  refine ⟨⟨md_r f1 (f2 156 (by omega)).2.2 m1, by rw [e]; exact m2, fun q => ⟨ml_c (f2 159 (by omega)).1 (m3 q).1, rw_c (f2 161 (by omega)).1 (m3 q).2⟩⟩, ma_c (f2 162 (by omega)).1 (by rw [e]) m4, mi_c (f2 163 (by omega)).1 (by rw [e]) m5, ⟨by rw [e]; exact m6, by rw [e]; exact m7, fun q => by rw [e]; exact m8 q⟩, by rw [e]; exact m9, fun j hj => by rw [(f2 157 (by omega)).1]; exact m10 j hj⟩
theorem ci_bp (h : CI u hs V G a H i K tr fl wh k t) : CI (am_bp u) hs V G a H i K tr fl wh k t := h
theorem mi_bp (h : MI u hs V E G a H i K tr fl wh k t) : MI (am_bp u) hs V E G a H i K tr fl wh k t := h
theorem oJ_o {v : Int64} {q : Nat} (h : ¬ q = 175) : (am_uJ u 175 0 v).2.2.1 q = u.2.2.1 q := by
  show (if q = 175 then _ else _) = _
  rw [if_neg h]
theorem ci_oJ {v : Int64} (h : CI u hs V G a H i K tr fl wh k t) : CI (am_uJ u 175 0 v) hs V G a H i K tr fl wh k t := ci_fx (u := u) rfl rfl (fun q hq => ⟨rfl, oJ_o (q := q) (by omega)⟩) h
theorem mi_oJ {v : Int64} (h : MI u hs V E G a H i K tr fl wh k t) : MI (am_uJ u 175 0 v) hs V E G a H i K tr fl wh k t := mi_fx (u := u) rfl (fun q hq => ⟨rfl, oJ_o (q := q) (by omega), rfl⟩) h
end
section LAW
variable {p : Program} {l : Launch} {e : Env} {s : State} {m : MethodId} {below : List Frame} {meth : Method} {c : Code} {g : am_Gl} {b L : Nat} {xs : Nat → Int32}
set_option maxHeartbeats 4000000 in
theorem so_led (C : lCx p l e s m below meth c g b L xs) {LL : List (Option Value)} {u u2 : am_St} {x r k : Int32} (hf : u.1.2.1 = false) (hk0 : am_kd u 0 = some 10) (h175 : u.1.1[175]? = some (2, 1)) (hn : d_X6_nthWithoutVigour [.ref 0, .int x] u = some (some (.int r), u))
    (hy : 0 ≤ r → k = 0 ∧ u2 = am_uJ (am_bp u) 175 0 r.toInt64) (hno : ¬ 0 ≤ r → k = 1 ∧ u2 = am_bp u) (K : lG p l e s m below meth c g b 1643 (LL, [.int k], u2)) : lG p l e s m below meth c g b 1640 (LL, [.ref 175, .int x, .ref 0], u) := by
  have e12 : am_len u2 = am_len u + 1 ∧ am_wt u2 = am_wt u + 6 := by
    by_cases h : 0 ≤ r
    · obtain ⟨-, rfl⟩ := hy h
      exact ⟨rfl, rfl⟩
    · obtain ⟨-, rfl⟩ := hno h
      exact ⟨rfl, rfl⟩
  obtain ⟨e1, e2⟩ := e12
  have b1 : am_len u2 ≤ 601024 := K.1.1
  have b2 : am_wt u2 ≤ 7293034 := K.1.2
  refine ⟨⟨by show am_len u ≤ 601024; omega, by show am_wt u ≤ 7293034; omega⟩, fun H locs ls hl hR hS hn9 hz9 => ?_⟩
  have hR : am_R g u H := hR
  have hS : va_S (am_A g) s.heap H locs := hS
  have hl : am_lv g ls 7 LL := hl
  have hK := C.1.2.2.2.2.2.2.1
  have hts := C.1.2.2.2.2.1
  refine am_run (r := some (.int k)) (u2 := u2) (mc := 1) (ms := 6) (rest := []) (a := ([.ref (am_rho g 0), .int x, .ref (am_rho g 175)] : List Value).toArray) (vx_runSW (Ts := am_tbl) (n := 3) (bytes := cL_led) (maxL := 4) (ret := some .int) (hh := [(0, 9, 12, 13)]) (As := [.ref (am_rho g 0), .int x, .ref (am_rho g 175)]) (rest := []) ⟨C.1.1, C.1.2.1, C.1.2.2.1, C.1.2.2.2.1, hts⟩ (m_lled (g := g) C.1.2.2.2.2.2.2.2.1 hf hk0 h175 hn hy hno) (vx_cwSW 3 hts (am_GoodW kl_w kl_11 kl_12 kl_13) rfl rfl rfl ⟨by decide, by decide, by decide +kernel⟩ ⟨by show 20 + 1 ≤ 2048; decide, by show 8 + (4 + 11) + 400 ≤ 84000; decide⟩) ⟨am_blind, fun U hU hW => ⟨rfl, by rw [hU]; exact hR, hK.go hW hU hS⟩⟩ rfl rfl hl.2.1 rfl (by show 2 * 0 + 0 ≤ 8; omega) dL_law_1640 ⟨by show am_len u - 0 + 1 ≤ 601024; omega, by show am_wt u - 0 + 6 ≤ 7293034; omega⟩) hS fun H1 locs1 hR1 hS1 => ?_
  have kk := K.2 H1 locs1 ls hl hR1 hS1 (Nat.zero_le _) (Nat.zero_le _)
  exact W.widen (k := am_len u2 - 0) (n := am_wt u2 - 0) (by show am_len u - 0 + 1 ≤ am_len u2 - 0; omega) (by show am_wt u - 0 + 6 ≤ am_wt u2 - 0; omega) kk
theorem i_la0 {LL : List (Option Value)} {u : am_St} {st : List Value} (h : u.1.1[175]? = some (2, 1)) : i_la (LL, .int 0 :: .ref 175 :: st, u) = some (LL, .long (u.2.2.1 175 0) :: st, u) := by
  show (match u.1.1[175]? with
    | some (a, n) => if a = 2 ∧ ¬ ((0 : Int32) < 0 ∨ n ≤ (0 : Int32).toNatClampNeg) then some (LL, Value.long (u.2.2.1 175 (0 : Int32).toNatClampNeg) :: st, u) else none
    | none => none) = _
  rw [h]
  show (if 2 = 2 ∧ ¬ ((0 : Int32) < 0 ∨ 1 ≤ (0 : Int32).toNatClampNeg) then some (LL, Value.long (u.2.2.1 175 (0 : Int32).toNatClampNeg) :: st, u) else none) = _
  rw [if_pos (by decide)]
  rfl
theorem ledy_pos {sx : sS} {n : Nat} {x : Int32} (hP : PJ sx n) (h : ledy sx x) : s_led sx.2.1 sx.2.2.2.1 x < 6 := by
  have hV := (hP.2.2 h.1).1
  exact Nat.lt_of_lt_of_le h.2 hV.1
set_option maxHeartbeats 4000000 in
theorem lwc_46 (C : lCx p l e s m below meth c g b L xs) {n i : Nat} {o5 o6 : Option Value} {u : am_St} (hi : i + 6 ≤ L) (hn : n < 512) (I : LInv n u) (IH : ∀ (u3 : am_St) (o5 o6 : Option Value), LInv (n + 1) u3 → lG p l e s m below meth c g b 1726 (Lc i o5 o6, [], u3)) : lG p l e s m below meth c g b 1632 (Lc i o5 o6, [], u) := by
  have I0 := li_0 I
  have I156 := li_156 I
  obtain ⟨⟨sx, hC, hM, hP⟩, hlay, hfl, hlen, hwt⟩ := I
  have h175 : u.1.1[175]? = some (2, 1) := by rw [hlay]; exact u9_l.1
  have hnth := st_nth (x := xs (i + 1)) hn hC hP
  refine (so_aload_n C.1 dL_law_1632 rfl) _ (Lc i o5 o6, [.ref 0], u) rfl ?_
  refine so_arg C 1 (by decide) hi (by decide) dL_law_1633 dL_law_1634 dL_law_1636 dL_law_1637 dL_law_1638 ?_
  refine (so_aload_n C.1 dL_law_1639 rfl) _ (Lc i o5 o6, [.ref 175, .int (xs (i + 1)), .ref 0], u) rfl ?_
  by_cases hy : ledy sx (xs (i + 1))
  · have h6 := ledy_pos hP hy
    rw [if_pos hy] at hnth
    have hpos : 0 ≤ nI (s_led sx.2.1 sx.2.2.2.1 (xs (i + 1))) := nI_pos' (by omega)
    generalize hr : s_led sx.2.1 sx.2.2.2.1 (xs (i + 1)) = r at hnth hpos h6
    refine so_led C hfl I0 h175 hnth (k := 0) (u2 := am_uJ (am_bp u) 175 0 (nI r).toInt64) (fun _ => ⟨rfl, rfl⟩) (fun h => absurd hpos h) ?_
    have hC2 : CJ (am_uJ (am_bp u) 175 0 (nI r).toInt64) sx := ci_oJ (ci_bp hC)
    have hM2 : MJ (am_uJ (am_bp u) 175 0 (nI r).toInt64) sx := mi_oJ (mi_bp hM)
    obtain ⟨u3, e7, f7, M3, et⟩ := st_ledm (x := xs (i + 1)) hn hM2 hP
    rw [if_pos hy, hr] at e7
    rw [if_pos hy] at et
    have hv : (am_uJ (am_bp u) 175 0 (nI r).toInt64).2.2.1 175 0 = (nI r).toInt64 := rfl
    have hkd : am_kd (am_uJ (am_bp u) 175 0 (nI r).toInt64) 156 = some 11 := I156
    have hla : (am_uJ (am_bp u) 175 0 (nI r).toInt64).1.1 = u.1.1 := rfl
    have hfl2 : (am_uJ (am_bp u) 175 0 (nI r).toInt64).1.2.1 = false := hfl
    have hle2 : am_len (am_uJ (am_bp u) 175 0 (nI r).toInt64) ≤ 1000 + (n + 1) := by show am_len u + 1 ≤ _; omega
    have hwt2 : am_wt (am_uJ (am_bp u) 175 0 (nI r).toInt64) ≤ 100000 + 6 * (n + 1) := by show am_wt u + 6 ≤ _; omega
    generalize am_uJ (am_bp u) 175 0 (nI r).toInt64 = u2 at hC2 hM2 e7 f7 hv hkd hla hfl2 hle2 hwt2 ⊢
    have I3 : LInv (n + 1) u3 := ⟨⟨sx, ci_fr f7 hC2, M3, ps_m hP (by omega)⟩, by rw [f7.1, hla]; exact hlay, by rw [f7.1]; exact hfl2, by unfold am_len at hle2 ⊢; rw [f7.1]; exact hle2, by unfold am_wt at hwt2 ⊢; rw [f7.1]; exact hwt2⟩
    have h175' : u3.1.1[175]? = some (2, 1) := by rw [f7.1, hla]; exact h175
    have hv3 : u3.2.2.1 175 0 = (nI r).toInt64 := by rw [(f7.2.2 175 (by omega)).2]; exact hv
    refine (so_istore C.1 dL_law_1643 (by decide)) _ (Lc i (some (.int 0)) o6, [], u2) rfl ?_
    refine (so_aload_n C.1 dL_law_1645 rfl) _ (Lc i (some (.int 0)) o6, [.ref 156], u2) rfl ?_
    refine so_arg C 1 (by decide) hi (by decide) dL_law_1646 dL_law_1647 dL_law_1649 dL_law_1650 dL_law_1651 ?_
    refine (so_cv (ci := 7) (n := 1) C.1 m_X7_led rfl klq_384 klq_385 klq_386 klq_387 k_475 ⟨by decide, by decide, by decide +kernel⟩ (by decide) dL_law_1652) _ (Lc i (some (.int 0)) o6, [.int (nI r)], u3) (cv_go (as := [.int (xs (i + 1))]) (st := []) rfl hkd e7 (Nat.le_of_ble_eq_true rfl) (ln_1 f7.1) (wt_1 f7.1)) ?_
    refine (so_istore C.1 dL_law_1655 (by decide)) _ (Lc i (some (.int 0)) (some (.int (nI r))), [], u3) rfl ?_
    refine (so_aload_n C.1 dL_law_1657 rfl) _ (Lc i (some (.int 0)) (some (.int (nI r))), [.ref 156], u3) rfl ?_
    refine (so_cv (ci := 7) (n := 0) C.1 m_X7_thrown rfl klq_388 klq_389 klq_390 klq_391 k_475 ⟨by decide, by decide, by decide +kernel⟩ (by decide) dL_law_1658) _ (Lc i (some (.int 0)) (some (.int (nI r))), [.int 0], u3) (cv_go (as := []) (st := []) rfl ((kd_1 f7.1).trans hkd) et (Nat.le_of_ble_eq_true rfl) (Nat.le_refl _) (Nat.le_refl _)) ?_
    refine (so_iload C.1 dL_law_1661) _ (Lc i (some (.int 0)) (some (.int (nI r))), [.int 0, .int 0], u3) rfl ?_
    refine so_eqi C dL_law_1663 (tgt := 1668) (by decide) ?_
    refine (so_iload C.1 dL_law_1668) _ (Lc i (some (.int 0)) (some (.int (nI r))), [.int 0], u3) rfl ?_
    refine (so_if_ne C.1 dL_law_1670 (tgt := 1685) (by decide)) _ false (Lc i (some (.int 0)) (some (.int (nI r))), [], u3) rfl (fun h => nomatch h) (fun _ => ?_)
    refine (so_aload_n C.1 dL_law_1673 rfl) _ (Lc i (some (.int 0)) (some (.int (nI r))), [.ref 175], u3) rfl ?_
    refine (so_iconst C.1 dL_law_1674 (v := 0) (by decide)) _ (Lc i (some (.int 0)) (some (.int (nI r))), [.int 0, .ref 175], u3) rfl ?_
    refine (so_lald C.1 dL_law_1675) _ (Lc i (some (.int 0)) (some (.int (nI r))), [.long (u3.2.2.1 175 0)], u3) (i_la0 h175') ?_
    refine (so_iload C.1 dL_law_1676) _ (Lc i (some (.int 0)) (some (.int (nI r))), [.int (nI r), .long (u3.2.2.1 175 0)], u3) rfl ?_
    refine (so_i2l C.1 dL_law_1678) _ (Lc i (some (.int 0)) (some (.int (nI r))), [.long (nI r).toInt64, .long (u3.2.2.1 175 0)], u3) rfl ?_
    rw [hv3]
    refine so_eql C dL_law_1679 dL_law_1680 (tgt := 1685) (by decide) ?_
    exact so_jp C dL_law_1685 (tgt := 1726) (by decide) (IH u3 _ _ I3)
  · rw [if_neg hy] at hnth
    have hneg : ¬ (0 : Int32) ≤ -1 := by decide
    refine so_led C hfl I0 h175 hnth (k := 1) (u2 := am_bp u) (fun h => absurd h hneg) (fun _ => ⟨rfl, rfl⟩) ?_
    have hC2 : CJ (am_bp u) sx := ci_bp hC
    have hM2 : MJ (am_bp u) sx := mi_bp hM
    obtain ⟨u3, e7, f7, M3, et⟩ := st_ledm (x := xs (i + 1)) hn hM2 hP
    rw [if_neg hy] at e7 et
    have hkd : am_kd (am_bp u) 156 = some 11 := I156
    have hla : (am_bp u).1.1 = u.1.1 := rfl
    have hfl2 : (am_bp u).1.2.1 = false := hfl
    have hle2 : am_len (am_bp u) ≤ 1000 + (n + 1) := by show am_len u + 1 ≤ _; omega
    have hwt2 : am_wt (am_bp u) ≤ 100000 + 6 * (n + 1) := by show am_wt u + 6 ≤ _; omega
    generalize am_bp u = u2 at hC2 hM2 e7 f7 hkd hla hfl2 hle2 hwt2 ⊢
    have I3 : LInv (n + 1) u3 := ⟨⟨sx, ci_fr f7 hC2, M3, ps_m hP (by omega)⟩, by rw [f7.1, hla]; exact hlay, by rw [f7.1]; exact hfl2, by unfold am_len at hle2 ⊢; rw [f7.1]; exact hle2, by unfold am_wt at hwt2 ⊢; rw [f7.1]; exact hwt2⟩
    refine (so_istore C.1 dL_law_1643 (by decide)) _ (Lc i (some (.int 1)) o6, [], u2) rfl ?_
    refine (so_aload_n C.1 dL_law_1645 rfl) _ (Lc i (some (.int 1)) o6, [.ref 156], u2) rfl ?_
    refine so_arg C 1 (by decide) hi (by decide) dL_law_1646 dL_law_1647 dL_law_1649 dL_law_1650 dL_law_1651 ?_
    refine (so_cv (ci := 7) (n := 1) C.1 m_X7_led rfl klq_384 klq_385 klq_386 klq_387 k_475 ⟨by decide, by decide, by decide +kernel⟩ (by decide) dL_law_1652) _ (Lc i (some (.int 1)) o6, [.int 0], u3) (cv_go (as := [.int (xs (i + 1))]) (st := []) rfl hkd e7 (Nat.le_of_ble_eq_true rfl) (ln_1 f7.1) (wt_1 f7.1)) ?_
    refine (so_istore C.1 dL_law_1655 (by decide)) _ (Lc i (some (.int 1)) (some (.int 0)), [], u3) rfl ?_
    refine (so_aload_n C.1 dL_law_1657 rfl) _ (Lc i (some (.int 1)) (some (.int 0)), [.ref 156], u3) rfl ?_
    refine (so_cv (ci := 7) (n := 0) C.1 m_X7_thrown rfl klq_388 klq_389 klq_390 klq_391 k_475 ⟨by decide, by decide, by decide +kernel⟩ (by decide) dL_law_1658) _ (Lc i (some (.int 1)) (some (.int 0)), [.int 1], u3) (cv_go (as := []) (st := []) rfl ((kd_1 f7.1).trans hkd) et (Nat.le_of_ble_eq_true rfl) (Nat.le_refl _) (Nat.le_refl _)) ?_
    refine (so_iload C.1 dL_law_1661) _ (Lc i (some (.int 1)) (some (.int 0)), [.int 1, .int 1], u3) rfl ?_
    refine so_eqi C dL_law_1663 (tgt := 1668) (by decide) ?_
    refine (so_iload C.1 dL_law_1668) _ (Lc i (some (.int 1)) (some (.int 0)), [.int 1], u3) rfl ?_
    refine (so_if_ne C.1 dL_law_1670 (tgt := 1685) (by decide)) _ true (Lc i (some (.int 1)) (some (.int 0)), [], u3) rfl (fun _ => ?_) (fun h => nomatch h)
    exact so_jp C dL_law_1685 (tgt := 1726) (by decide) (IH u3 _ _ I3)
end LAW
