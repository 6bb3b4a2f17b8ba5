-- THE LAW'S LOOP
abbrev tgts : List Nat := [252, 325, 350, 363, 376, 413, 438, 463, 476, 489, 514, 551, 588, 613, 638, 663, 688, 701, 726, 763, 800, 849, 874, 887, 929, 971, 996, 1033, 1082, 1119, 1168, 1217, 1294, 1319, 1344, 1357, 1382, 1395, 1420, 1457, 1494, 1531, 1568, 1581, 1594, 1607, 1632, 1688, 1713]
theorem sw_go {LL : List (Option Value)} {st : List Value} {u : am_St} {x : Int32} (h : ¬ x.toInt < 0) : am_sw 0 (tgts.map am_to) (am_to 1726) (LL, .int x :: st, u) = some (.inl (tgts.getD x.toInt.toNat 1726, (LL, st, u))) := by
  show (if x.toInt < 0 then am_to 1726 (LL, st, u) else match (tgts.map am_to)[(x.toInt - 0).toNat]? with
    | some f => f (LL, st, u)
    | none => am_to 1726 (LL, st, u)) = _
  rw [if_neg h, Int.sub_zero, List.getElem?_map, List.getD_eq_getElem?_getD]
  cases tgts[x.toInt.toNat]? <;> rfl
theorem and63 (x : Int32) : ¬ (x &&& 63).toInt < 0 := by
  have hm : (x &&& 63).toBitVec.msb = false := by
    rw [Int32.toBitVec_and, BitVec.msb_and]
    rw [show (63 : Int32).toBitVec.msb = false from by decide, Bool.and_false]
  show ¬ (x &&& 63).toBitVec.toInt < 0
  rw [BitVec.toInt_eq_msb_cond, hm]
  simp
theorem lt6 : ∀ k, k < 6 → nI k - 6 < 0 := by decide +kernel
theorem head_no {L i : Nat} (hL : L ≤ 3072) (hi : i + 6 ≤ L) : ¬ nI L - 6 < nI i := by
  obtain ⟨k, rfl⟩ : ∃ k, L = k + 6 := ⟨L - 6, by omega⟩
  have e : nI (k + 6) - 6 = nI k := by
    rw [← nI_add]
    exact Int32.add_sub_cancel _ _
  rw [e]
  exact nI_nlt (by omega) (by omega)
theorem head_yes {L i : Nat} (hL : L ≤ 3072) (hi : L < i + 6) (hi2 : i ≤ 4000) : nI L - 6 < nI i := by
  by_cases h : L < 6
  · have h1 := lt6 L h
    have h2 : 0 ≤ nI i := nI_pos' (by omega)
    rw [Int32.lt_iff_toInt_lt] at h1 ⊢
    rw [Int32.le_iff_toInt_le] at h2
    omega
  · obtain ⟨k, rfl⟩ : ∃ k, L = k + 6 := ⟨L - 6, by omega⟩
    have e : nI (k + 6) - 6 = nI k := by
      rw [← nI_add]
      exact Int32.add_sub_cancel _ _
    rw [e]
    exact nI_lt (by omega) (by omega)
section LAW
variable {p : Program} {l : Launch} {e : Env} {s : State} {m : MethodId} {below : List Frame} {meth : Method} {c : Code} {g : am_Gl} {b L : Nat} {xs : Nat → Int32}
theorem law_sw (C : lCx p l e s m below meth c g b L xs) {n i : Nat} {o5 o6 : Option Value} {u : am_St} (v : Nat) (hi : i + 6 ≤ L) (hn : n < 512) (I : LInv n u) (IH : ∀ (u3 : am_St) (o5 o6 : Option Value), LInv (n + 1) u3 → lG p l e s m below meth c g b 1726 (Lc i o5 o6, [], u3)) : lG p l e s m below meth c g b (tgts.getD v 1726) (Lc i o5 o6, [], u) := by
  match v with
  | 0 => exact lwc_0 C hi hn I IH
  | 1 => exact lwc_1 C hi hn I IH
  | 2 => exact lwc_2 C hi hn I IH
  | 3 => exact lwc_3 C hi hn I IH
  | 4 => exact lwc_4 C hi hn I IH
  | 5 => exact lwc_5 C hi hn I IH
  | 6 => exact lwc_6 C hi hn I IH
  | 7 => exact lwc_7 C hi hn I IH
  | 8 => exact lwc_8 C hi hn I IH
  | 9 => exact lwc_9 C hi hn I IH
  | 10 => exact lwc_10 C hi hn I IH
  | 11 => exact lwc_11 C hi hn I IH
  | 12 => exact lwc_12 C hi hn I IH
  | 13 => exact lwc_13 C hi hn I IH
  | 14 => exact lwc_14 C hi hn I IH
  | 15 => exact lwc_15 C hi hn I IH
  | 16 => exact lwc_16 C hi hn I IH
  | 17 => exact lwc_17 C hi hn I IH
  | 18 => exact lwc_18 C hi hn I IH
  | 19 => exact lwc_19 C hi hn I IH
  | 20 => exact lwc_20 C hi hn I IH
  | 21 => exact lwc_21 C hi hn I IH
  | 22 => exact lwc_22 C hi hn I IH
  | 23 => exact lwc_23 C hi hn I IH
  | 24 => exact lwc_24 C hi hn I IH
  | 25 => exact lwc_25 C hi hn I IH
  | 26 => exact lwc_26 C hi hn I IH
  | 27 => exact lwc_27 C hi hn I IH
  | 28 => exact lwc_28 C hi hn I IH
  | 29 => exact lwc_29 C hi hn I IH
  | 30 => exact lwc_30 C hi hn I IH
  | 31 => exact lwc_31 C hi hn I IH
  | 32 => exact lwc_32 C hi hn I IH
  | 33 => exact lwc_33 C hi hn I IH
  | 34 => exact lwc_34 C hi hn I IH
  | 35 => exact lwc_35 C hi hn I IH
  | 36 => exact lwc_36 C hi hn I IH
  | 37 => exact lwc_37 C hi hn I IH
  | 38 => exact lwc_38 C hi hn I IH
  | 39 => exact lwc_39 C hi hn I IH
  | 40 => exact lwc_40 C hi hn I IH
  | 41 => exact lwc_41 C hi hn I IH
  | 42 => exact lwc_42 C hi hn I IH
  | 43 => exact lwc_43 C hi hn I IH
  | 44 => exact lwc_44 C hi hn I IH
  | 45 => exact lwc_45 C hi hn I IH
  | 46 => exact lwc_46 C hi hn I IH
  | 47 => exact lwc_47 C hi hn I IH
  | 48 => exact lwc_48 C hi hn I IH
  | v + 49 => exact IH u o5 o6 (li_up I)
set_option maxHeartbeats 4000000 in
theorem law_tab (C : lCx p l e s m below meth c g b L xs) : am_Snd (lG p l e s m below meth c g b) (fun _ _ => True) 40 (am_sw 0 (tgts.map am_to) (am_to 1726)) := by
  refine so_sw C.1 dL_law_40 rfl (by decide) (td := 1726) (by decide) so_to (fun k f hk => ?_)
  rw [List.getElem?_map] at hk
  obtain ⟨t, ht, rfl⟩ := Option.map_eq_some_iff.mp hk
  refine ⟨(t : Int) - 40, t, ?_, by omega, so_to⟩
  have ho : (#[212, 285, 310, 323, 336, 373, 398, 423, 436, 449, 474, 511, 548, 573, 598, 623, 648, 661, 686, 723, 760, 809, 834, 847, 889, 931, 956, 993, 1042, 1079, 1128, 1177, 1254, 1279, 1304, 1317, 1342, 1355, 1380, 1417, 1454, 1491, 1528, 1541, 1554, 1567, 1592, 1648, 1673] : Array Int) = (tgts.map fun t : Nat => (t : Int) - 40).toArray := by decide +kernel
  rw [ho, List.getElem?_toArray, List.getElem?_map, ht]
  rfl
set_option maxHeartbeats 4000000 in
theorem law_lp (C : lCx p l e s m below meth c g b L xs) : ∀ (q n : Nat) (u : am_St) (o5 o6 : Option Value), L < 6 * n + 6 + 6 * q → 6 * n ≤ L → LInv n u → lG p l e s m below meth c g b 23 (Lc (6 * n) o5 o6, [], u) := by
  have hL := C.2.2.1
  intro q
  induction q with
  | zero =>
    intro n u o5 o6 h1 h2 I
    refine (so_iload C.1 dL_law_23) _ (Lc (6 * n) o5 o6, [.int (nI (6 * n))], u) rfl ?_
    refine so_slen C dL_law_25 dL_law_26 ?_
    refine (so_bipush C.1 dL_law_27 (v := 6) (by decide)) _ (Lc (6 * n) o5 o6, [.int 6, .int (nI L), .int (nI (6 * n))], u) rfl ?_
    refine (so_isub C.1 dL_law_29) _ (Lc (6 * n) o5 o6, [.int (nI L - 6), .int (nI (6 * n))], u) rfl ?_
    refine (so_icmp_gt C.1 dL_law_30 (tgt := 1732) (by decide)) _ true (Lc (6 * n) o5 o6, [], u) (by show some (decide (nI L - 6 < nI (6 * n)), Lc (6 * n) o5 o6, [], u) = _; rw [decide_eq_true (head_yes hL (by omega) (by omega))]) (fun _ => ?_) (fun h => nomatch h)
    refine (so_iconst C.1 dL_law_1732 (v := 1) (by decide)) _ (Lc (6 * n) o5 o6, [.int 1], u) rfl ?_
    have hl1 := I.2.2.2.1
    have hl2 := I.2.2.2.2
    refine ⟨⟨by show am_len u ≤ 601024; omega, by show am_wt u ≤ 7293034; omega⟩, fun H locs ls hl hR hS hn hz => ?_⟩
    have hS : va_S (am_A g) s.heap H locs := hS
    refine va_forget (fun q hq => by have h := hS.2.2 q hq; rw [← C.2.1.2.2.1]; exact h) ?_
    refine W.widen (k := 601024) (n := 7293034) (by show am_len u - 0 ≤ 601024; omega) (by show am_wt u - 0 ≤ 7293034; omega) ?_
    exact lw_ret C.1.1 C.1.2.1 C.2.2.2 C.1.2.2.2.2.2.1 dL_law_1733
  | succ q ih =>
    intro n u o5 o6 h1 h2 I
    by_cases hi : 6 * n + 6 ≤ L
    · have hn : n < 512 := by omega
      refine (so_iload C.1 dL_law_23) _ (Lc (6 * n) o5 o6, [.int (nI (6 * n))], u) rfl ?_
      refine so_slen C dL_law_25 dL_law_26 ?_
      refine (so_bipush C.1 dL_law_27 (v := 6) (by decide)) _ (Lc (6 * n) o5 o6, [.int 6, .int (nI L), .int (nI (6 * n))], u) rfl ?_
      refine (so_isub C.1 dL_law_29) _ (Lc (6 * n) o5 o6, [.int (nI L - 6), .int (nI (6 * n))], u) rfl ?_
      refine (so_icmp_gt C.1 dL_law_30 (tgt := 1732) (by decide)) _ false (Lc (6 * n) o5 o6, [], u) (by show some (decide (nI L - 6 < nI (6 * n)), Lc (6 * n) o5 o6, [], u) = _; rw [decide_eq_false (head_no hL hi)]) (fun h => nomatch h) (fun _ => ?_)
      refine so_arg0 C hi dL_law_33 dL_law_34 dL_law_36 ?_
      refine (so_bipush C.1 dL_law_37 (v := 63) (by decide)) _ (Lc (6 * n) o5 o6, [.int 63, .int (xs (6 * n))], u) rfl ?_
      refine (so_iand C.1 dL_law_39) _ (Lc (6 * n) o5 o6, [.int (xs (6 * n) &&& 63)], u) rfl ?_
      refine (law_tab C) _ _ (sw_go (and63 _)) ?_
      refine law_sw C _ hi hn I (fun u3 p5 p6 I3 => ?_)
      refine (so_iinc C.1 dL_law_1726 (v := 6) (by decide) (by decide)) _ (Lc (6 * (n + 1)) p5 p6, [], u3) ?_ ?_
      · show some ([some (.ref 1000021), some (.ref 0), some (.ref 156), some (.ref 175), some (.int (nI (6 * n) + 6)), p5, p6], [], u3) = _
        rw [show nI (6 * n) + 6 = nI (6 * (n + 1)) from nI_add (6 * n) 6]
      · exact so_jp C dL_law_1729 (tgt := 23) (by decide) (ih (n + 1) u3 p5 p6 (by omega) (by omega) I3)
    · refine (so_iload C.1 dL_law_23) _ (Lc (6 * n) o5 o6, [.int (nI (6 * n))], u) rfl ?_
      refine so_slen C dL_law_25 dL_law_26 ?_
      refine (so_bipush C.1 dL_law_27 (v := 6) (by decide)) _ (Lc (6 * n) o5 o6, [.int 6, .int (nI L), .int (nI (6 * n))], u) rfl ?_
      refine (so_isub C.1 dL_law_29) _ (Lc (6 * n) o5 o6, [.int (nI L - 6), .int (nI (6 * n))], u) rfl ?_
      refine (so_icmp_gt C.1 dL_law_30 (tgt := 1732) (by decide)) _ true (Lc (6 * n) o5 o6, [], u) (by show some (decide (nI L - 6 < nI (6 * n)), Lc (6 * n) o5 o6, [], u) = _; rw [decide_eq_true (head_yes hL (by omega) (by omega))]) (fun _ => ?_) (fun h => nomatch h)
      refine (so_iconst C.1 dL_law_1732 (v := 1) (by decide)) _ (Lc (6 * n) o5 o6, [.int 1], u) rfl ?_
      have hl1 := I.2.2.2.1
      have hl2 := I.2.2.2.2
      refine ⟨⟨by show am_len u ≤ 601024; omega, by show am_wt u ≤ 7293034; omega⟩, fun H locs ls hl hR hS hn hz => ?_⟩
      have hS : va_S (am_A g) s.heap H locs := hS
      refine va_forget (fun q hq => by have h := hS.2.2 q hq; rw [← C.2.1.2.2.1]; exact h) ?_
      refine W.widen (k := 601024) (n := 7293034) (by show am_len u - 0 ≤ 601024; omega) (by show am_wt u - 0 ≤ 7293034; omega) ?_
      exact lw_ret C.1.1 C.1.2.1 C.2.2.2 C.1.2.2.2.2.2.1 dL_law_1733
end LAW
