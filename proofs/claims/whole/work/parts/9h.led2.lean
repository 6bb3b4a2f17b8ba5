-- LED: GraftQuarrel.led throws, the law catches it
theorem kl_0 : Cond.code yX6_nthWithoutVigour cX6_nthWithoutVigour 4 (some .int) ∈ am_tbl := am_t 1051 (by decide +kernel) rfl
theorem kl_1 : Cond.methodLink RX6 286 yX6_nthWithoutVigour ∈ am_tbl := am_t 1048 (by decide +kernel) rfl
theorem kl_2 : Cond.instanceMethod yX6_nthWithoutVigour ∈ am_tbl := am_t 1050 (by decide +kernel) rfl
theorem kl_3 : Cond.selects RX6 yX6_nthWithoutVigour yX6_nthWithoutVigour ∈ am_tbl := am_ts 57 (by decide +kernel) rfl
theorem kl_4 : Cond.code yX6_led cX6_led 3 (some .int) ∈ am_tbl := am_t 1047 (by decide +kernel) rfl
theorem kl_5 : Cond.methodLink RL 7 yX6_led ∈ am_tbl := am_t 1044 (by decide +kernel) rfl
theorem kl_6 : Cond.instanceMethod yX6_led ∈ am_tbl := am_t 1045 (by decide +kernel) rfl
theorem kl_7 : Cond.selects RX6 yX6_led yX6_led ∈ am_tbl := am_t 1046 (by decide +kernel) rfl
theorem kl_8 : Cond.classLink RL 13 "java/util/NoSuchElementException" ∈ am_tbl := am_t 1043 (by decide +kernel) rfl
theorem kl_9 : Cond.classLink RX6 289 "java/util/NoSuchElementException" ∈ am_tbl := am_t 1052 (by decide +kernel) rfl
theorem kl_10 : Cond.initialized "java/util/NoSuchElementException" ∈ am_tbl := am_t 18 (by decide +kernel) rfl
theorem kl_11 : Cond.methodLink RL 211 yL_led ∈ am_tbl := am_t 1040 (by decide +kernel) rfl
theorem kl_12 : Cond.static yL_led ∈ am_tbl := am_t 1041 (by decide +kernel) rfl
theorem kl_13 : Cond.initialized RL ∈ am_tbl := am_t 0 (by decide +kernel) rfl
theorem kl_w : Cond.codeWith yL_led cL_led 4 (some .int) [(0, 9, 12, 13)] ∈ am_tbl := am_t 1042 (by decide +kernel) rfl
theorem dX6_led_0 : decode cX6_led 0 = .ok (.aload_n 0, 1) := by decide +kernel
theorem dX6_led_1 : decode cX6_led 1 = .ok (.iload_n 1, 1) := by decide +kernel
theorem dX6_led_2 : decode cX6_led 2 = .ok (.invokevirtual 286, 3) := by decide +kernel
theorem dX6_led_5 : decode cX6_led 5 = .ok (.istore_n 2, 1) := by decide +kernel
theorem dX6_led_6 : decode cX6_led 6 = .ok (.iload_n 2, 1) := by decide +kernel
theorem dX6_led_7 : decode cX6_led 7 = .ok (.ifCond .ge 11, 3) := by decide +kernel
theorem dX6_led_10 : decode cX6_led 10 = .ok (.new 289, 3) := by decide +kernel
theorem dX6_led_13 : decode cX6_led 13 = .ok (.dup, 1) := by decide +kernel
theorem dX6_led_14 : decode cX6_led 14 = .ok (.invokespecial 291, 3) := by decide +kernel
theorem dX6_led_17 : decode cX6_led 17 = .ok (.athrow, 1) := by decide +kernel
theorem dX6_led_18 : decode cX6_led 18 = .ok (.iload_n 2, 1) := by decide +kernel
theorem dX6_led_19 : decode cX6_led 19 = .ok (.ireturn, 1) := by decide +kernel
theorem dL_led_0 : decode cL_led 0 = .ok (.aload_n 2, 1) := by decide +kernel
theorem dL_led_1 : decode cL_led 1 = .ok (.iconst 0, 1) := by decide +kernel
theorem dL_led_2 : decode cL_led 2 = .ok (.aload_n 0, 1) := by decide +kernel
theorem dL_led_3 : decode cL_led 3 = .ok (.iload_n 1, 1) := by decide +kernel
theorem dL_led_4 : decode cL_led 4 = .ok (.invokevirtual 7, 3) := by decide +kernel
theorem dL_led_7 : decode cL_led 7 = .ok (.i2l, 1) := by decide +kernel
theorem dL_led_8 : decode cL_led 8 = .ok (.lastore, 1) := by decide +kernel
theorem dL_led_9 : decode cL_led 9 = .ok (.goto 6, 3) := by decide +kernel
theorem dL_led_12 : decode cL_led 12 = .ok (.astore_n 3, 1) := by decide +kernel
theorem dL_led_13 : decode cL_led 13 = .ok (.iconst 1, 1) := by decide +kernel
theorem dL_led_14 : decode cL_led 14 = .ok (.ireturn, 1) := by decide +kernel
theorem dL_led_15 : decode cL_led 15 = .ok (.iconst 0, 1) := by decide +kernel
theorem dL_led_16 : decode cL_led 16 = .ok (.ireturn, 1) := by decide +kernel
abbrev nsE : String := "java/util/NoSuchElementException"
abbrev nsN : List String := ["java/lang/RuntimeException", "java/lang/Exception"]
theorem ns_g : ∀ w ∈ (vx_at0 RX6 291 nsE nsN).filter goodWord, w ∈ lw_tbl := by decide +kernel
theorem ns_b : ∀ w ∈ (vx_at0 RX6 291 nsE nsN).filter (fun w => !goodWord w), w ∈ lw_tbl ∧ (w.keepsFace && w.onTables) = true := by decide +kernel
theorem ns_o : ∀ w ∈ Cond.classLink RX6 289 nsE :: Cond.initialized nsE :: vx_at0 RX6 291 nsE nsN, vx_ot w = true := by decide +kernel
theorem ns_c : Cond.castable nsE nsE ∈ lw_tbl ∧ ((Cond.castable nsE nsE).keepsFace && (Cond.castable nsE nsE).onTables) = true := ⟨List.mem_append_right _ (List.mem_of_getElem? (i := 1054) (by decide +kernel)), rfl⟩
theorem am_Kw {g : am_Gl} {U : State} (h : am_K g U) {w : Cond} (hw : w ∈ lw_tbl) (hf : (w.keepsFace && w.onTables) = true) {a : Array Value} : w.before a U = true := by
  have hf2 := hf
  simp only [Bool.and_eq_true] at hf2
  obtain ⟨-, -, -, -, -, -, -, -, -, -, h11⟩ := h
  exact va_tabs hf2.2 rfl (h11 w hw hf)
theorem ns_at {g : am_Gl} {s : State} {args : Array Value} (hts : ∀ w ∈ am_tbl, w.before args s = true) (hK : am_K g s) : ∀ w ∈ vx_at0 RX6 291 nsE nsN, w.before args s = true := by
  intro w hw
  by_cases hg : goodWord w = true
  · exact hts w (List.mem_filter.mpr ⟨ns_g w (List.mem_filter.mpr ⟨hw, hg⟩), hg⟩)
  · have h := ns_b w (List.mem_filter.mpr ⟨hw, by simp [hg]⟩)
    exact am_Kw hK h.1 h.2
-- one more cell of six slots is counted
def am_bp (u : am_St) : am_St := ((u.1.1, u.1.2.1, u.1.2.2.1 + 1, u.1.2.2.2 + 6), u.2)
theorem am_R_up {g : am_Gl} {u : am_St} {H H1 : Heap} (hf : u.1.2.1 = false) (hR : am_R g u H) (hk : ∀ q : Nat, q < H.size → H1[q]? = H[q]?) : am_R g u H1 :=
  ⟨hR.1.kept (fun k q h => hk q.1 (hR.1 k q h).lt), hR.2.1, fun h => by rw [hf] at h; cases h⟩
theorem cv_go {ci n k : Nat} {d : am_D} {L : List (Option Value)} {as st : List Value} {u u2 : am_St} {r : Value} (hn : as.length = n) (hk : am_kd u k = some (ci + 4)) (h : d (.ref k :: as) u = some (some r, u2)) (hs : (st.map fun v => v.category).sum ≤ 8) (hl : am_len u ≤ am_len u2) (hw : am_wt u ≤ am_wt u2) : i_cv ci n d (L, as.reverse ++ .ref k :: st, u) = some (L, r :: st, u2) := by
  have hg : (as.reverse ++ .ref k :: st)[n]? = some (.ref k) := by
    rw [List.getElem?_append_right (by simp [hn]), List.length_reverse, hn, Nat.sub_self]
    rfl
  have ht : ((as.reverse ++ .ref k :: st).take (n + 1)).reverse = .ref k :: as := by
    rw [List.take_append, List.length_reverse, hn, List.take_of_length_le (by simp [hn]), show n + 1 - n = 1 by omega]
    simp
  have hd : (as.reverse ++ .ref k :: st).drop (n + 1) = st := by
    rw [List.drop_append, List.length_reverse, hn, List.drop_eq_nil_of_le (by simp [hn]), show n + 1 - n = 1 by omega]
    rfl
  have hc : i_cs (n + 1) d (L, as.reverse ++ .ref k :: st, u) = some (L, r :: st, u2) := by
    show (if n + 1 ≤ (as.reverse ++ .ref k :: st).length then (d ((as.reverse ++ .ref k :: st).take (n + 1)).reverse u).bind (fun q => if am_ok ((as.reverse ++ .ref k :: st).drop (n + 1)) u q.2 = true then some (L, q.1.toList ++ (as.reverse ++ .ref k :: st).drop (n + 1), q.2) else none) else none) = _
    rw [if_pos (by simp [hn]), ht, hd, h]
    show (if am_ok st u u2 = true then some (L, r :: st, u2) else none) = _
    rw [if_pos]
    simp only [am_ok, Bool.and_eq_true, decide_eq_true_eq]
    exact ⟨⟨hs, hl⟩, hw⟩
  show (match (as.reverse ++ Value.ref k :: st)[n]? with
    | some (Value.ref k2) => if (u.1.1[k2]?).map Prod.fst = some (ci + 4) then i_cs (n + 1) d (L, as.reverse ++ Value.ref k :: st, u) else none
    | _ => none) = _
  rw [hg]
  show (if am_kd u k = some (ci + 4) then _ else none) = _
  rw [if_pos hk]
  exact hc
set_option maxHeartbeats 4000000 in
set_option maxRecDepth 100000 in
theorem x_led {l : Launch} {g : am_Gl} {u : am_St} {x r : Int32} (hst : l.stackTraces = false) (hf : u.1.2.1 = false) (hk0 : am_kd u 0 = some 10) (hn : d_X6_nthWithoutVigour [.ref 0, .int x] u = some (some (.int r), u)) :
    vx_Met l yX6_led (Cond.code yX6_led cX6_led 3 (some .int) :: am_tbl) { frames := 10, cells := 1, slots := 6, locals := 200 } (am_Pc g [.ref 0, .int x] u) (va_Qi (fun (q : Int32) (_ : Unit) => 0 ≤ r ∧ q = r) (fun _ t => am_R g u t.heap) (am_A g)) (vx_X (fun _ : Unit => ¬ 0 ≤ r) (fun E _ t => E = nsE ∧ am_R g u t.heap) (am_A g)) 1 6 (am_A g) := by
  refine vx_ofW (cc := cX6_led) (maxL := 3) (ret := some .int) (by decide +kernel) rfl ?_
  intro p e s m args below meth c s₁ B hml hnx hv
  obtain ⟨rfl, hR, hK⟩ := hv
  have hts := atoms_spec (ws := Cond.code yX6_led cX6_led 3 (some .int) :: am_tbl) B.pre
  have C : am_Cx p l e (headSpec (Cond.code yX6_led cX6_led 3 (some .int) :: am_tbl) { frames := 10, cells := 1, slots := 6, locals := 200 }).room s m (([.ref 0, .int x] : List Value).map (am_rn g)).toArray below meth c g RX6 cX6_led 3 (am_len u) (am_wt u) (am_len u + 1) (am_wt u + 6) 10 200 :=
    ⟨B.exec, B.bytes, hml, findClass_of_methodNamed B.named, fun w hw => hts w (List.mem_cons_of_mem _ hw), B.notSynchronized, hK, hst, Nat.le_refl _, Nat.le_refl _, by show am_len u + 1 - am_len u ≤ 1; omega, by show am_wt u + 6 - am_wt u ≤ 6; omega⟩
  have hret := B.returns
  rw [lg_entry_eq]
  have key : am_G p l e (headSpec (Cond.code yX6_led cX6_led 3 (some .int) :: am_tbl) { frames := 10, cells := 1, slots := 6, locals := 200 }).room s m (([.ref 0, .int x] : List Value).map (am_rn g)).toArray below meth c g 3 (am_len u) (am_wt u) (am_len u + 1) (am_wt u + 6) (vx_MQ below (va_Qi (fun (q : Int32) (_ : Unit) => 0 ≤ r ∧ q = r) (fun _ t => am_R g u t.heap) (am_A g)) (vx_X (fun _ : Unit => ¬ 0 ≤ r) (fun E _ t => E = nsE ∧ am_R g u t.heap) (am_A g)) (([.ref 0, .int x] : List Value).map (am_rn g)).toArray s 1 6 (am_A g)) 0 ([some (.ref 0), some (.int x), none], [], u) := by
    refine (so_aload_n C dX6_led_0 rfl) _ ([some (.ref 0), some (.int x), none], [.ref 0], u) rfl ?_
    refine (so_iload_n C dX6_led_1 rfl) _ ([some (.ref 0), some (.int x), none], [.int x, .ref 0], u) rfl ?_
    refine (so_cv (ci := 6) (n := 1) C m_X6_nthWithoutVigour rfl kl_0 kl_1 kl_2 kl_3 k_5 ⟨by decide, by decide, by decide +kernel⟩ (by decide) dX6_led_2) _ ([some (.ref 0), some (.int x), none], [.int r], u) (cv_go (as := [.int x]) (st := []) rfl hk0 hn (by decide) (Nat.le_refl _) (Nat.le_refl _)) ?_
    refine (so_istore_n C dX6_led_5 rfl (by decide)) _ ([some (.ref 0), some (.int x), some (.int r)], [], u) rfl ?_
    refine (so_iload_n C dX6_led_6 rfl) _ ([some (.ref 0), some (.int x), some (.int r)], [.int r], u) rfl ?_
    refine (so_if_ge C dX6_led_7 (tgt := 18) (by decide)) _ (decide (0 ≤ r)) ([some (.ref 0), some (.int x), some (.int r)], [], u) rfl (fun h => ?_) (fun h => ?_)
    · refine (so_iload_n C dX6_led_18 rfl) _ ([some (.ref 0), some (.int x), some (.int r)], [.int r], u) rfl ?_
      refine ⟨⟨by show am_len u ≤ am_len u + 1; omega, by show am_wt u ≤ am_wt u + 6; omega⟩, fun H locs ls hl hR hS hn hz => ?_⟩
      have hR : am_R g u H := hR
      refine W.widen (k := 1) (n := 6) (by show am_len u - am_len u ≤ 1; omega) (by show am_wt u - am_wt u ≤ 6; omega) ?_
      exact vx_ret (W.iret C.1 C.2.1 hret (fun t ht hW => ⟨⟨r, (), rfl, ⟨of_decide_eq_true h, rfl⟩, by show am_R g u t.heap; rw [ht]; exact hR⟩, hS.F ht⟩) hS.2.2 dX6_led_19 C.2.2.2.2.2.1)
    · refine ⟨⟨by show am_len u ≤ am_len u + 1; omega, by show am_wt u ≤ am_wt u + 6; omega⟩, fun H locs ls hl hR hS hn hz => ?_⟩
      have hR : am_R g u H := hR
      have hS : va_S (am_A g) s.heap H locs := hS
      have hneg : ¬ 0 ≤ r := of_decide_eq_false h
      obtain ⟨-, -, -, -, -, -, z7, z8, -⟩ := id hK
      have hU : vx_Zq Bundle.tN "UNASSIGNED_STACK" Bundle.steD (am_A g) s s.heap := z7
      have hN : vx_Zq Bundle.tN "SUPPRESSED_SENTINEL" Bundle.listD (am_A g) s s.heap := z8
      refine W.widen (k := 0) (n := 0) (by show am_len u - am_len u ≤ 0; omega) (by show am_wt u - am_wt u ≤ 0; omega) ?_
      exact vx_throw0 (cc := cX6_led) (pc := 10) (own := RX6) (cls := nsE) (names := nsN) (ik := 289) (ic := 291) (A := am_A g) C.1 C.2.1 hst C.2.2.2.1 (by decide +kernel) (by decide +kernel) (C.2.2.2.2.1 _ kl_9) (C.2.2.2.2.1 _ kl_10) (ns_at C.2.2.2.2.1 hK) ns_o hU hN hS (hl.2.1.trans C.2.2.1.symm) dX6_led_10 dX6_led_13 dX6_led_14 dX6_led_17 (fun z hz => (hnx z hz).elim) (by show 2 + 3 < 10; decide) (by show 0 + (13 * (2 + 1) + 42) ≤ 200; decide) (by show 0 + 1 ≤ 1; decide) (by show 0 + 6 ≤ 6; decide) C.2.2.2.2.2.1 (fun t hvm hz hk => ⟨(), hneg, ⟨rfl, am_R_up hf hR hk⟩, Nat.le_trans hS.1 hz, fun q h1 h2 => (hk q (Nat.lt_of_lt_of_le h1 hS.1)).trans (hS.2.1 q h1 h2)⟩) hS.2.2 (by decide) (by decide)
  have this := key.2 s.heap [] _ (am_lv_entry g [.ref 0, .int x] (nL := 3) (by show 2 ≤ 3; decide)) hR va_S.rf (Nat.le_refl _) (Nat.le_refl _)
  simp only [Nat.sub_self] at this
  exact this
theorem am_GoodW {y : MethodName} {bytes : ByteArray} {maxL : Nat} {ret : Option FieldType} {hh : List (Nat × Nat × Nat × Nat)} {own : String} {index : Nat} (h : Cond.codeWith y bytes maxL ret hh ∈ am_tbl) (h1 : Cond.methodLink own index y ∈ am_tbl) (h2 : Cond.static y ∈ am_tbl) (h3 : Cond.initialized y.cls ∈ am_tbl) : GoodIn am_tbl (va_wsS own index y (Cond.codeWith y bytes maxL ret hh :: am_tbl)) := by
  have k : ∀ w, w ∈ am_tbl → w ∈ am_tbl ∧ _ := fun w hw => ⟨hw, good_of_word (am_good hw).2⟩
  intro w hw
  unfold va_wsS at hw
  rcases List.mem_append.mp hw with hw | hw
  · simp only [List.mem_cons, List.not_mem_nil, or_false] at hw
    rcases hw with rfl | rfl | rfl
    · exact k _ h1
    · exact k _ h2
    · exact k _ h3
  · rcases List.mem_cons.mp hw with rfl | hw
    · exact k _ h
    · exact k _ hw
theorem i_lS0 {L : List (Option Value)} {u : am_St} {v : Int64} {st : List Value} (h : u.1.1[175]? = some (2, 1)) : i_lS (L, .long v :: .int 0 :: .ref 175 :: st, u) = some (L, st, am_uJ u 175 0 v) := by
  show (match u.1.1[175]? with
    | some (a, n) => if a = 2 ∧ ¬ ((0 : Int32) < 0 ∨ n ≤ (0 : Int32).toNatClampNeg) then some (L, st, am_uJ u 175 (0 : Int32).toNatClampNeg v) else none
    | none => none) = _
  rw [h]
  show (if 2 = 2 ∧ ¬ ((0 : Int32) < 0 ∨ 1 ≤ (0 : Int32).toNatClampNeg) then some (L, st, am_uJ u 175 (0 : Int32).toNatClampNeg v) else none) = _
  rw [if_pos (by decide)]
  rfl
set_option maxHeartbeats 4000000 in
set_option maxRecDepth 100000 in
theorem m_lled {l : Launch} {g : am_Gl} {u u2 : am_St} {x r k : Int32} (hst : l.stackTraces = false) (hf : u.1.2.1 = false) (hk0 : am_kd u 0 = some 10) (h175 : u.1.1[175]? = some (2, 1)) (hn : d_X6_nthWithoutVigour [.ref 0, .int x] u = some (some (.int r), u))
    (hy : 0 ≤ r → k = 0 ∧ u2 = am_uJ (am_bp u) 175 0 r.toInt64) (hno : ¬ 0 ≤ r → k = 1 ∧ u2 = am_bp u) :
    Met l yL_led (Cond.codeWith yL_led cL_led 4 (some .int) [(0, 9, 12, 13)] :: am_tbl) { frames := 20, cells := 1, slots := 6, locals := 400 } (am_Pc g [.ref 0, .int x, .ref 175] u) (am_Qc g (some (.int k)) u2) 1 6 (am_A g) := by
  refine va_MetW (cc := cL_led) (maxL := 4) (ret := some .int) (hh := [(0, 9, 12, 13)]) (by decide +kernel) rfl ?_
  intro p e s m args below meth c s₁ B hml hv
  obtain ⟨rfl, hR, hK⟩ := hv
  have hts := atoms_spec (ws := Cond.codeWith yL_led cL_led 4 (some .int) [(0, 9, 12, 13)] :: am_tbl) B.pre
  have htab : c.exceptionTable.toList = tableOf [(0, 9, 12, 13)] := vx_table (x := yL_led) B (hts _ List.mem_cons_self)
  have C : am_Cx p l e (headSpec (Cond.codeWith yL_led cL_led 4 (some .int) [(0, 9, 12, 13)] :: am_tbl) { frames := 20, cells := 1, slots := 6, locals := 400 }).room s m (([.ref 0, .int x, .ref 175] : List Value).map (am_rn g)).toArray below meth c g RL cL_led 4 (am_len u) (am_wt u) (am_len u + 1) (am_wt u + 6) 20 400 :=
    ⟨B.exec, B.bytes, hml, findClass_of_methodNamed B.named, fun w hw => hts w (List.mem_cons_of_mem _ hw), B.notSynchronized, hK, hst, Nat.le_refl _, Nat.le_refl _, by show am_len u + 1 - am_len u ≤ 1; omega, by show am_wt u + 6 - am_wt u ≤ 6; omega⟩
  have hret := B.returns
  rw [lg_entry_eq]
  have key : am_G p l e (headSpec (Cond.codeWith yL_led cL_led 4 (some .int) [(0, 9, 12, 13)] :: am_tbl) { frames := 20, cells := 1, slots := 6, locals := 400 }).room s m (([.ref 0, .int x, .ref 175] : List Value).map (am_rn g)).toArray below meth c g 4 (am_len u) (am_wt u) (am_len u + 1) (am_wt u + 6) (MQ below (am_Qc g (some (.int k)) u2) (([.ref 0, .int x, .ref 175] : List Value).map (am_rn g)).toArray s 1 6 (am_A g)) 0 ([some (.ref 0), some (.int x), some (.ref 175), none], [], u) := by
    refine (so_aload_n C dL_led_0 rfl) _ ([some (.ref 0), some (.int x), some (.ref 175), none], [.ref 175], u) rfl ?_
    refine (so_iconst C dL_led_1 (v := 0) (by decide)) _ ([some (.ref 0), some (.int x), some (.ref 175), none], [.int 0, .ref 175], u) rfl ?_
    refine (so_aload_n C dL_led_2 rfl) _ ([some (.ref 0), some (.int x), some (.ref 175), none], [.ref 0, .int 0, .ref 175], u) rfl ?_
    refine (so_iload_n C dL_led_3 rfl) _ ([some (.ref 0), some (.int x), some (.ref 175), none], [.int x, .ref 0, .int 0, .ref 175], u) rfl ?_
    refine ⟨⟨by show am_len u ≤ am_len u + 1; omega, by show am_wt u ≤ am_wt u + 6; omega⟩, fun H locs ls hl hR hS hn9 hz9 => ?_⟩
    have hR : am_R g u H := hR
    have hS : va_S (am_A g) s.heap H locs := hS
    have hl : am_lv g ls 4 [some (.ref 0), some (.int x), some (.ref 175), none] := hl
    obtain ⟨nn, hck⟩ := am_cls (w := u) (k := 0) (t := 10) hk0
    refine W.widen (k := 0) (n := 0) (by show am_len u - am_len u ≤ 0; omega) (by show am_wt u - am_wt u ≤ 0; omega) ?_
    show W p l e _ s m _ below meth c H locs 0 0 _ (F0 m 4 ls [.int x, .ref (am_rho g 0), .int 0, .ref (am_rho g 175)])
    refine vx_calli (A0 := am_A g) (A1 := am_A g) (AX := am_A g) (H0 := s.heap) (free := am_A g) (mc := 1) (ms := 6) (rest := [.int 0, .ref (am_rho g 175)]) (vx_runV (Ts := am_tbl) (n := 1) (C := RX6) (b := am_rho g 0) (As := [.int x]) (rest := [.int 0, .ref (am_rho g 175)]) (bytes := cX6_led) (maxL := 3) (ret := some .int) ⟨C.1, C.2.1, C.2.2.1, C.2.2.2.1, C.2.2.2.2.1⟩ (x_led (g := g) hst hf hk0 hn) ⟨callB_of 1 C.2.2.2.2.1 (am_GoodIn kl_4) rfl rfl rfl (C.2.2.2.2.1 _ k_5) (C.2.2.2.2.1 _ kl_5) ⟨by decide, by decide, by decide +kernel⟩ ⟨by show 10 + 1 ≤ 20; decide, by show 8 + (3 + 11) + 200 ≤ 400; decide⟩, C.2.2.2.2.1 _ kl_6, C.2.2.2.2.1 _ kl_7⟩ ⟨am_blind, va_recv (q := (RX6, TX6, 17)) (ci := 6) hK.1 hR.1 rfl (am_cell_obj hck), fun U hU hW => ⟨rfl, by rw [hU]; exact hR, hK.go hW hU hS⟩⟩ rfl rfl hl.2.1 rfl (by show 2 * 0 + 2 ≤ 8; omega) dL_led_4 ⟨by show 0 + 1 ≤ 1; decide, by show 0 + 6 ≤ 6; decide⟩) hS (fun q _ h => h) (fun q h => h) (fun q _ h => h) ?_ ?_
    · intro E ce q9 u9 t H1 locs1 ht hvm hx hB hz1 hk1 hS1 hce hcv hcl
      obtain ⟨rfl, hR1⟩ := hB
      rw [ht] at hR1
      obtain ⟨rfl, rfl⟩ := hno hx
      refine vx_catch (own := RL) (name := nsE) ⟨0, 9, 12, 13⟩ C.2.2.2.1 htab rfl (by decide) (C.2.2.2.2.1 _ kl_8) (am_Kw hK ns_c.1 ns_c.2) hce hcv hcl ?_
      show W p l e _ s m _ below meth c H1 locs1 (0 + 1) (0 + 6) _ (F0 m 12 ls [.ref q9])
      refine lv_astore_n C.1 C.2.1 dL_led_12 rfl hl.2 (by decide) rfl (fun ls2 h2 => ?_)
      refine lv_iconst (v := 1) C.1 C.2.1 dL_led_13 (by decide) ?_
      exact W.iret C.1 C.2.1 hret (fun t ht hW => ⟨⟨rfl, by rw [ht]; exact hR1⟩, hS1.F ht⟩) hS1.2.2 dL_led_14 C.2.2.2.2.2.1
    · intro q u9 t H1 locs1 ht hvm hp hR1 hz1 hk1 hS1
      obtain ⟨h0, rfl⟩ := hp
      rw [ht] at hR1
      obtain ⟨rfl, rfl⟩ := hy h0
      have key2 : am_G p l e (headSpec (Cond.codeWith yL_led cL_led 4 (some .int) [(0, 9, 12, 13)] :: am_tbl) { frames := 20, cells := 1, slots := 6, locals := 400 }).room s m (([.ref 0, .int x, .ref 175] : List Value).map (am_rn g)).toArray below meth c g 4 (am_len u) (am_wt u) (am_len u + 1) (am_wt u + 6) (MQ below (am_Qc g (some (.int 0)) (am_uJ (am_bp u) 175 0 q.toInt64)) (([.ref 0, .int x, .ref 175] : List Value).map (am_rn g)).toArray s 1 6 (am_A g)) 7 ([some (.ref 0), some (.int x), some (.ref 175), none], [.int q, .int 0, .ref 175], am_bp u) := by
        refine (so_i2l C dL_led_7) _ ([some (.ref 0), some (.int x), some (.ref 175), none], [.long q.toInt64, .int 0, .ref 175], am_bp u) rfl ?_
        refine (so_last C dL_led_8) _ ([some (.ref 0), some (.int x), some (.ref 175), none], [], am_uJ (am_bp u) 175 0 q.toInt64) (i_lS0 h175) ?_
        refine (so_goto (Rt := fun _ _ => True) C dL_led_9 (tgt := 15) (by decide) so_to) _ (.inl (15, ([some (.ref 0), some (.int x), some (.ref 175), none], [], am_uJ (am_bp u) 175 0 q.toInt64))) rfl ?_
        refine (so_iconst C dL_led_15 (v := 0) (by decide)) _ ([some (.ref 0), some (.int x), some (.ref 175), none], [.int 0], am_uJ (am_bp u) 175 0 q.toInt64) rfl ?_
        refine ⟨⟨Nat.le_refl _, Nat.le_refl _⟩, fun H locs ls hl hR hS hn hz => ?_⟩
        have hR : am_R g (am_uJ (am_bp u) 175 0 q.toInt64) H := hR
        refine W.widen (k := 1) (n := 6) (by show am_len u + 1 - am_len u ≤ 1; omega) (by show am_wt u + 6 - am_wt u ≤ 6; omega) ?_
        exact W.iret C.1 C.2.1 hret (fun t ht hW => ⟨⟨rfl, by rw [ht]; exact hR⟩, hS.F ht⟩) hS.2.2 dL_led_16 C.2.2.2.2.2.1
      refine W.widen (k := am_len u + 1 - am_len u) (n := am_wt u + 6 - am_wt u) (by omega) (by omega) ?_
      exact key2.2 H1 locs1 ls hl hR1 hS1 (by show am_len u ≤ am_len u + 1; omega) (by show am_wt u ≤ am_wt u + 6; omega)
  have this := key.2 s.heap [] _ (am_lv_entry g [.ref 0, .int x, .ref 175] (nL := 4) (by show 3 ≤ 4; decide)) hR va_S.rf (Nat.le_refl _) (Nat.le_refl _)
  simp only [Nat.sub_self] at this
  exact this
