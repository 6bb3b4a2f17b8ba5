-- FROM THE LAW'S ENTRY TO ITS LOOP
theorem cv_gon {ci k : Nat} {d : am_D} {L : List (Option Value)} {st : List Value} {u u2 : am_St} (hk : am_kd u k = some (ci + 4)) (h : d [.ref k] u = some (none, u2)) (hs : (st.map fun v => v.category).sum ≤ 8) (hl : am_len u ≤ am_len u2) (hw : am_wt u ≤ am_wt u2) : i_cv ci 0 d (L, .ref k :: st, u) = some (L, st, u2) := by
  have hc : i_cs 1 d (L, .ref k :: st, u) = some (L, st, u2) := by
    show (if 1 ≤ st.length + 1 then (d [.ref k] u).bind (fun q => if am_ok st u q.2 = true then some (L, q.1.toList ++ st, q.2) else none) else none) = _
    rw [if_pos (by omega), h]
    show (if am_ok st u u2 = true then some (L, st, u2) else none) = _
    rw [if_pos]
    simp only [am_ok, Bool.and_eq_true, decide_eq_true_eq]
    exact ⟨⟨hs, hl⟩, hw⟩
  show (if am_kd u k = some (ci + 4) then i_cs 1 d (L, .ref k :: st, u) else none) = _
  rw [if_pos hk]
  exact hc
theorem new_go {c n k : Nat} {L : List (Option Value)} {st : List Value} {u : am_St} (h1 : u.1.2.1 = true) (h2 : u.1.1.length = k) (h3 : k < 1000000) : i_new c n (L, st, u) = some (L, .ref k :: st, am_new u (c + 4) n) := by
  subst h2
  show (if u.1.2.1 = true ∧ u.1.1.length < 1000000 then some (L, .ref u.1.1.length :: st, am_new u (c + 4) n) else none) = _
  rw [if_pos ⟨h1, h3⟩]
theorem na_go {t k : Nat} {L : List (Option Value)} {st : List Value} {u : am_St} (h1 : u.1.2.1 = true) (h2 : u.1.1.length = k) (h3 : k < 1000000) : i_na t (L, .int 1 :: st, u) = some (L, .ref k :: st, am_new u t 1) := by
  subst h2
  show (if (u.1.2.1 = true ∧ u.1.1.length < 1000000) ∧ ¬ (1 : Int32) < 0 ∧ (1 : Int32).toNatClampNeg ≤ 65536 then some (L, .ref u.1.1.length :: st, am_new u t (1 : Int32).toNatClampNeg) else none) = _
  rw [if_pos ⟨⟨h1, h3⟩, by decide, by decide⟩]
  rfl
theorem kd_new {u : am_St} {t n k : Nat} (h : u.1.1.length = k) : am_kd (am_new u t n) k = some t := by
  subst h
  unfold am_kd
  show ((u.1.1 ++ [(t, n)])[u.1.1.length]?).map Prod.fst = _
  rw [List.getElem?_append_right (Nat.le_refl _), Nat.sub_self]
  rfl
theorem n6 : am_len (am_new u_0 10 17) ≤ am_len u_6 ∧ am_wt (am_new u_0 10 17) ≤ am_wt u_6 := by decide +kernel
theorem n7 : am_len (am_new u_6 11 38) ≤ am_len u_7 ∧ am_wt (am_new u_6 11 38) ≤ am_wt u_7 := by decide +kernel
theorem li_new : LInv 0 u_9 := ⟨⟨(false, default, default, default, 0, fun _ => default, 0, fun _ => default, 0, 0, 0, 0, fun _ => 0), u9_ci, u9_mi, u9_ps⟩, rfl, u9_l.2.1, u9_l.2.2.1, u9_l.2.2.2⟩
section LAW
variable {p : Program} {l : Launch} {e : Env} {s : State} {m : MethodId} {below : List Frame} {meth : Method} {c : Code} {g : am_Gl} {b L : Nat} {xs : Nat → Int32}
theorem G_sh {pc : Nat} {LL : List (Option Value)} {st : List Value} {u : am_St} (K : lG p l e s m below meth c g b pc (LL, st, am_sh u)) : lG p l e s m below meth c g b pc (LL, st, u) :=
  ⟨K.1, fun H locs ls hl hR hS hn hz => K.2 H locs ls hl ⟨hR.1, hR.2.1, fun q => nomatch q⟩ hS hn hz⟩
set_option maxHeartbeats 4000000 in
theorem law_go (C : lCx p l e s m below meth c g b L xs) : lG p l e s m below meth c g b 0 ([some (.ref 1000021), none, none, none, none, none, none], [], u_0) := by
  refine (so_new C.1 (ci := 6) (N := 17) rfl iw_6 fb_6 klq_392 klq_393 k_5 dL_law_0) _ ([some (.ref 1000021), none, none, none, none, none, none], [.ref 0], am_new u_0 10 17) (new_go rfl rfl (by decide)) ?_
  refine (so_dup C.1 dL_law_3) _ ([some (.ref 1000021), none, none, none, none, none, none], [.ref 0, .ref 0], am_new u_0 10 17) rfl ?_
  obtain ⟨h6, l6, g6⟩ := ini6_e
  have n6 := n6
  obtain ⟨h7, l7, g7⟩ := ini7_e
  have n7 := n7
  have h9 : LInv 0 (am_sh (am_new u_7 2 1)) := li_new
  generalize u_7 = u7 at h7 l7 g7 n7 h9
  generalize u_6 = u6 at h6 l6 g6 n6 h7 n7
  refine (so_ci (ci := 6) (n := 0) C.1 m_X6_init klq_396 klq_397 klq_398 k_5 ⟨rfl, by decide, by decide, by decide +kernel⟩ (by decide) dL_law_4) _ ([some (.ref 1000021), none, none, none, none, none, none], [.ref 0], u6) (cv_gon (ci := 6) (k := 0) (st := [.ref 0]) (kd_new rfl) h6 (by decide) n6.1 n6.2) ?_
  refine (so_astore_n C.1 dL_law_7 rfl (by decide)) _ ([some (.ref 1000021), some (.ref 0), none, none, none, none, none], [], u6) rfl ?_
  refine (so_new C.1 (ci := 7) (N := 38) rfl iw_7 fb_7 klq_394 klq_395 k_475 dL_law_8) _ ([some (.ref 1000021), some (.ref 0), none, none, none, none, none], [.ref 156], am_new u6 11 38) (new_go g6 l6 (by decide)) ?_
  refine (so_dup C.1 dL_law_11) _ ([some (.ref 1000021), some (.ref 0), none, none, none, none, none], [.ref 156, .ref 156], am_new u6 11 38) rfl ?_
  refine (so_ci (ci := 7) (n := 0) C.1 m_X7_init klq_399 klq_400 klq_401 k_475 ⟨rfl, by decide, by decide, by decide +kernel⟩ (by decide) dL_law_12) _ ([some (.ref 1000021), some (.ref 0), none, none, none, none, none], [.ref 156], u7) (cv_gon (ci := 7) (k := 156) (st := [.ref 156]) (kd_new l6) h7 (by decide) n7.1 n7.2) ?_
  refine (so_astore_n C.1 dL_law_15 rfl (by decide)) _ ([some (.ref 1000021), some (.ref 0), some (.ref 156), none, none, none, none], [], u7) rfl ?_
  refine (so_iconst C.1 dL_law_16 (v := 1) (by decide)) _ ([some (.ref 1000021), some (.ref 0), some (.ref 156), none, none, none, none], [.int 1], u7) rfl ?_
  refine (so_newL C.1 k_147 dL_law_17) _ ([some (.ref 1000021), some (.ref 0), some (.ref 156), none, none, none, none], [.ref 175], am_new u7 2 1) (na_go g7 l7 (by decide)) ?_
  refine (so_astore_n C.1 dL_law_19 rfl (by decide)) _ ([some (.ref 1000021), some (.ref 0), some (.ref 156), some (.ref 175), none, none, none], [], am_new u7 2 1) rfl ?_
  refine G_sh ?_
  refine (so_iconst C.1 dL_law_20 (v := 0) (by decide)) _ ([some (.ref 1000021), some (.ref 0), some (.ref 156), some (.ref 175), none, none, none], [.int 0], am_sh (am_new u7 2 1)) rfl ?_
  refine (so_istore C.1 dL_law_21 (by decide)) _ (Lc (6 * 0) none none, [], am_sh (am_new u7 2 1)) rfl ?_
  exact law_lp C (L + 1) 0 _ none none (by omega) (by omega) h9
end LAW
