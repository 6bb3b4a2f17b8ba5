-- CASES OF THE LAW
section LAW
variable {p : Program} {l : Launch} {e : Env} {s : State} {m : MethodId} {below : List Frame} {meth : Method} {c : Code} {g : am_Gl} {b L : Nat} {xs : Nat → Int32}
set_option maxHeartbeats 4000000 in
theorem lwc_12 (C : lCx p l e s m below meth c g b L xs) {n i : Nat} {o5 o6 : Option Value} {u : am_St} (hi : i + 6 ≤ L) (hn : n < 512) (I : LInv n u) (IH : ∀ (u3 : am_St) (o5 o6 : Option Value), LInv (n + 1) u3 → lG p l e s m below meth c g b 1726 (Lc i o5 o6, [], u3)) : lG p l e s m below meth c g b 588 (Lc i o5 o6, [], u) := by
  obtain ⟨r, u2, u3, e6, e7, f6, f7, I3⟩ := li_st (st_first (x := xs (i + 1))) hn I
  obtain ⟨y, rfl⟩ := fi_den iv_first e6
  refine (so_aload_n C.1 dL_law_588 rfl) _ (Lc i o5 o6, [.ref 0], u) rfl ?_
  refine so_arg C 1 (by decide) hi (by decide) dL_law_589 dL_law_590 dL_law_592 dL_law_593 dL_law_594 ?_
  refine (so_cv (ci := 6) (n := 1) C.1 m_X6_first rfl klq_96 klq_97 klq_98 klq_99 k_5 ⟨by decide, by decide, by decide +kernel⟩ (by decide) dL_law_595) _ (Lc i o5 o6, [.int y], u2) (cv_go (as := [.int (xs (i + 1))]) (st := []) rfl (li_0 I) e6 (Nat.le_of_ble_eq_true rfl) (ln_1 f6) (wt_1 f6)) ?_
  refine (so_aload_n C.1 dL_law_598 rfl) _ (Lc i o5 o6, [.ref 156, .int y], u2) rfl ?_
  refine so_arg C 1 (by decide) hi (by decide) dL_law_599 dL_law_600 dL_law_602 dL_law_603 dL_law_604 ?_
  refine (so_cv (ci := 7) (n := 1) C.1 m_X7_first rfl klq_100 klq_101 klq_102 klq_103 k_475 ⟨by decide, by decide, by decide +kernel⟩ (by decide) dL_law_605) _ (Lc i o5 o6, [.int y, .int y], u3) (cv_go (as := [.int (xs (i + 1))]) (st := [.int y]) rfl ((kd_1 f6).trans (li_156 I)) e7 (Nat.le_of_ble_eq_true rfl) (ln_1 f7) (wt_1 f7)) ?_
  exact so_eqi C dL_law_608 (by decide) (IH u3 o5 o6 I3)
set_option maxHeartbeats 4000000 in
theorem lwc_13 (C : lCx p l e s m below meth c g b L xs) {n i : Nat} {o5 o6 : Option Value} {u : am_St} (hi : i + 6 ≤ L) (hn : n < 512) (I : LInv n u) (IH : ∀ (u3 : am_St) (o5 o6 : Option Value), LInv (n + 1) u3 → lG p l e s m below meth c g b 1726 (Lc i o5 o6, [], u3)) : lG p l e s m below meth c g b 613 (Lc i o5 o6, [], u) := by
  obtain ⟨r, u2, u3, e6, e7, f6, f7, I3⟩ := li_st (st_fallen (x := xs (i + 1))) hn I
  obtain ⟨y, rfl⟩ := fi_den iv_fallen e6
  refine (so_aload_n C.1 dL_law_613 rfl) _ (Lc i o5 o6, [.ref 0], u) rfl ?_
  refine so_arg C 1 (by decide) hi (by decide) dL_law_614 dL_law_615 dL_law_617 dL_law_618 dL_law_619 ?_
  refine (so_cv (ci := 6) (n := 1) C.1 m_X6_fallen rfl klq_104 klq_105 klq_106 klq_107 k_5 ⟨by decide, by decide, by decide +kernel⟩ (by decide) dL_law_620) _ (Lc i o5 o6, [.int y], u2) (cv_go (as := [.int (xs (i + 1))]) (st := []) rfl (li_0 I) e6 (Nat.le_of_ble_eq_true rfl) (ln_1 f6) (wt_1 f6)) ?_
  refine (so_aload_n C.1 dL_law_623 rfl) _ (Lc i o5 o6, [.ref 156, .int y], u2) rfl ?_
  refine so_arg C 1 (by decide) hi (by decide) dL_law_624 dL_law_625 dL_law_627 dL_law_628 dL_law_629 ?_
  refine (so_cv (ci := 7) (n := 1) C.1 m_X7_fallen rfl klq_108 klq_109 klq_110 klq_111 k_475 ⟨by decide, by decide, by decide +kernel⟩ (by decide) dL_law_630) _ (Lc i o5 o6, [.int y, .int y], u3) (cv_go (as := [.int (xs (i + 1))]) (st := [.int y]) rfl ((kd_1 f6).trans (li_156 I)) e7 (Nat.le_of_ble_eq_true rfl) (ln_1 f7) (wt_1 f7)) ?_
  exact so_eqi C dL_law_633 (by decide) (IH u3 o5 o6 I3)
set_option maxHeartbeats 4000000 in
theorem lwc_14 (C : lCx p l e s m below meth c g b L xs) {n i : Nat} {o5 o6 : Option Value} {u : am_St} (hi : i + 6 ≤ L) (hn : n < 512) (I : LInv n u) (IH : ∀ (u3 : am_St) (o5 o6 : Option Value), LInv (n + 1) u3 → lG p l e s m below meth c g b 1726 (Lc i o5 o6, [], u3)) : lG p l e s m below meth c g b 638 (Lc i o5 o6, [], u) := by
  obtain ⟨r, u2, u3, e6, e7, f6, f7, I3⟩ := li_st (st_suckers (x := xs (i + 1))) hn I
  obtain ⟨y, rfl⟩ := fi_den iv_suckers e6
  refine (so_aload_n C.1 dL_law_638 rfl) _ (Lc i o5 o6, [.ref 0], u) rfl ?_
  refine so_arg C 1 (by decide) hi (by decide) dL_law_639 dL_law_640 dL_law_642 dL_law_643 dL_law_644 ?_
  refine (so_cv (ci := 6) (n := 1) C.1 m_X6_suckers rfl klq_112 klq_113 klq_114 klq_115 k_5 ⟨by decide, by decide, by decide +kernel⟩ (by decide) dL_law_645) _ (Lc i o5 o6, [.int y], u2) (cv_go (as := [.int (xs (i + 1))]) (st := []) rfl (li_0 I) e6 (Nat.le_of_ble_eq_true rfl) (ln_1 f6) (wt_1 f6)) ?_
  refine (so_aload_n C.1 dL_law_648 rfl) _ (Lc i o5 o6, [.ref 156, .int y], u2) rfl ?_
  refine so_arg C 1 (by decide) hi (by decide) dL_law_649 dL_law_650 dL_law_652 dL_law_653 dL_law_654 ?_
  refine (so_cv (ci := 7) (n := 1) C.1 m_X7_suckers rfl klq_116 klq_117 klq_118 klq_119 k_475 ⟨by decide, by decide, by decide +kernel⟩ (by decide) dL_law_655) _ (Lc i o5 o6, [.int y, .int y], u3) (cv_go (as := [.int (xs (i + 1))]) (st := [.int y]) rfl ((kd_1 f6).trans (li_156 I)) e7 (Nat.le_of_ble_eq_true rfl) (ln_1 f7) (wt_1 f7)) ?_
  exact so_eqi C dL_law_658 (by decide) (IH u3 o5 o6 I3)
set_option maxHeartbeats 4000000 in
theorem lwc_15 (C : lCx p l e s m below meth c g b L xs) {n i : Nat} {o5 o6 : Option Value} {u : am_St} (hi : i + 6 ≤ L) (hn : n < 512) (I : LInv n u) (IH : ∀ (u3 : am_St) (o5 o6 : Option Value), LInv (n + 1) u3 → lG p l e s m below meth c g b 1726 (Lc i o5 o6, [], u3)) : lG p l e s m below meth c g b 663 (Lc i o5 o6, [], u) := by
  obtain ⟨r, u2, u3, e6, e7, f6, f7, I3⟩ := li_st (st_quiet (x := xs (i + 1))) hn I
  obtain ⟨y, rfl⟩ := fi_den iv_quiet e6
  refine (so_aload_n C.1 dL_law_663 rfl) _ (Lc i o5 o6, [.ref 0], u) rfl ?_
  refine so_arg C 1 (by decide) hi (by decide) dL_law_664 dL_law_665 dL_law_667 dL_law_668 dL_law_669 ?_
  refine (so_cv (ci := 6) (n := 1) C.1 m_X6_quiet rfl klq_120 klq_121 klq_122 klq_123 k_5 ⟨by decide, by decide, by decide +kernel⟩ (by decide) dL_law_670) _ (Lc i o5 o6, [.int y], u2) (cv_go (as := [.int (xs (i + 1))]) (st := []) rfl (li_0 I) e6 (Nat.le_of_ble_eq_true rfl) (ln_1 f6) (wt_1 f6)) ?_
  refine (so_aload_n C.1 dL_law_673 rfl) _ (Lc i o5 o6, [.ref 156, .int y], u2) rfl ?_
  refine so_arg C 1 (by decide) hi (by decide) dL_law_674 dL_law_675 dL_law_677 dL_law_678 dL_law_679 ?_
  refine (so_cv (ci := 7) (n := 1) C.1 m_X7_quiet rfl klq_124 klq_125 klq_126 klq_127 k_475 ⟨by decide, by decide, by decide +kernel⟩ (by decide) dL_law_680) _ (Lc i o5 o6, [.int y, .int y], u3) (cv_go (as := [.int (xs (i + 1))]) (st := [.int y]) rfl ((kd_1 f6).trans (li_156 I)) e7 (Nat.le_of_ble_eq_true rfl) (ln_1 f7) (wt_1 f7)) ?_
  exact so_eqi C dL_law_683 (by decide) (IH u3 o5 o6 I3)
set_option maxHeartbeats 4000000 in
theorem lwc_16 (C : lCx p l e s m below meth c g b L xs) {n i : Nat} {o5 o6 : Option Value} {u : am_St} (hi : i + 6 ≤ L) (hn : n < 512) (I : LInv n u) (IH : ∀ (u3 : am_St) (o5 o6 : Option Value), LInv (n + 1) u3 → lG p l e s m below meth c g b 1726 (Lc i o5 o6, [], u3)) : lG p l e s m below meth c g b 688 (Lc i o5 o6, [], u) := by
  obtain ⟨r, u2, u3, e6, e7, f6, f7, I3⟩ := li_st st_peaceBy hn I
  obtain ⟨y, rfl⟩ := fi_den iv_peaceBy e6
  refine (so_aload_n C.1 dL_law_688 rfl) _ (Lc i o5 o6, [.ref 0], u) rfl ?_
  refine (so_cv (ci := 6) (n := 0) C.1 m_X6_peaceBy rfl klq_128 klq_129 klq_130 klq_131 k_5 ⟨by decide, by decide, by decide +kernel⟩ (by decide) dL_law_689) _ (Lc i o5 o6, [.int y], u2) (cv_go (as := []) (st := []) rfl (li_0 I) e6 (Nat.le_of_ble_eq_true rfl) (ln_1 f6) (wt_1 f6)) ?_
  refine (so_aload_n C.1 dL_law_692 rfl) _ (Lc i o5 o6, [.ref 156, .int y], u2) rfl ?_
  refine (so_cv (ci := 7) (n := 0) C.1 m_X7_peaceBy rfl klq_132 klq_133 klq_134 klq_135 k_475 ⟨by decide, by decide, by decide +kernel⟩ (by decide) dL_law_693) _ (Lc i o5 o6, [.int y, .int y], u3) (cv_go (as := []) (st := [.int y]) rfl ((kd_1 f6).trans (li_156 I)) e7 (Nat.le_of_ble_eq_true rfl) (ln_1 f7) (wt_1 f7)) ?_
  exact so_eqi C dL_law_696 (by decide) (IH u3 o5 o6 I3)
set_option maxHeartbeats 4000000 in
theorem lwc_17 (C : lCx p l e s m below meth c g b L xs) {n i : Nat} {o5 o6 : Option Value} {u : am_St} (hi : i + 6 ≤ L) (hn : n < 512) (I : LInv n u) (IH : ∀ (u3 : am_St) (o5 o6 : Option Value), LInv (n + 1) u3 → lG p l e s m below meth c g b 1726 (Lc i o5 o6, [], u3)) : lG p l e s m below meth c g b 701 (Lc i o5 o6, [], u) := by
  obtain ⟨r, u2, u3, e6, e7, f6, f7, I3⟩ := li_st (st_worst (x := xs (i + 1))) hn I
  obtain ⟨y, rfl⟩ := fi_den iv_worst e6
  refine (so_aload_n C.1 dL_law_701 rfl) _ (Lc i o5 o6, [.ref 0], u) rfl ?_
  refine so_arg C 1 (by decide) hi (by decide) dL_law_702 dL_law_703 dL_law_705 dL_law_706 dL_law_707 ?_
  refine (so_cv (ci := 6) (n := 1) C.1 m_X6_worst rfl klq_136 klq_137 klq_138 klq_139 k_5 ⟨by decide, by decide, by decide +kernel⟩ (by decide) dL_law_708) _ (Lc i o5 o6, [.int y], u2) (cv_go (as := [.int (xs (i + 1))]) (st := []) rfl (li_0 I) e6 (Nat.le_of_ble_eq_true rfl) (ln_1 f6) (wt_1 f6)) ?_
  refine (so_aload_n C.1 dL_law_711 rfl) _ (Lc i o5 o6, [.ref 156, .int y], u2) rfl ?_
  refine so_arg C 1 (by decide) hi (by decide) dL_law_712 dL_law_713 dL_law_715 dL_law_716 dL_law_717 ?_
  refine (so_cv (ci := 7) (n := 1) C.1 m_X7_worst rfl klq_140 klq_141 klq_142 klq_143 k_475 ⟨by decide, by decide, by decide +kernel⟩ (by decide) dL_law_718) _ (Lc i o5 o6, [.int y, .int y], u3) (cv_go (as := [.int (xs (i + 1))]) (st := [.int y]) rfl ((kd_1 f6).trans (li_156 I)) e7 (Nat.le_of_ble_eq_true rfl) (ln_1 f7) (wt_1 f7)) ?_
  exact so_eqi C dL_law_721 (by decide) (IH u3 o5 o6 I3)
set_option maxHeartbeats 4000000 in
theorem lwc_18 (C : lCx p l e s m below meth c g b L xs) {n i : Nat} {o5 o6 : Option Value} {u : am_St} (hi : i + 6 ≤ L) (hn : n < 512) (I : LInv n u) (IH : ∀ (u3 : am_St) (o5 o6 : Option Value), LInv (n + 1) u3 → lG p l e s m below meth c g b 1726 (Lc i o5 o6, [], u3)) : lG p l e s m below meth c g b 726 (Lc i o5 o6, [], u) := by
  obtain ⟨r, u2, u3, e6, e7, f6, f7, I3⟩ := li_st (st_spared (x := xs (i + 1)) (y := xs (i + 2))) hn I
  obtain ⟨y, rfl⟩ := fi_den iv_spared e6
  refine (so_aload_n C.1 dL_law_726 rfl) _ (Lc i o5 o6, [.ref 0], u) rfl ?_
  refine so_arg C 1 (by decide) hi (by decide) dL_law_727 dL_law_728 dL_law_730 dL_law_731 dL_law_732 ?_
  refine so_arg C 2 (by decide) hi (by decide) dL_law_733 dL_law_734 dL_law_736 dL_law_737 dL_law_738 ?_
  refine (so_cv (ci := 6) (n := 2) C.1 m_X6_spared rfl klq_144 klq_145 klq_146 klq_147 k_5 ⟨by decide, by decide, by decide +kernel⟩ (by decide) dL_law_739) _ (Lc i o5 o6, [.int y], u2) (cv_go (as := [.int (xs (i + 1)), .int (xs (i + 2))]) (st := []) rfl (li_0 I) e6 (Nat.le_of_ble_eq_true rfl) (ln_1 f6) (wt_1 f6)) ?_
  refine (so_aload_n C.1 dL_law_742 rfl) _ (Lc i o5 o6, [.ref 156, .int y], u2) rfl ?_
  refine so_arg C 1 (by decide) hi (by decide) dL_law_743 dL_law_744 dL_law_746 dL_law_747 dL_law_748 ?_
  refine so_arg C 2 (by decide) hi (by decide) dL_law_749 dL_law_750 dL_law_752 dL_law_753 dL_law_754 ?_
  refine (so_cv (ci := 7) (n := 2) C.1 m_X7_spared rfl klq_148 klq_149 klq_150 klq_151 k_475 ⟨by decide, by decide, by decide +kernel⟩ (by decide) dL_law_755) _ (Lc i o5 o6, [.int y, .int y], u3) (cv_go (as := [.int (xs (i + 1)), .int (xs (i + 2))]) (st := [.int y]) rfl ((kd_1 f6).trans (li_156 I)) e7 (Nat.le_of_ble_eq_true rfl) (ln_1 f7) (wt_1 f7)) ?_
  exact so_eqi C dL_law_758 (by decide) (IH u3 o5 o6 I3)
set_option maxHeartbeats 4000000 in
theorem lwc_19 (C : lCx p l e s m below meth c g b L xs) {n i : Nat} {o5 o6 : Option Value} {u : am_St} (hi : i + 6 ≤ L) (hn : n < 512) (I : LInv n u) (IH : ∀ (u3 : am_St) (o5 o6 : Option Value), LInv (n + 1) u3 → lG p l e s m below meth c g b 1726 (Lc i o5 o6, [], u3)) : lG p l e s m below meth c g b 763 (Lc i o5 o6, [], u) := by
  obtain ⟨r, u2, u3, e6, e7, f6, f7, I3⟩ := li_st (st_odds (x := xs (i + 1)) (y := xs (i + 2))) hn I
  obtain ⟨y, rfl⟩ := fi_den iv_odds e6
  refine (so_aload_n C.1 dL_law_763 rfl) _ (Lc i o5 o6, [.ref 0], u) rfl ?_
  refine so_arg C 1 (by decide) hi (by decide) dL_law_764 dL_law_765 dL_law_767 dL_law_768 dL_law_769 ?_
  refine so_arg C 2 (by decide) hi (by decide) dL_law_770 dL_law_771 dL_law_773 dL_law_774 dL_law_775 ?_
  refine (so_cv (ci := 6) (n := 2) C.1 m_X6_odds rfl klq_152 klq_153 klq_154 klq_155 k_5 ⟨by decide, by decide, by decide +kernel⟩ (by decide) dL_law_776) _ (Lc i o5 o6, [.int y], u2) (cv_go (as := [.int (xs (i + 1)), .int (xs (i + 2))]) (st := []) rfl (li_0 I) e6 (Nat.le_of_ble_eq_true rfl) (ln_1 f6) (wt_1 f6)) ?_
  refine (so_aload_n C.1 dL_law_779 rfl) _ (Lc i o5 o6, [.ref 156, .int y], u2) rfl ?_
  refine so_arg C 1 (by decide) hi (by decide) dL_law_780 dL_law_781 dL_law_783 dL_law_784 dL_law_785 ?_
  refine so_arg C 2 (by decide) hi (by decide) dL_law_786 dL_law_787 dL_law_789 dL_law_790 dL_law_791 ?_
  refine (so_cv (ci := 7) (n := 2) C.1 m_X7_odds rfl klq_156 klq_157 klq_158 klq_159 k_475 ⟨by decide, by decide, by decide +kernel⟩ (by decide) dL_law_792) _ (Lc i o5 o6, [.int y, .int y], u3) (cv_go (as := [.int (xs (i + 1)), .int (xs (i + 2))]) (st := [.int y]) rfl ((kd_1 f6).trans (li_156 I)) e7 (Nat.le_of_ble_eq_true rfl) (ln_1 f7) (wt_1 f7)) ?_
  exact so_eqi C dL_law_795 (by decide) (IH u3 o5 o6 I3)
set_option maxHeartbeats 4000000 in
theorem lwc_20 (C : lCx p l e s m below meth c g b L xs) {n i : Nat} {o5 o6 : Option Value} {u : am_St} (hi : i + 6 ≤ L) (hn : n < 512) (I : LInv n u) (IH : ∀ (u3 : am_St) (o5 o6 : Option Value), LInv (n + 1) u3 → lG p l e s m below meth c g b 1726 (Lc i o5 o6, [], u3)) : lG p l e s m below meth c g b 800 (Lc i o5 o6, [], u) := by
  obtain ⟨r, u2, u3, e6, e7, f6, f7, I3⟩ := li_st (st_grafted (x := xs (i + 1)) (y := xs (i + 2)) (z := xs (i + 3))) hn I
  obtain ⟨y, rfl⟩ := fi_den iv_grafted e6
  refine (so_aload_n C.1 dL_law_800 rfl) _ (Lc i o5 o6, [.ref 0], u) rfl ?_
  refine so_arg C 1 (by decide) hi (by decide) dL_law_801 dL_law_802 dL_law_804 dL_law_805 dL_law_806 ?_
  refine so_arg C 2 (by decide) hi (by decide) dL_law_807 dL_law_808 dL_law_810 dL_law_811 dL_law_812 ?_
  refine so_arg C 3 (by decide) hi (by decide) dL_law_813 dL_law_814 dL_law_816 dL_law_817 dL_law_818 ?_
  refine (so_cv (ci := 6) (n := 3) C.1 m_X6_grafted rfl klq_160 klq_161 klq_162 klq_163 k_5 ⟨by decide, by decide, by decide +kernel⟩ (by decide) dL_law_819) _ (Lc i o5 o6, [.int y], u2) (cv_go (as := [.int (xs (i + 1)), .int (xs (i + 2)), .int (xs (i + 3))]) (st := []) rfl (li_0 I) e6 (Nat.le_of_ble_eq_true rfl) (ln_1 f6) (wt_1 f6)) ?_
  refine (so_aload_n C.1 dL_law_822 rfl) _ (Lc i o5 o6, [.ref 156, .int y], u2) rfl ?_
  refine so_arg C 1 (by decide) hi (by decide) dL_law_823 dL_law_824 dL_law_826 dL_law_827 dL_law_828 ?_
  refine so_arg C 2 (by decide) hi (by decide) dL_law_829 dL_law_830 dL_law_832 dL_law_833 dL_law_834 ?_
  refine so_arg C 3 (by decide) hi (by decide) dL_law_835 dL_law_836 dL_law_838 dL_law_839 dL_law_840 ?_
  refine (so_cv (ci := 7) (n := 3) C.1 m_X7_grafted rfl klq_164 klq_165 klq_166 klq_167 k_475 ⟨by decide, by decide, by decide +kernel⟩ (by decide) dL_law_841) _ (Lc i o5 o6, [.int y, .int y], u3) (cv_go (as := [.int (xs (i + 1)), .int (xs (i + 2)), .int (xs (i + 3))]) (st := [.int y]) rfl ((kd_1 f6).trans (li_156 I)) e7 (Nat.le_of_ble_eq_true rfl) (ln_1 f7) (wt_1 f7)) ?_
  exact so_eqi C dL_law_844 (by decide) (IH u3 o5 o6 I3)
set_option maxHeartbeats 4000000 in
theorem lwc_21 (C : lCx p l e s m below meth c g b L xs) {n i : Nat} {o5 o6 : Option Value} {u : am_St} (hi : i + 6 ≤ L) (hn : n < 512) (I : LInv n u) (IH : ∀ (u3 : am_St) (o5 o6 : Option Value), LInv (n + 1) u3 → lG p l e s m below meth c g b 1726 (Lc i o5 o6, [], u3)) : lG p l e s m below meth c g b 849 (Lc i o5 o6, [], u) := by
  obtain ⟨r, u2, u3, e6, e7, f6, f7, I3⟩ := li_st (st_bestGraft (x := xs (i + 1))) hn I
  obtain ⟨y, rfl⟩ := fi_den iv_bestGraft e6
  refine (so_aload_n C.1 dL_law_849 rfl) _ (Lc i o5 o6, [.ref 0], u) rfl ?_
  refine so_arg C 1 (by decide) hi (by decide) dL_law_850 dL_law_851 dL_law_853 dL_law_854 dL_law_855 ?_
  refine (so_cv (ci := 6) (n := 1) C.1 m_X6_bestGraft rfl klq_168 klq_169 klq_170 klq_171 k_5 ⟨by decide, by decide, by decide +kernel⟩ (by decide) dL_law_856) _ (Lc i o5 o6, [.int y], u2) (cv_go (as := [.int (xs (i + 1))]) (st := []) rfl (li_0 I) e6 (Nat.le_of_ble_eq_true rfl) (ln_1 f6) (wt_1 f6)) ?_
  refine (so_aload_n C.1 dL_law_859 rfl) _ (Lc i o5 o6, [.ref 156, .int y], u2) rfl ?_
  refine so_arg C 1 (by decide) hi (by decide) dL_law_860 dL_law_861 dL_law_863 dL_law_864 dL_law_865 ?_
  refine (so_cv (ci := 7) (n := 1) C.1 m_X7_bestGraft rfl klq_172 klq_173 klq_174 klq_175 k_475 ⟨by decide, by decide, by decide +kernel⟩ (by decide) dL_law_866) _ (Lc i o5 o6, [.int y, .int y], u3) (cv_go (as := [.int (xs (i + 1))]) (st := [.int y]) rfl ((kd_1 f6).trans (li_156 I)) e7 (Nat.le_of_ble_eq_true rfl) (ln_1 f7) (wt_1 f7)) ?_
  exact so_eqi C dL_law_869 (by decide) (IH u3 o5 o6 I3)
set_option maxHeartbeats 4000000 in
theorem lwc_22 (C : lCx p l e s m below meth c g b L xs) {n i : Nat} {o5 o6 : Option Value} {u : am_St} (hi : i + 6 ≤ L) (hn : n < 512) (I : LInv n u) (IH : ∀ (u3 : am_St) (o5 o6 : Option Value), LInv (n + 1) u3 → lG p l e s m below meth c g b 1726 (Lc i o5 o6, [], u3)) : lG p l e s m below meth c g b 874 (Lc i o5 o6, [], u) := by
  obtain ⟨r, u2, u3, e6, e7, f6, f7, I3⟩ := li_st st_left hn I
  obtain ⟨y, rfl⟩ := fi_den iv_left e6
  refine (so_aload_n C.1 dL_law_874 rfl) _ (Lc i o5 o6, [.ref 0], u) rfl ?_
  refine (so_cv (ci := 6) (n := 0) C.1 m_X6_left rfl klq_176 klq_177 klq_178 klq_179 k_5 ⟨by decide, by decide, by decide +kernel⟩ (by decide) dL_law_875) _ (Lc i o5 o6, [.int y], u2) (cv_go (as := []) (st := []) rfl (li_0 I) e6 (Nat.le_of_ble_eq_true rfl) (ln_1 f6) (wt_1 f6)) ?_
  refine (so_aload_n C.1 dL_law_878 rfl) _ (Lc i o5 o6, [.ref 156, .int y], u2) rfl ?_
  refine (so_cv (ci := 7) (n := 0) C.1 m_X7_left rfl klq_180 klq_181 klq_182 klq_183 k_475 ⟨by decide, by decide, by decide +kernel⟩ (by decide) dL_law_879) _ (Lc i o5 o6, [.int y, .int y], u3) (cv_go (as := []) (st := [.int y]) rfl ((kd_1 f6).trans (li_156 I)) e7 (Nat.le_of_ble_eq_true rfl) (ln_1 f7) (wt_1 f7)) ?_
  exact so_eqi C dL_law_882 (by decide) (IH u3 o5 o6 I3)
set_option maxHeartbeats 4000000 in
theorem lwc_23 (C : lCx p l e s m below meth c g b L xs) {n i : Nat} {o5 o6 : Option Value} {u : am_St} (hi : i + 6 ≤ L) (hn : n < 512) (I : LInv n u) (IH : ∀ (u3 : am_St) (o5 o6 : Option Value), LInv (n + 1) u3 → lG p l e s m below meth c g b 1726 (Lc i o5 o6, [], u3)) : lG p l e s m below meth c g b 887 (Lc i o5 o6, [], u) := by
  obtain ⟨r, u2, u3, e6, e7, f6, f7, I3⟩ := li_st (st_surest (x := bz (xs (i + 1)))) hn I
  obtain ⟨y, rfl⟩ := fi_den iv_surest e6
  refine (so_aload_n C.1 dL_law_887 rfl) _ (Lc i o5 o6, [.ref 0], u) rfl ?_
  refine so_arg C 1 (by decide) hi (by decide) dL_law_888 dL_law_889 dL_law_891 dL_law_892 dL_law_893 ?_
  refine so_bz C dL_law_894 dL_law_897 dL_law_898 dL_law_901 ?_
  refine (so_cv (ci := 6) (n := 1) C.1 m_X6_surest rfl klq_184 klq_185 klq_186 klq_187 k_5 ⟨by decide, by decide, by decide +kernel⟩ (by decide) dL_law_902) _ (Lc i o5 o6, [.long y], u2) (cv_go (as := [.int (bz (xs (i + 1)))]) (st := []) rfl (li_0 I) e6 (Nat.le_of_ble_eq_true rfl) (ln_1 f6) (wt_1 f6)) ?_
  refine (so_aload_n C.1 dL_law_905 rfl) _ (Lc i o5 o6, [.ref 156, .long y], u2) rfl ?_
  refine so_arg C 1 (by decide) hi (by decide) dL_law_906 dL_law_907 dL_law_909 dL_law_910 dL_law_911 ?_
  refine so_bz C dL_law_912 dL_law_915 dL_law_916 dL_law_919 ?_
  refine (so_cv (ci := 7) (n := 1) C.1 m_X7_surest rfl klq_188 klq_189 klq_190 klq_191 k_475 ⟨by decide, by decide, by decide +kernel⟩ (by decide) dL_law_920) _ (Lc i o5 o6, [.long y, .long y], u3) (cv_go (as := [.int (bz (xs (i + 1)))]) (st := [.long y]) rfl ((kd_1 f6).trans (li_156 I)) e7 (Nat.le_of_ble_eq_true rfl) (ln_1 f7) (wt_1 f7)) ?_
  exact so_eql C dL_law_923 dL_law_924 (by decide) (IH u3 o5 o6 I3)
end LAW
