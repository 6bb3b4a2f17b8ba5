-- what its calls answer
theorem iv_feed : am_fp2 isI f_X6_feed := by
  delta f_X6_feed
  repeat' (with_reducible (first | refine fi_th ?_ | exact fi_ri | exact fi_rz | exact fi_rl | exact fi_to | refine fi_br ?_ ?_ | refine fi_sq ?_ ?_))
theorem iv_valley : am_fp2 isI f_X6_valley := by
  delta f_X6_valley
  repeat' (with_reducible (first | refine fi_th ?_ | exact fi_ri | exact fi_rz | exact fi_rl | exact fi_to | refine fi_br ?_ ?_ | refine fi_sq ?_ ?_))
theorem iv_fault : am_fp2 isI f_X6_fault := by
  delta f_X6_fault
  repeat' (with_reducible (first | refine fi_th ?_ | exact fi_ri | exact fi_rz | exact fi_rl | exact fi_to | refine fi_br ?_ ?_ | refine fi_sq ?_ ?_))
theorem iv_where : am_fp2 isI f_X6_where := by
  delta f_X6_where
  repeat' (with_reducible (first | refine fi_th ?_ | exact fi_ri | exact fi_rz | exact fi_rl | exact fi_to | refine fi_br ?_ ?_ | refine fi_sq ?_ ?_))
theorem iv_quarrel : am_fp2 isI f_X6_quarrel := by
  delta f_X6_quarrel
  repeat' (with_reducible (first | refine fi_th ?_ | exact fi_ri | exact fi_rz | exact fi_rl | exact fi_to | refine fi_br ?_ ?_ | refine fi_sq ?_ ?_))
theorem iv_parties : am_fp2 isI f_X6_parties := by
  delta f_X6_parties
  repeat' (with_reducible (first | refine fi_th ?_ | exact fi_ri | exact fi_rz | exact fi_rl | exact fi_to | refine fi_br ?_ ?_ | refine fi_sq ?_ ?_))
theorem iv_X6_bound_l18 : am_fp2 isI f_X6_bound_l18 := by
  delta f_X6_bound_l18
  repeat' (with_reducible (first | refine fi_th ?_ | exact fi_ri | exact fi_rz | exact fi_rl | exact fi_to | refine fi_br ?_ ?_ | refine fi_sq ?_ ?_))
theorem iv_bound : am_fp2 isI f_X6_bound := by
  delta f_X6_bound
  repeat' (with_reducible (first | refine fi_th ?_ | exact fi_ri | exact fi_rz | exact fi_rl | exact fi_to | refine fi_br ?_ ?_ | refine fi_sq ?_ ?_ | exact fi_lp iv_X6_bound_l18 _))
theorem iv_peace : am_fp2 isI f_X6_peace := by
  delta f_X6_peace
  repeat' (with_reducible (first | refine fi_th ?_ | exact fi_ri | exact fi_rz | exact fi_rl | exact fi_to | refine fi_br ?_ ?_ | refine fi_sq ?_ ?_))
theorem iv_stand : am_fp2 isI f_X6_stand := by
  delta f_X6_stand
  repeat' (with_reducible (first | refine fi_th ?_ | exact fi_ri | exact fi_rz | exact fi_rl | exact fi_to | refine fi_br ?_ ?_ | refine fi_sq ?_ ?_))
theorem iv_X6_feud_l29 : am_fp2 isI f_X6_feud_l29 := by
  delta f_X6_feud_l29
  repeat' (with_reducible (first | refine fi_th ?_ | exact fi_ri | exact fi_rz | exact fi_rl | exact fi_to | refine fi_br ?_ ?_ | refine fi_sq ?_ ?_ | exact fi_lp iv_X6_feud_l20 _))
theorem iv_X6_feud_l20 : am_fp2 isI f_X6_feud_l20 := by
  delta f_X6_feud_l20
  repeat' (with_reducible (first | refine fi_th ?_ | exact fi_ri | exact fi_rz | exact fi_rl | exact fi_to | refine fi_br ?_ ?_ | refine fi_sq ?_ ?_ | exact fi_lp iv_X6_feud_l29 _))
theorem iv_feud : am_fp2 isI f_X6_feud := by
  delta f_X6_feud
  repeat' (with_reducible (first | refine fi_th ?_ | exact fi_ri | exact fi_rz | exact fi_rl | exact fi_to | refine fi_br ?_ ?_ | refine fi_sq ?_ ?_ | exact fi_lp iv_X6_feud_l29 _ | exact fi_lp iv_X6_feud_l20 _))
theorem iv_vigour : am_fp2 isI f_X6_vigour := by
  delta f_X6_vigour
  repeat' (with_reducible (first | refine fi_th ?_ | exact fi_ri | exact fi_rz | exact fi_rl | exact fi_to | refine fi_br ?_ ?_ | refine fi_sq ?_ ?_))
theorem iv_fruits : am_fp2 isI f_X6_fruits := by
  delta f_X6_fruits
  repeat' (with_reducible (first | refine fi_th ?_ | exact fi_ri | exact fi_rz | exact fi_rl | exact fi_to | refine fi_br ?_ ?_ | refine fi_sq ?_ ?_))
theorem iv_X6_first_l27 : am_fp2 isI f_X6_first_l27 := by
  delta f_X6_first_l27
  repeat' (with_reducible (first | refine fi_th ?_ | exact fi_ri | exact fi_rz | exact fi_rl | exact fi_to | refine fi_br ?_ ?_ | refine fi_sq ?_ ?_))
theorem iv_first : am_fp2 isI f_X6_first := by
  delta f_X6_first
  repeat' (with_reducible (first | refine fi_th ?_ | exact fi_ri | exact fi_rz | exact fi_rl | exact fi_to | refine fi_br ?_ ?_ | refine fi_sq ?_ ?_ | exact fi_lp iv_X6_first_l27 _))
theorem iv_fallen : am_fp2 isI f_X6_fallen := by
  delta f_X6_fallen
  repeat' (with_reducible (first | refine fi_th ?_ | exact fi_ri | exact fi_rz | exact fi_rl | exact fi_to | refine fi_br ?_ ?_ | refine fi_sq ?_ ?_))
theorem iv_suckers : am_fp2 isI f_X6_suckers := by
  delta f_X6_suckers
  repeat' (with_reducible (first | refine fi_th ?_ | exact fi_ri | exact fi_rz | exact fi_rl | exact fi_to | refine fi_br ?_ ?_ | refine fi_sq ?_ ?_))
theorem iv_X6_quiet_l41 : am_fp2 isI f_X6_quiet_l41 := by
  delta f_X6_quiet_l41
  repeat' (with_reducible (first | refine fi_th ?_ | exact fi_ri | exact fi_rz | exact fi_rl | exact fi_to | refine fi_br ?_ ?_ | refine fi_sq ?_ ?_))
theorem iv_quiet : am_fp2 isI f_X6_quiet := by
  delta f_X6_quiet
  repeat' (with_reducible (first | refine fi_th ?_ | exact fi_ri | exact fi_rz | exact fi_rl | exact fi_to | refine fi_br ?_ ?_ | refine fi_sq ?_ ?_ | exact fi_lp iv_X6_quiet_l41 _))
theorem iv_X6_peaceBy_l26 : am_fp2 isI f_X6_peaceBy_l26 := by
  delta f_X6_peaceBy_l26
  repeat' (with_reducible (first | refine fi_th ?_ | exact fi_ri | exact fi_rz | exact fi_rl | exact fi_to | refine fi_br ?_ ?_ | refine fi_sq ?_ ?_))
theorem iv_peaceBy : am_fp2 isI f_X6_peaceBy := by
  delta f_X6_peaceBy
  repeat' (with_reducible (first | refine fi_th ?_ | exact fi_ri | exact fi_rz | exact fi_rl | exact fi_to | refine fi_br ?_ ?_ | refine fi_sq ?_ ?_ | exact fi_lp iv_X6_peaceBy_l26 _))
theorem iv_X6_worst_l39 : am_fp2 isI f_X6_worst_l39 := by
  delta f_X6_worst_l39
  repeat' (with_reducible (first | refine fi_th ?_ | exact fi_ri | exact fi_rz | exact fi_rl | exact fi_to | refine fi_br ?_ ?_ | refine fi_sq ?_ ?_))
theorem iv_worst : am_fp2 isI f_X6_worst := by
  delta f_X6_worst
  repeat' (with_reducible (first | refine fi_th ?_ | exact fi_ri | exact fi_rz | exact fi_rl | exact fi_to | refine fi_br ?_ ?_ | refine fi_sq ?_ ?_ | exact fi_lp iv_X6_worst_l39 _))
theorem iv_spared : am_fp2 isI f_X6_spared := by
  delta f_X6_spared
  repeat' (with_reducible (first | refine fi_th ?_ | exact fi_ri | exact fi_rz | exact fi_rl | exact fi_to | refine fi_br ?_ ?_ | refine fi_sq ?_ ?_))
theorem iv_odds : am_fp2 isI f_X6_odds := by
  delta f_X6_odds
  repeat' (with_reducible (first | refine fi_th ?_ | exact fi_ri | exact fi_rz | exact fi_rl | exact fi_to | refine fi_br ?_ ?_ | refine fi_sq ?_ ?_))
theorem iv_grafted : am_fp2 isI f_X6_grafted := by
  delta f_X6_grafted
  repeat' (with_reducible (first | refine fi_th ?_ | exact fi_ri | exact fi_rz | exact fi_rl | exact fi_to | refine fi_br ?_ ?_ | refine fi_sq ?_ ?_))
theorem iv_X6_bestGraft_l53 : am_fp2 isI f_X6_bestGraft_l53 := by
  delta f_X6_bestGraft_l53
  repeat' (with_reducible (first | refine fi_th ?_ | exact fi_ri | exact fi_rz | exact fi_rl | exact fi_to | refine fi_br ?_ ?_ | refine fi_sq ?_ ?_ | exact fi_lp iv_X6_bestGraft_l38 _))
theorem iv_X6_bestGraft_l38 : am_fp2 isI f_X6_bestGraft_l38 := by
  delta f_X6_bestGraft_l38
  repeat' (with_reducible (first | refine fi_th ?_ | exact fi_ri | exact fi_rz | exact fi_rl | exact fi_to | refine fi_br ?_ ?_ | refine fi_sq ?_ ?_ | exact fi_lp iv_X6_bestGraft_l53 _))
theorem iv_bestGraft : am_fp2 isI f_X6_bestGraft := by
  delta f_X6_bestGraft
  repeat' (with_reducible (first | refine fi_th ?_ | exact fi_ri | exact fi_rz | exact fi_rl | exact fi_to | refine fi_br ?_ ?_ | refine fi_sq ?_ ?_ | exact fi_lp iv_X6_bestGraft_l53 _ | exact fi_lp iv_X6_bestGraft_l38 _))
theorem iv_left : am_fp2 isI f_X6_left := by
  delta f_X6_left
  repeat' (with_reducible (first | refine fi_th ?_ | exact fi_ri | exact fi_rz | exact fi_rl | exact fi_to | refine fi_br ?_ ?_ | refine fi_sq ?_ ?_))
theorem iv_surest : am_fp2 isJ f_X6_surest := by
  delta f_X6_surest
  repeat' (with_reducible (first | refine fi_th ?_ | exact fi_ri | exact fi_rz | exact fi_rl | exact fi_to | refine fi_br ?_ ?_ | refine fi_sq ?_ ?_))
theorem iv_takes : am_fp2 isJ f_X6_takes := by
  delta f_X6_takes
  repeat' (with_reducible (first | refine fi_th ?_ | exact fi_ri | exact fi_rz | exact fi_rl | exact fi_to | refine fi_br ?_ ?_ | refine fi_sq ?_ ?_))
theorem iv_surestAt : am_fp2 isI f_X6_surestAt := by
  delta f_X6_surestAt
  repeat' (with_reducible (first | refine fi_th ?_ | exact fi_ri | exact fi_rz | exact fi_rl | exact fi_to | refine fi_br ?_ ?_ | refine fi_sq ?_ ?_))
theorem iv_prune : am_fp2 isI f_X6_prune := by
  delta f_X6_prune
  repeat' (with_reducible (first | refine fi_th ?_ | exact fi_ri | exact fi_rz | exact fi_rl | exact fi_to | refine fi_br ?_ ?_ | refine fi_sq ?_ ?_))
theorem iv_pruneAt : am_fp2 isI f_X6_pruneAt := by
  delta f_X6_pruneAt
  repeat' (with_reducible (first | refine fi_th ?_ | exact fi_ri | exact fi_rz | exact fi_rl | exact fi_to | refine fi_br ?_ ?_ | refine fi_sq ?_ ?_))
theorem iv_X6_feedFor_l45 : am_fp2 isI f_X6_feedFor_l45 := by
  delta f_X6_feedFor_l45
  repeat' (with_reducible (first | refine fi_th ?_ | exact fi_ri | exact fi_rz | exact fi_rl | exact fi_to | refine fi_br ?_ ?_ | refine fi_sq ?_ ?_))
theorem iv_feedFor : am_fp2 isI f_X6_feedFor := by
  delta f_X6_feedFor
  repeat' (with_reducible (first | refine fi_th ?_ | exact fi_ri | exact fi_rz | exact fi_rl | exact fi_to | refine fi_br ?_ ?_ | refine fi_sq ?_ ?_ | exact fi_lp iv_X6_feedFor_l45 _))
theorem iv_X6_feedAgainst_l56 : am_fp2 isI f_X6_feedAgainst_l56 := by
  delta f_X6_feedAgainst_l56
  repeat' (with_reducible (first | refine fi_th ?_ | exact fi_ri | exact fi_rz | exact fi_rl | exact fi_to | refine fi_br ?_ ?_ | refine fi_sq ?_ ?_))
theorem iv_feedAgainst : am_fp2 isI f_X6_feedAgainst := by
  delta f_X6_feedAgainst
  repeat' (with_reducible (first | refine fi_th ?_ | exact fi_ri | exact fi_rz | exact fi_rl | exact fi_to | refine fi_br ?_ ?_ | refine fi_sq ?_ ?_ | exact fi_lp iv_X6_feedAgainst_l56 _))
theorem iv_share : am_fp2 isI f_X6_share := by
  delta f_X6_share
  repeat' (with_reducible (first | refine fi_th ?_ | exact fi_ri | exact fi_rz | exact fi_rl | exact fi_to | refine fi_br ?_ ?_ | refine fi_sq ?_ ?_))
theorem iv_game : am_fp2 isI f_X6_game := by
  delta f_X6_game
  repeat' (with_reducible (first | refine fi_th ?_ | exact fi_ri | exact fi_rz | exact fi_rl | exact fi_to | refine fi_br ?_ ?_ | refine fi_sq ?_ ?_))
theorem iv_X6_rests_l26 : am_fp2 isI f_X6_rests_l26 := by
  delta f_X6_rests_l26
  repeat' (with_reducible (first | refine fi_th ?_ | exact fi_ri | exact fi_rz | exact fi_rl | exact fi_to | refine fi_br ?_ ?_ | refine fi_sq ?_ ?_ | exact fi_lp iv_X6_rests_l18 _))
theorem iv_X6_rests_l18 : am_fp2 isI f_X6_rests_l18 := by
  delta f_X6_rests_l18
  repeat' (with_reducible (first | refine fi_th ?_ | exact fi_ri | exact fi_rz | exact fi_rl | exact fi_to | refine fi_br ?_ ?_ | refine fi_sq ?_ ?_ | exact fi_lp iv_X6_rests_l26 _))
theorem iv_rests : am_fp2 isI f_X6_rests := by
  delta f_X6_rests
  repeat' (with_reducible (first | refine fi_th ?_ | exact fi_ri | exact fi_rz | exact fi_rl | exact fi_to | refine fi_br ?_ ?_ | refine fi_sq ?_ ?_ | exact fi_lp iv_X6_rests_l26 _ | exact fi_lp iv_X6_rests_l18 _))
theorem iv_X6_rest_l23 : am_fp2 isI f_X6_rest_l23 := by
  delta f_X6_rest_l23
  repeat' (with_reducible (first | refine fi_th ?_ | exact fi_ri | exact fi_rz | exact fi_rl | exact fi_to | refine fi_br ?_ ?_ | refine fi_sq ?_ ?_ | exact fi_lp iv_X6_rest_l16 _))
theorem iv_X6_rest_l16 : am_fp2 isI f_X6_rest_l16 := by
  delta f_X6_rest_l16
  repeat' (with_reducible (first | refine fi_th ?_ | exact fi_ri | exact fi_rz | exact fi_rl | exact fi_to | refine fi_br ?_ ?_ | refine fi_sq ?_ ?_ | exact fi_lp iv_X6_rest_l23 _))
theorem iv_rest : am_fp2 isI f_X6_rest := by
  delta f_X6_rest
  repeat' (with_reducible (first | refine fi_th ?_ | exact fi_ri | exact fi_rz | exact fi_rl | exact fi_to | refine fi_br ?_ ?_ | refine fi_sq ?_ ?_ | exact fi_lp iv_X6_rest_l23 _ | exact fi_lp iv_X6_rest_l16 _))
theorem iv_ways : am_fp2 isI f_X6_ways := by
  delta f_X6_ways
  repeat' (with_reducible (first | refine fi_th ?_ | exact fi_ri | exact fi_rz | exact fi_rl | exact fi_to | refine fi_br ?_ ?_ | refine fi_sq ?_ ?_))
theorem iv_wayAt : am_fp2 isI f_X6_wayAt := by
  delta f_X6_wayAt
  repeat' (with_reducible (first | refine fi_th ?_ | exact fi_ri | exact fi_rz | exact fi_rl | exact fi_to | refine fi_br ?_ ?_ | refine fi_sq ?_ ?_))
theorem iv_judge : am_fp2 isI f_X6_judge := by
  delta f_X6_judge
  repeat' (with_reducible (first | refine fi_th ?_ | exact fi_ri | exact fi_rz | exact fi_rl | exact fi_to | refine fi_br ?_ ?_ | refine fi_sq ?_ ?_))
theorem iv_year : am_fp2 isI f_X6_year := by
  delta f_X6_year
  repeat' (with_reducible (first | refine fi_th ?_ | exact fi_ri | exact fi_rz | exact fi_rl | exact fi_to | refine fi_br ?_ ?_ | refine fi_sq ?_ ?_))
theorem iv_years : am_fp2 isI f_X6_years := by
  delta f_X6_years
  repeat' (with_reducible (first | refine fi_th ?_ | exact fi_ri | exact fi_rz | exact fi_rl | exact fi_to | refine fi_br ?_ ?_ | refine fi_sq ?_ ?_))
theorem iv_graft : am_fp2 isI f_X6_graft := by
  delta f_X6_graft
  repeat' (with_reducible (first | refine fi_th ?_ | exact fi_ri | exact fi_rz | exact fi_rl | exact fi_to | refine fi_br ?_ ?_ | refine fi_sq ?_ ?_))
theorem iv_nourish : am_fp2 isI f_X6_nourish := by
  delta f_X6_nourish
  repeat' (with_reducible (first | refine fi_th ?_ | exact fi_ri | exact fi_rz | exact fi_rl | exact fi_to | refine fi_br ?_ ?_ | refine fi_sq ?_ ?_))
theorem iv_cut : am_fp2 isI f_X6_cut := by
  delta f_X6_cut
  repeat' (with_reducible (first | refine fi_th ?_ | exact fi_ri | exact fi_rz | exact fi_rl | exact fi_to | refine fi_br ?_ ?_ | refine fi_sq ?_ ?_))
theorem iv_season : am_fp2 isI f_X6_season := by
  delta f_X6_season
  repeat' (with_reducible (first | refine fi_th ?_ | exact fi_ri | exact fi_rz | exact fi_rl | exact fi_to | refine fi_br ?_ ?_ | refine fi_sq ?_ ?_))
theorem iv_undo : am_fp2 isI f_X6_undo := by
  delta f_X6_undo
  repeat' (with_reducible (first | refine fi_th ?_ | exact fi_ri | exact fi_rz | exact fi_rl | exact fi_to | refine fi_br ?_ ?_ | refine fi_sq ?_ ?_))
theorem iv_image : am_fp2 isI f_X6_image := by
  delta f_X6_image
  repeat' (with_reducible (first | refine fi_th ?_ | exact fi_ri | exact fi_rz | exact fi_rl | exact fi_to | refine fi_br ?_ ?_ | refine fi_sq ?_ ?_))
theorem iv_back : am_fp2 isI f_X6_back := by
  delta f_X6_back
  repeat' (with_reducible (first | refine fi_th ?_ | exact fi_ri | exact fi_rz | exact fi_rl | exact fi_to | refine fi_br ?_ ?_ | refine fi_sq ?_ ?_))
theorem iv_size : am_fp2 isI f_X6_size := by
  delta f_X6_size
  repeat' (with_reducible (first | refine fi_th ?_ | exact fi_ri | exact fi_rz | exact fi_rl | exact fi_to | refine fi_br ?_ ?_ | refine fi_sq ?_ ?_))
theorem iv_trouble : am_fp2 isI f_X6_trouble := by
  delta f_X6_trouble
  repeat' (with_reducible (first | refine fi_th ?_ | exact fi_ri | exact fi_rz | exact fi_rl | exact fi_to | refine fi_br ?_ ?_ | refine fi_sq ?_ ?_))
