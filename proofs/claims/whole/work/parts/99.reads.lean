-- EVERY READING
abbrev sS := Bool × vS × xE × gS × Nat × (Nat → gS) × Nat × (Nat → gS) × Int32 × Int32 × Int32 × Nat × (Nat → Nat)
def CJ (u : am_St) (s : sS) : Prop := CI u s.1 s.2.1 s.2.2.2.1 s.2.2.2.2.1 s.2.2.2.2.2.1 s.2.2.2.2.2.2.1 s.2.2.2.2.2.2.2.1 s.2.2.2.2.2.2.2.2.1 s.2.2.2.2.2.2.2.2.2.1 s.2.2.2.2.2.2.2.2.2.2.1 s.2.2.2.2.2.2.2.2.2.2.2.1 s.2.2.2.2.2.2.2.2.2.2.2.2
def MJ (u : am_St) (s : sS) : Prop := MI u s.1 s.2.1 s.2.2.1 s.2.2.2.1 s.2.2.2.2.1 s.2.2.2.2.2.1 s.2.2.2.2.2.2.1 s.2.2.2.2.2.2.2.1 s.2.2.2.2.2.2.2.2.1 s.2.2.2.2.2.2.2.2.2.1 s.2.2.2.2.2.2.2.2.2.2.1 s.2.2.2.2.2.2.2.2.2.2.2.1 s.2.2.2.2.2.2.2.2.2.2.2.2
def PJ (s : sS) (n : Nat) : Prop := PS s.1 s.2.1 s.2.2.1 s.2.2.2.1 s.2.2.2.2.1 s.2.2.2.2.2.1 s.2.2.2.2.2.2.1 s.2.2.2.2.2.2.2.1 s.2.2.2.2.2.2.2.2.2.2.2.1 s.2.2.2.2.2.2.2.2.2.2.2.2 n
/-- both answer a call alike, and stay alike -/
def AStp (D6 D7 : am_D) (as : List Value) : Prop := ∀ (s : sS) (n : Nat) (u : am_St), n < 512 → CJ u s → MJ u s → PJ s n → ∃ r s2, PJ s2 (n + 1) ∧ (∃ u2, D6 (.ref 0 :: as) u = some (some r, u2) ∧ CFr u u2 ∧ CJ u2 s2) ∧ ∀ u1, MJ u1 s → ∃ u2, D7 (.ref 156 :: as) u1 = some (some r, u2) ∧ MFr u1 u2 ∧ MJ u2 s2
theorem t4_0 : ¬ (0 : Int32) = nI 4 := by decide
theorem t4_1 : ¬ (1 : Int32) = nI 4 := by decide
theorem t4_2 : ¬ (2 : Int32) = nI 4 := by decide
theorem t4_3 : ¬ (3 : Int32) = nI 4 := by decide
theorem t4_5 : ¬ (5 : Int32) = nI 4 := by decide
theorem t4_6 : ¬ (6 : Int32) = nI 4 := by decide
theorem rd {D6 D7 : am_D} {as : List Value} (A : Bool → vS → gS → Value × Int32) (h4 : ∀ hs V G, ¬ (A hs V G).2 = nI 4) (hc : ∀ u hs tv V E G B, CW u hs tv V G → PW hs V E G B → B < 4900 → ∃ u2, D6 (.ref 0 :: as) u = some (some (A hs V G).1, u2) ∧ csame u u2 (A hs V G).2) (hm : ∀ u hs V E G B, MW u hs V E G → PW hs V E G B → B < 4900 → ∃ u2, D7 (.ref 156 :: as) u = some (some (A hs V G).1, u2) ∧ msame u u2 (A hs V G).2) : AStp D6 D7 as := by
  rintro ⟨hs, V, E, G, a, H, i, K, tr, fl, wh, k, t⟩ n u hn hC hM hP
  have hC : CI u hs V G a H i K tr fl wh k t := hC
  have hP : PS hs V E G a H i K k t n := hP
  have hW := ps_w hP hn
  obtain ⟨⟨tv, cw, -⟩, -⟩ := id hC
  obtain ⟨u2, e2, s2⟩ := hc u hs tv V E G _ cw hW (by omega)
  refine ⟨(A hs V G).1, (hs, V, E, G, a, H, i, K, (A hs V G).2, fl, wh, k, t), ps_m hP (by omega), ⟨u2, e2, cs_fr s2, ci_cs s2 (h4 hs V G) hC⟩, fun u1 hM1 => ?_⟩
  have hM1 : MI u1 hs V E G a H i K tr fl wh k t := hM1
  obtain ⟨u3, e3, s3⟩ := hm u1 hs V E G _ hM1.1 hW (by omega)
  exact ⟨u3, e3, ms_fr s3, mi_ms s3 (h4 hs V G) hM1⟩
theorem rdp {D6 D7 : am_D} {as : List Value} (A : Bool → vS → gS → Value × Int32) (h4 : ∀ hs V G, ¬ (A hs V G).2 = nI 4) (hc : ∀ u hs tv V E G B, CW u hs tv V G → PW hs V E G B → PLN u hs V G → ∃ u2, D6 (.ref 0 :: as) u = some (some (A hs V G).1, u2) ∧ psame u u2 (A hs V G).2 ∧ PLN u2 hs V G) (hm : ∀ u hs V E G B, MW u hs V E G → PW hs V E G B → ∃ u2, D7 (.ref 156 :: as) u = some (some (A hs V G).1, u2) ∧ msame u u2 (A hs V G).2) : AStp D6 D7 as := by
  rintro ⟨hs, V, E, G, a, H, i, K, tr, fl, wh, k, t⟩ n u hn hC hM hP
  have hC : CI u hs V G a H i K tr fl wh k t := hC
  have hP : PS hs V E G a H i K k t n := hP
  have hW := ps_w hP hn
  obtain ⟨⟨tv, cw, -⟩, -, -, -, hN, -⟩ := id hC
  obtain ⟨u2, e2, s2, N2⟩ := hc u hs tv V E G _ cw hW hN
  refine ⟨(A hs V G).1, (hs, V, E, G, a, H, i, K, (A hs V G).2, fl, wh, k, t), ps_m hP (by omega), ⟨u2, e2, ps_fr s2, ci_ps s2 N2 (h4 hs V G) hC⟩, fun u1 hM1 => ?_⟩
  have hM1 : MI u1 hs V E G a H i K tr fl wh k t := hM1
  obtain ⟨u3, e3, s3⟩ := hm u1 hs V E G _ hM1.1 hW
  exact ⟨u3, e3, ms_fr s3, mi_ms s3 (h4 hs V G) hM1⟩
theorem st_parties {x : Int32} : AStp d_X6_parties d_X7_parties [.int x] := rd (fun hs V G => (.int (a_parties hs V G x).1, (a_parties hs V G x).2)) (fun hs V G => by
  show ¬ (a_parties hs V G x).2 = nI 4
  unfold a_parties
  repeat' split
  all_goals (first | exact t4_0 | exact t4_1 | exact t4_2 | exact t4_3 | exact t4_5 | exact t4_6)) (fun _ _ _ _ _ _ _ hC hP _ => c_parties hC hP) (fun _ _ _ _ _ _ hM hP _ => mo_parties hM hP)
theorem st_peace : AStp d_X6_peace d_X7_peace [] := rd (fun hs V G => (.int (a_peace hs V G ).1, (a_peace hs V G ).2)) (fun hs V G => by
  show ¬ (a_peace hs V G ).2 = nI 4
  unfold a_peace
  repeat' split
  all_goals (first | exact t4_0 | exact t4_1 | exact t4_2 | exact t4_3 | exact t4_5 | exact t4_6)) (fun _ _ _ _ _ _ _ hC hP _ => c_peace hC hP) (fun _ _ _ _ _ _ hM hP _ => mo_peace hM hP)
theorem st_stand : AStp d_X6_stand d_X7_stand [] := rd (fun hs V G => (.int (a_stand hs V G ).1, (a_stand hs V G ).2)) (fun hs V G => by
  show ¬ (a_stand hs V G ).2 = nI 4
  unfold a_stand
  repeat' split
  all_goals (first | exact t4_0 | exact t4_1 | exact t4_2 | exact t4_3 | exact t4_5 | exact t4_6)) (fun _ _ _ _ _ _ _ hC hP _ => c_stand hC hP) (fun _ _ _ _ _ _ hM hP _ => mo_stand hM hP)
theorem st_bound {x : Int32} : AStp d_X6_bound d_X7_bound [.int x] := rd (fun hs V G => (.int (a_bound hs V G x).1, (a_bound hs V G x).2)) (fun hs V G => by
  show ¬ (a_bound hs V G x).2 = nI 4
  unfold a_bound
  repeat' split
  all_goals (first | exact t4_0 | exact t4_1 | exact t4_2 | exact t4_3 | exact t4_5 | exact t4_6)) (fun _ _ _ _ _ _ _ hC hP _ => c_bound hC hP) (fun _ _ _ _ _ _ hM hP _ => mo_bound hM hP)
theorem st_vigour {x y : Int32} : AStp d_X6_vigour d_X7_vigour [.int x, .int y] := rd (fun hs V G => (.int (a_vigour hs V G x y).1, (a_vigour hs V G x y).2)) (fun hs V G => by
  show ¬ (a_vigour hs V G x y).2 = nI 4
  unfold a_vigour
  repeat' split
  all_goals (first | exact t4_0 | exact t4_1 | exact t4_2 | exact t4_3 | exact t4_5 | exact t4_6)) (fun _ _ _ _ _ _ _ hC hP _ => c_vigour hC hP) (fun _ _ _ _ _ _ hM hP _ => mo_vigour hM hP)
theorem st_fruits {x y : Int32} : AStp d_X6_fruits d_X7_fruits [.int x, .int y] := rd (fun hs V G => (.int (a_fruits hs V G x y).1, (a_fruits hs V G x y).2)) (fun hs V G => by
  show ¬ (a_fruits hs V G x y).2 = nI 4
  unfold a_fruits
  repeat' split
  all_goals (first | exact t4_0 | exact t4_1 | exact t4_2 | exact t4_3 | exact t4_5 | exact t4_6)) (fun _ _ _ _ _ _ _ hC hP _ => c_fruits hC hP) (fun _ _ _ _ _ _ hM hP _ => mo_fruits hM hP)
theorem st_fallen {x : Int32} : AStp d_X6_fallen d_X7_fallen [.int x] := rd (fun hs V G => (.int (a_fallen hs V G x).1, (a_fallen hs V G x).2)) (fun hs V G => by
  show ¬ (a_fallen hs V G x).2 = nI 4
  unfold a_fallen
  repeat' split
  all_goals (first | exact t4_0 | exact t4_1 | exact t4_2 | exact t4_3 | exact t4_5 | exact t4_6)) (fun _ _ _ _ _ _ _ hC hP _ => c_fallen hC hP) (fun _ _ _ _ _ _ hM hP _ => mo_fallen hM hP)
theorem st_suckers {x : Int32} : AStp d_X6_suckers d_X7_suckers [.int x] := rd (fun hs V G => (.int (a_suckers hs V G x).1, (a_suckers hs V G x).2)) (fun hs V G => by
  show ¬ (a_suckers hs V G x).2 = nI 4
  unfold a_suckers
  repeat' split
  all_goals (first | exact t4_0 | exact t4_1 | exact t4_2 | exact t4_3 | exact t4_5 | exact t4_6)) (fun _ _ _ _ _ _ _ hC hP _ => c_suckers hC hP) (fun _ _ _ _ _ _ hM hP _ => mo_suckers hM hP)
theorem st_odds {x y : Int32} : AStp d_X6_odds d_X7_odds [.int x, .int y] := rd (fun hs V G => (.int (a_odds hs V G x y).1, (a_odds hs V G x y).2)) (fun hs V G => by
  show ¬ (a_odds hs V G x y).2 = nI 4
  unfold a_odds
  repeat' split
  all_goals (first | exact t4_0 | exact t4_1 | exact t4_2 | exact t4_3 | exact t4_5 | exact t4_6)) (fun _ _ _ _ _ _ _ hC hP _ => c_odds hC hP) (fun _ _ _ _ _ _ hM hP _ => mo_odds hM hP)
theorem st_grafted {x y z : Int32} : AStp d_X6_grafted d_X7_grafted [.int x, .int y, .int z] := rd (fun hs V G => (.int (a_grafted hs V G x y z).1, (a_grafted hs V G x y z).2)) (fun hs V G => by
  show ¬ (a_grafted hs V G x y z).2 = nI 4
  unfold a_grafted
  repeat' split
  all_goals (first | exact t4_0 | exact t4_1 | exact t4_2 | exact t4_3 | exact t4_5 | exact t4_6)) (fun _ _ _ _ _ _ _ hC hP _ => c_grafted hC hP) (fun _ _ _ _ _ _ hM hP _ => mo_grafted hM hP)
theorem st_first {x : Int32} : AStp d_X6_first d_X7_first [.int x] := rd (fun hs V G => (.int (a_first hs V G x).1, (a_first hs V G x).2)) (fun hs V G => by
  show ¬ (a_first hs V G x).2 = nI 4
  unfold a_first
  repeat' split
  all_goals (first | exact t4_0 | exact t4_1 | exact t4_2 | exact t4_3 | exact t4_5 | exact t4_6)) (fun _ _ _ _ _ _ _ hC hP _ => c_first hC hP) (fun _ _ _ _ _ _ hM hP _ => mo_first hM hP)
theorem st_quiet {x : Int32} : AStp d_X6_quiet d_X7_quiet [.int x] := rd (fun hs V G => (.int (a_quiet hs V G x).1, (a_quiet hs V G x).2)) (fun hs V G => by
  show ¬ (a_quiet hs V G x).2 = nI 4
  unfold a_quiet
  repeat' split
  all_goals (first | exact t4_0 | exact t4_1 | exact t4_2 | exact t4_3 | exact t4_5 | exact t4_6)) (fun _ _ _ _ _ _ _ hC hP _ => c_quiet hC hP) (fun _ _ _ _ _ _ hM hP _ => mo_quiet hM hP)
theorem st_peaceBy : AStp d_X6_peaceBy d_X7_peaceBy [] := rd (fun hs V G => (.int (a_peaceBy hs V G ).1, (a_peaceBy hs V G ).2)) (fun hs V G => by
  show ¬ (a_peaceBy hs V G ).2 = nI 4
  unfold a_peaceBy
  repeat' split
  all_goals (first | exact t4_0 | exact t4_1 | exact t4_2 | exact t4_3 | exact t4_5 | exact t4_6)) (fun _ _ _ _ _ _ _ hC hP _ => c_peaceBy hC hP) (fun _ _ _ _ _ _ hM hP _ => mo_peaceBy hM hP)
theorem st_worst {x : Int32} : AStp d_X6_worst d_X7_worst [.int x] := rd (fun hs V G => (.int (a_worst hs V G x).1, (a_worst hs V G x).2)) (fun hs V G => by
  show ¬ (a_worst hs V G x).2 = nI 4
  unfold a_worst
  repeat' split
  all_goals (first | exact t4_0 | exact t4_1 | exact t4_2 | exact t4_3 | exact t4_5 | exact t4_6)) (fun _ _ _ _ _ _ _ hC hP _ => c_worst hC hP) (fun _ _ _ _ _ _ hM hP _ => mo_worst hM hP)
theorem st_spared {x y : Int32} : AStp d_X6_spared d_X7_spared [.int x, .int y] := rd (fun hs V G => (.int (a_spared hs V G x y).1, (a_spared hs V G x y).2)) (fun hs V G => by
  show ¬ (a_spared hs V G x y).2 = nI 4
  unfold a_spared
  repeat' split
  all_goals (first | exact t4_0 | exact t4_1 | exact t4_2 | exact t4_3 | exact t4_5 | exact t4_6)) (fun _ _ _ _ _ _ _ hC hP _ => c_spared hC hP) (fun _ _ _ _ _ _ hM hP _ => mo_spared hM hP)
theorem st_quarrel {x y : Int32} : AStp d_X6_quarrel d_X7_quarrel [.int x, .int y] := rd (fun hs V G => (.int (a_quarrel hs V G x y).1, (a_quarrel hs V G x y).2)) (fun hs V G => by
  show ¬ (a_quarrel hs V G x y).2 = nI 4
  unfold a_quarrel
  repeat' split
  all_goals (first | exact t4_0 | exact t4_1 | exact t4_2 | exact t4_3 | exact t4_5 | exact t4_6)) (fun _ _ _ _ _ _ _ hC hP _ => c_quarrel hC hP) (fun _ _ _ _ _ _ hM hP _ => mo_quarrel hM hP)
theorem st_bestGraft {x : Int32} : AStp d_X6_bestGraft d_X7_bestGraft [.int x] := rd (fun hs V G => (.int (a_bestGraft hs V G x).1, (a_bestGraft hs V G x).2)) (fun hs V G => by
  show ¬ (a_bestGraft hs V G x).2 = nI 4
  unfold a_bestGraft
  repeat' split
  all_goals (first | exact t4_0 | exact t4_1 | exact t4_2 | exact t4_3 | exact t4_5 | exact t4_6)) (fun _ _ _ _ _ _ _ hC hP _ => c_bestGraft hC hP) (fun _ _ _ _ _ _ hM hP _ => mo_bestGraft hM hP)
theorem st_share {x y z : Int32} : AStp d_X6_share d_X7_share [.int x, .int y, .int z] := rd (fun hs V G => (.int (a_share hs V G x y z).1, (a_share hs V G x y z).2)) (fun hs V G => by
  show ¬ (a_share hs V G x y z).2 = nI 4
  unfold a_share
  repeat' split
  all_goals (first | exact t4_0 | exact t4_1 | exact t4_2 | exact t4_3 | exact t4_5 | exact t4_6)) (fun _ _ _ _ _ _ _ hC hP _ => c_share hC hP) (fun _ _ _ _ _ _ hM hP _ => mo_share hM hP)
theorem st_rests {x : Int32} : AStp d_X6_rests d_X7_rests [.int x] := rd (fun hs V G => (.int (a_rests hs V G x).1, (a_rests hs V G x).2)) (fun hs V G => by
  show ¬ (a_rests hs V G x).2 = nI 4
  unfold a_rests
  repeat' split
  all_goals (first | exact t4_0 | exact t4_1 | exact t4_2 | exact t4_3 | exact t4_5 | exact t4_6)) (fun _ _ _ _ _ _ _ hC hP _ => c_rests hC hP) (fun _ _ _ _ _ _ hM hP _ => mo_rests hM hP)
theorem st_rest {x : Int32} : AStp d_X6_rest d_X7_rest [.int x] := rd (fun hs V G => (.int (a_rest hs V G x).1, (a_rest hs V G x).2)) (fun hs V G => by
  show ¬ (a_rest hs V G x).2 = nI 4
  unfold a_rest
  repeat' split
  all_goals (first | exact t4_0 | exact t4_1 | exact t4_2 | exact t4_3 | exact t4_5 | exact t4_6)) (fun _ _ _ _ _ _ _ hC hP _ => c_rest hC hP) (fun _ _ _ _ _ _ hM hP _ => mo_rest hM hP)
theorem st_year {x : Int32} : AStp d_X6_year d_X7_year [.int x] := rd (fun hs V G => (.int (a_year hs V G x).1, (a_year hs V G x).2)) (fun hs V G => by
  show ¬ (a_year hs V G x).2 = nI 4
  unfold a_year
  repeat' split
  all_goals (first | exact t4_0 | exact t4_1 | exact t4_2 | exact t4_3 | exact t4_5 | exact t4_6)) (fun _ _ _ _ _ _ _ hC hP _ => c_year hC hP) (fun _ _ _ _ _ _ hM hP _ => mo_year hM hP)
theorem st_years {x y : Int32} : AStp d_X6_years d_X7_years [.int x, .int y] := rd (fun hs V G => (.int (a_years hs V G x y).1, (a_years hs V G x y).2)) (fun hs V G => by
  show ¬ (a_years hs V G x y).2 = nI 4
  unfold a_years
  repeat' split
  all_goals (first | exact t4_0 | exact t4_1 | exact t4_2 | exact t4_3 | exact t4_5 | exact t4_6)) (fun _ _ _ _ _ _ _ hC hP _ => c_years hC hP) (fun _ _ _ _ _ _ hM hP _ => mo_years hM hP)
theorem st_feud {x : Int32} : AStp d_X6_feud d_X7_feud [.int x] := rd (fun hs V G => (.int (a_feud hs V G x).1, (a_feud hs V G x).2)) (fun hs V G => by
  show ¬ (a_feud hs V G x).2 = nI 4
  unfold a_feud
  repeat' split
  all_goals (first | exact t4_0 | exact t4_1 | exact t4_2 | exact t4_3 | exact t4_5 | exact t4_6)) (fun _ _ _ _ _ _ _ hC hP _ => c_feud hC hP) (fun _ _ _ _ _ _ hM hP _ => mo_feud hM hP)
theorem st_feedFor {x y : Int32} : AStp d_X6_feedFor d_X7_feedFor [.int x, .int y] := rd (fun hs V G => (.int (a_feedFor hs V G x y).1, (a_feedFor hs V G x y).2)) (fun hs V G => by
  show ¬ (a_feedFor hs V G x y).2 = nI 4
  unfold a_feedFor
  repeat' split
  all_goals (first | exact t4_0 | exact t4_1 | exact t4_2 | exact t4_3 | exact t4_5 | exact t4_6)) (fun _ _ _ _ _ _ _ hC hP _ => c_feedFor hC hP) (fun _ _ _ _ _ _ hM hP _ => mo_feedFor hM hP)
theorem st_feedAgainst {x y z : Int32} : AStp d_X6_feedAgainst d_X7_feedAgainst [.int x, .int y, .int z] := rd (fun hs V G => (.int (a_feedAgainst hs V G x y z).1, (a_feedAgainst hs V G x y z).2)) (fun hs V G => by
  show ¬ (a_feedAgainst hs V G x y z).2 = nI 4
  unfold a_feedAgainst
  repeat' split
  all_goals (first | exact t4_0 | exact t4_1 | exact t4_2 | exact t4_3 | exact t4_5 | exact t4_6)) (fun _ _ _ _ _ _ _ hC hP _ => c_feedAgainst hC hP) (fun _ _ _ _ _ _ hM hP _ => mo_feedAgainst hM hP)
theorem st_prune {x y : Int32} : AStp d_X6_prune d_X7_prune [.int x, .int y] := rd (fun hs V G => (.int (a_prune hs V G x y).1, (a_prune hs V G x y).2)) (fun hs V G => by
  show ¬ (a_prune hs V G x y).2 = nI 4
  unfold a_prune
  repeat' split
  all_goals (first | exact t4_0 | exact t4_1 | exact t4_2 | exact t4_3 | exact t4_5 | exact t4_6)) (fun _ _ _ _ _ _ _ hC hP hB => c_prune hC hP hB) (fun _ _ _ _ _ _ hM hP hB => mo_prune hM hP hB)
theorem st_pruneAt {x y z : Int32} : AStp d_X6_pruneAt d_X7_pruneAt [.int x, .int y, .int z] := rd (fun hs V G => (.int (a_pruneAt hs V G x y z).1, (a_pruneAt hs V G x y z).2)) (fun hs V G => by
  show ¬ (a_pruneAt hs V G x y z).2 = nI 4
  unfold a_pruneAt
  repeat' split
  all_goals (first | exact t4_0 | exact t4_1 | exact t4_2 | exact t4_3 | exact t4_5 | exact t4_6)) (fun _ _ _ _ _ _ _ hC hP hB => c_pruneAt hC hP hB) (fun _ _ _ _ _ _ hM hP hB => mo_pruneAt hM hP hB)
theorem st_ways : AStp d_X6_ways d_X7_ways [] := rd (fun hs V G => (.int (a_ways hs V G ).1, (a_ways hs V G ).2)) (fun hs V G => by
  show ¬ (a_ways hs V G ).2 = nI 4
  unfold a_ways
  repeat' split
  all_goals (first | exact t4_0 | exact t4_1 | exact t4_2 | exact t4_3 | exact t4_5 | exact t4_6)) (fun _ _ _ _ _ _ _ hC hP _ => c_ways hC hP) (fun _ _ _ _ _ _ hM hP _ => mo_ways hM hP)
theorem st_wayAt {x : Int32} : AStp d_X6_wayAt d_X7_wayAt [.int x] := rd (fun hs V G => (.int (a_wayAt hs V G x).1, (a_wayAt hs V G x).2)) (fun hs V G => by
  show ¬ (a_wayAt hs V G x).2 = nI 4
  unfold a_wayAt
  repeat' split
  all_goals (first | exact t4_0 | exact t4_1 | exact t4_2 | exact t4_3 | exact t4_5 | exact t4_6)) (fun _ _ _ _ _ _ _ hC hP _ => c_wayAt hC hP) (fun _ _ _ _ _ _ hM hP _ => mo_wayAt hM hP)
theorem st_judge : AStp d_X6_judge d_X7_judge [] := rd (fun hs V G => (.int (a_judge hs V G ).1, (a_judge hs V G ).2)) (fun hs V G => by
  show ¬ (a_judge hs V G ).2 = nI 4
  unfold a_judge
  repeat' split
  all_goals (first | exact t4_0 | exact t4_1 | exact t4_2 | exact t4_3 | exact t4_5 | exact t4_6)) (fun _ _ _ _ _ _ _ hC hP _ => c_judge hC hP) (fun _ _ _ _ _ _ hM hP _ => mo_judge hM hP)
theorem st_game {x y z : Int32} {w : Bool} : AStp d_X6_game d_X7_game [.int x, .int y, .int z, .int (if w = true then 1 else 0)] := rd (fun hs V G => (.int (a_game hs V G x y z w).1, (a_game hs V G x y z w).2)) (fun hs V G => by
  show ¬ (a_game hs V G x y z w).2 = nI 4
  unfold a_game
  repeat' split
  all_goals (first | exact t4_0 | exact t4_1 | exact t4_2 | exact t4_3 | exact t4_5 | exact t4_6)) (fun _ _ _ _ _ _ _ hC hP _ => c_game hC hP) (fun _ _ _ _ _ _ hM hP _ => mo_game hM hP)
theorem st_left : AStp d_X6_left d_X7_left [] := rdp (fun hs V G => (.int (a_left hs V G ).1, (a_left hs V G ).2)) (fun hs V G => by
  show ¬ (a_left hs V G ).2 = nI 4
  unfold a_left
  repeat' split
  all_goals (first | exact t4_0 | exact t4_1 | exact t4_2 | exact t4_3 | exact t4_5 | exact t4_6)) (fun _ _ _ _ _ _ _ hC hP hN => c_left hC hP hN) (fun _ _ _ _ _ _ hM hP => mo_left hM hP)
theorem st_surest {x : Int32} : AStp d_X6_surest d_X7_surest [.int x] := rdp (fun hs V G => (.long (a_surest hs V G x).1, (a_surest hs V G x).2)) (fun hs V G => by
  show ¬ (a_surest hs V G x).2 = nI 4
  unfold a_surest
  repeat' split
  all_goals (first | exact t4_0 | exact t4_1 | exact t4_2 | exact t4_3 | exact t4_5 | exact t4_6)) (fun _ _ _ _ _ _ _ hC hP hN => c_surest hC hP hN) (fun _ _ _ _ _ _ hM hP => mo_surest hM hP)
theorem st_takes {x : Int32} : AStp d_X6_takes d_X7_takes [.int x] := rdp (fun hs V G => (.long (a_takes hs V G x).1, (a_takes hs V G x).2)) (fun hs V G => by
  show ¬ (a_takes hs V G x).2 = nI 4
  unfold a_takes
  repeat' split
  all_goals (first | exact t4_0 | exact t4_1 | exact t4_2 | exact t4_3 | exact t4_5 | exact t4_6)) (fun _ _ _ _ _ _ _ hC hP hN => c_takes hC hP hN) (fun _ _ _ _ _ _ hM hP => mo_takes hM hP)
theorem st_surestAt {x : Int32} : AStp d_X6_surestAt d_X7_surestAt [.int x] := rdp (fun hs V G => (.int (a_surestAt hs V G x).1, (a_surestAt hs V G x).2)) (fun hs V G => by
  show ¬ (a_surestAt hs V G x).2 = nI 4
  unfold a_surestAt
  repeat' split
  all_goals (first | exact t4_0 | exact t4_1 | exact t4_2 | exact t4_3 | exact t4_5 | exact t4_6)) (fun _ _ _ _ _ _ _ hC hP hN => c_surestAt hC hP hN) (fun _ _ _ _ _ _ hM hP => mo_surestAt hM hP)
