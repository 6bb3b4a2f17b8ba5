-- CASES OF THE LAW
section LAW
variable {p : Program} {l : Launch} {e : Env} {s : State} {m : MethodId} {below : List Frame} {meth : Method} {c : Code} {g : am_Gl} {b L : Nat} {xs : Nat → Int32}
set_option maxHeartbeats 4000000 in
theorem lwc_24 (C : lCx p l e s m below meth c g b L xs) {n i : Nat} {o5 o6 : Option Value} {u : am_St} (hi : i + 6 ≤ L) (hn : n < 512) (I : LInv n u) (IH : ∀ (u3 : am_St) (o5 o6 : Option Value), LInv (n + 1) u3 → lG p l e s m below meth c g b 1726 (Lc i o5 o6, [], u3)) : lG p l e s m below meth c g b 929 (Lc i o5 o6, [], u) := by
  obtain ⟨r, u2, u3, e6, e7, f6, f7, I3⟩ := li_st (st_takes (x := bz (xs (i + 1)))) hn I
  obtain ⟨y, rfl⟩ := fi_den iv_takes e6
  refine (so_aload_n C.1 dL_law_929 rfl) _ (Lc i o5 o6, [.ref 0], u) rfl ?_
  refine so_arg C 1 (by decide) hi (by decide) dL_law_930 dL_law_931 dL_law_933 dL_law_934 dL_law_935 ?_
  refine so_bz C dL_law_936 dL_law_939 dL_law_940 dL_law_943 ?_
  refine (so_cv (ci := 6) (n := 1) C.1 m_X6_takes rfl klq_192 klq_193 klq_194 klq_195 k_5 ⟨by decide, by decide, by decide +kernel⟩ (by decide) dL_law_944) _ (Lc i o5 o6, [.long y], u2) (cv_go (as := [.int (bz (xs (i + 1)))]) (st := []) rfl (li_0 I) e6 (Nat.le_of_ble_eq_true rfl) (ln_1 f6) (wt_1 f6)) ?_
  refine (so_aload_n C.1 dL_law_947 rfl) _ (Lc i o5 o6, [.ref 156, .long y], u2) rfl ?_
  refine so_arg C 1 (by decide) hi (by decide) dL_law_948 dL_law_949 dL_law_951 dL_law_952 dL_law_953 ?_
  refine so_bz C dL_law_954 dL_law_957 dL_law_958 dL_law_961 ?_
  refine (so_cv (ci := 7) (n := 1) C.1 m_X7_takes rfl klq_196 klq_197 klq_198 klq_199 k_475 ⟨by decide, by decide, by decide +kernel⟩ (by decide) dL_law_962) _ (Lc i o5 o6, [.long y, .long y], u3) (cv_go (as := [.int (bz (xs (i + 1)))]) (st := [.long y]) rfl ((kd_1 f6).trans (li_156 I)) e7 (Nat.le_of_ble_eq_true rfl) (ln_1 f7) (wt_1 f7)) ?_
  exact so_eql C dL_law_965 dL_law_966 (by decide) (IH u3 o5 o6 I3)
set_option maxHeartbeats 4000000 in
theorem lwc_25 (C : lCx p l e s m below meth c g b L xs) {n i : Nat} {o5 o6 : Option Value} {u : am_St} (hi : i + 6 ≤ L) (hn : n < 512) (I : LInv n u) (IH : ∀ (u3 : am_St) (o5 o6 : Option Value), LInv (n + 1) u3 → lG p l e s m below meth c g b 1726 (Lc i o5 o6, [], u3)) : lG p l e s m below meth c g b 971 (Lc i o5 o6, [], u) := by
  obtain ⟨r, u2, u3, e6, e7, f6, f7, I3⟩ := li_st (st_surestAt (x := xs (i + 1))) hn I
  obtain ⟨y, rfl⟩ := fi_den iv_surestAt e6
  refine (so_aload_n C.1 dL_law_971 rfl) _ (Lc i o5 o6, [.ref 0], u) rfl ?_
  refine so_arg C 1 (by decide) hi (by decide) dL_law_972 dL_law_973 dL_law_975 dL_law_976 dL_law_977 ?_
  refine (so_cv (ci := 6) (n := 1) C.1 m_X6_surestAt rfl klq_200 klq_201 klq_202 klq_203 k_5 ⟨by decide, by decide, by decide +kernel⟩ (by decide) dL_law_978) _ (Lc i o5 o6, [.int y], u2) (cv_go (as := [.int (xs (i + 1))]) (st := []) rfl (li_0 I) e6 (Nat.le_of_ble_eq_true rfl) (ln_1 f6) (wt_1 f6)) ?_
  refine (so_aload_n C.1 dL_law_981 rfl) _ (Lc i o5 o6, [.ref 156, .int y], u2) rfl ?_
  refine so_arg C 1 (by decide) hi (by decide) dL_law_982 dL_law_983 dL_law_985 dL_law_986 dL_law_987 ?_
  refine (so_cv (ci := 7) (n := 1) C.1 m_X7_surestAt rfl klq_204 klq_205 klq_206 klq_207 k_475 ⟨by decide, by decide, by decide +kernel⟩ (by decide) dL_law_988) _ (Lc i o5 o6, [.int y, .int y], u3) (cv_go (as := [.int (xs (i + 1))]) (st := [.int y]) rfl ((kd_1 f6).trans (li_156 I)) e7 (Nat.le_of_ble_eq_true rfl) (ln_1 f7) (wt_1 f7)) ?_
  exact so_eqi C dL_law_991 (by decide) (IH u3 o5 o6 I3)
set_option maxHeartbeats 4000000 in
theorem lwc_26 (C : lCx p l e s m below meth c g b L xs) {n i : Nat} {o5 o6 : Option Value} {u : am_St} (hi : i + 6 ≤ L) (hn : n < 512) (I : LInv n u) (IH : ∀ (u3 : am_St) (o5 o6 : Option Value), LInv (n + 1) u3 → lG p l e s m below meth c g b 1726 (Lc i o5 o6, [], u3)) : lG p l e s m below meth c g b 996 (Lc i o5 o6, [], u) := by
  obtain ⟨r, u2, u3, e6, e7, f6, f7, I3⟩ := li_st (st_prune (x := xs (i + 1)) (y := xs (i + 2))) hn I
  obtain ⟨y, rfl⟩ := fi_den iv_prune e6
  refine (so_aload_n C.1 dL_law_996 rfl) _ (Lc i o5 o6, [.ref 0], u) rfl ?_
  refine so_arg C 1 (by decide) hi (by decide) dL_law_997 dL_law_998 dL_law_1000 dL_law_1001 dL_law_1002 ?_
  refine so_arg C 2 (by decide) hi (by decide) dL_law_1003 dL_law_1004 dL_law_1006 dL_law_1007 dL_law_1008 ?_
  refine (so_cv (ci := 6) (n := 2) C.1 m_X6_prune rfl klq_208 klq_209 klq_210 klq_211 k_5 ⟨by decide, by decide, by decide +kernel⟩ (by decide) dL_law_1009) _ (Lc i o5 o6, [.int y], u2) (cv_go (as := [.int (xs (i + 1)), .int (xs (i + 2))]) (st := []) rfl (li_0 I) e6 (Nat.le_of_ble_eq_true rfl) (ln_1 f6) (wt_1 f6)) ?_
  refine (so_aload_n C.1 dL_law_1012 rfl) _ (Lc i o5 o6, [.ref 156, .int y], u2) rfl ?_
  refine so_arg C 1 (by decide) hi (by decide) dL_law_1013 dL_law_1014 dL_law_1016 dL_law_1017 dL_law_1018 ?_
  refine so_arg C 2 (by decide) hi (by decide) dL_law_1019 dL_law_1020 dL_law_1022 dL_law_1023 dL_law_1024 ?_
  refine (so_cv (ci := 7) (n := 2) C.1 m_X7_prune rfl klq_212 klq_213 klq_214 klq_215 k_475 ⟨by decide, by decide, by decide +kernel⟩ (by decide) dL_law_1025) _ (Lc i o5 o6, [.int y, .int y], u3) (cv_go (as := [.int (xs (i + 1)), .int (xs (i + 2))]) (st := [.int y]) rfl ((kd_1 f6).trans (li_156 I)) e7 (Nat.le_of_ble_eq_true rfl) (ln_1 f7) (wt_1 f7)) ?_
  exact so_eqi C dL_law_1028 (by decide) (IH u3 o5 o6 I3)
set_option maxHeartbeats 4000000 in
theorem lwc_27 (C : lCx p l e s m below meth c g b L xs) {n i : Nat} {o5 o6 : Option Value} {u : am_St} (hi : i + 6 ≤ L) (hn : n < 512) (I : LInv n u) (IH : ∀ (u3 : am_St) (o5 o6 : Option Value), LInv (n + 1) u3 → lG p l e s m below meth c g b 1726 (Lc i o5 o6, [], u3)) : lG p l e s m below meth c g b 1033 (Lc i o5 o6, [], u) := by
  obtain ⟨r, u2, u3, e6, e7, f6, f7, I3⟩ := li_st (st_pruneAt (x := xs (i + 1)) (y := xs (i + 2)) (z := xs (i + 3))) hn I
  obtain ⟨y, rfl⟩ := fi_den iv_pruneAt e6
  refine (so_aload_n C.1 dL_law_1033 rfl) _ (Lc i o5 o6, [.ref 0], u) rfl ?_
  refine so_arg C 1 (by decide) hi (by decide) dL_law_1034 dL_law_1035 dL_law_1037 dL_law_1038 dL_law_1039 ?_
  refine so_arg C 2 (by decide) hi (by decide) dL_law_1040 dL_law_1041 dL_law_1043 dL_law_1044 dL_law_1045 ?_
  refine so_arg C 3 (by decide) hi (by decide) dL_law_1046 dL_law_1047 dL_law_1049 dL_law_1050 dL_law_1051 ?_
  refine (so_cv (ci := 6) (n := 3) C.1 m_X6_pruneAt rfl klq_216 klq_217 klq_218 klq_219 k_5 ⟨by decide, by decide, by decide +kernel⟩ (by decide) dL_law_1052) _ (Lc i o5 o6, [.int y], u2) (cv_go (as := [.int (xs (i + 1)), .int (xs (i + 2)), .int (xs (i + 3))]) (st := []) rfl (li_0 I) e6 (Nat.le_of_ble_eq_true rfl) (ln_1 f6) (wt_1 f6)) ?_
  refine (so_aload_n C.1 dL_law_1055 rfl) _ (Lc i o5 o6, [.ref 156, .int y], u2) rfl ?_
  refine so_arg C 1 (by decide) hi (by decide) dL_law_1056 dL_law_1057 dL_law_1059 dL_law_1060 dL_law_1061 ?_
  refine so_arg C 2 (by decide) hi (by decide) dL_law_1062 dL_law_1063 dL_law_1065 dL_law_1066 dL_law_1067 ?_
  refine so_arg C 3 (by decide) hi (by decide) dL_law_1068 dL_law_1069 dL_law_1071 dL_law_1072 dL_law_1073 ?_
  refine (so_cv (ci := 7) (n := 3) C.1 m_X7_pruneAt rfl klq_220 klq_221 klq_222 klq_223 k_475 ⟨by decide, by decide, by decide +kernel⟩ (by decide) dL_law_1074) _ (Lc i o5 o6, [.int y, .int y], u3) (cv_go (as := [.int (xs (i + 1)), .int (xs (i + 2)), .int (xs (i + 3))]) (st := [.int y]) rfl ((kd_1 f6).trans (li_156 I)) e7 (Nat.le_of_ble_eq_true rfl) (ln_1 f7) (wt_1 f7)) ?_
  exact so_eqi C dL_law_1077 (by decide) (IH u3 o5 o6 I3)
set_option maxHeartbeats 4000000 in
theorem lwc_28 (C : lCx p l e s m below meth c g b L xs) {n i : Nat} {o5 o6 : Option Value} {u : am_St} (hi : i + 6 ≤ L) (hn : n < 512) (I : LInv n u) (IH : ∀ (u3 : am_St) (o5 o6 : Option Value), LInv (n + 1) u3 → lG p l e s m below meth c g b 1726 (Lc i o5 o6, [], u3)) : lG p l e s m below meth c g b 1082 (Lc i o5 o6, [], u) := by
  obtain ⟨r, u2, u3, e6, e7, f6, f7, I3⟩ := li_st (st_feedFor (x := xs (i + 1)) (y := xs (i + 2))) hn I
  obtain ⟨y, rfl⟩ := fi_den iv_feedFor e6
  refine (so_aload_n C.1 dL_law_1082 rfl) _ (Lc i o5 o6, [.ref 0], u) rfl ?_
  refine so_arg C 1 (by decide) hi (by decide) dL_law_1083 dL_law_1084 dL_law_1086 dL_law_1087 dL_law_1088 ?_
  refine so_arg C 2 (by decide) hi (by decide) dL_law_1089 dL_law_1090 dL_law_1092 dL_law_1093 dL_law_1094 ?_
  refine (so_cv (ci := 6) (n := 2) C.1 m_X6_feedFor rfl klq_224 klq_225 klq_226 klq_227 k_5 ⟨by decide, by decide, by decide +kernel⟩ (by decide) dL_law_1095) _ (Lc i o5 o6, [.int y], u2) (cv_go (as := [.int (xs (i + 1)), .int (xs (i + 2))]) (st := []) rfl (li_0 I) e6 (Nat.le_of_ble_eq_true rfl) (ln_1 f6) (wt_1 f6)) ?_
  refine (so_aload_n C.1 dL_law_1098 rfl) _ (Lc i o5 o6, [.ref 156, .int y], u2) rfl ?_
  refine so_arg C 1 (by decide) hi (by decide) dL_law_1099 dL_law_1100 dL_law_1102 dL_law_1103 dL_law_1104 ?_
  refine so_arg C 2 (by decide) hi (by decide) dL_law_1105 dL_law_1106 dL_law_1108 dL_law_1109 dL_law_1110 ?_
  refine (so_cv (ci := 7) (n := 2) C.1 m_X7_feedFor rfl klq_228 klq_229 klq_230 klq_231 k_475 ⟨by decide, by decide, by decide +kernel⟩ (by decide) dL_law_1111) _ (Lc i o5 o6, [.int y, .int y], u3) (cv_go (as := [.int (xs (i + 1)), .int (xs (i + 2))]) (st := [.int y]) rfl ((kd_1 f6).trans (li_156 I)) e7 (Nat.le_of_ble_eq_true rfl) (ln_1 f7) (wt_1 f7)) ?_
  exact so_eqi C dL_law_1114 (by decide) (IH u3 o5 o6 I3)
set_option maxHeartbeats 4000000 in
theorem lwc_29 (C : lCx p l e s m below meth c g b L xs) {n i : Nat} {o5 o6 : Option Value} {u : am_St} (hi : i + 6 ≤ L) (hn : n < 512) (I : LInv n u) (IH : ∀ (u3 : am_St) (o5 o6 : Option Value), LInv (n + 1) u3 → lG p l e s m below meth c g b 1726 (Lc i o5 o6, [], u3)) : lG p l e s m below meth c g b 1119 (Lc i o5 o6, [], u) := by
  obtain ⟨r, u2, u3, e6, e7, f6, f7, I3⟩ := li_st (st_feedAgainst (x := xs (i + 1)) (y := xs (i + 2)) (z := xs (i + 3))) hn I
  obtain ⟨y, rfl⟩ := fi_den iv_feedAgainst e6
  refine (so_aload_n C.1 dL_law_1119 rfl) _ (Lc i o5 o6, [.ref 0], u) rfl ?_
  refine so_arg C 1 (by decide) hi (by decide) dL_law_1120 dL_law_1121 dL_law_1123 dL_law_1124 dL_law_1125 ?_
  refine so_arg C 2 (by decide) hi (by decide) dL_law_1126 dL_law_1127 dL_law_1129 dL_law_1130 dL_law_1131 ?_
  refine so_arg C 3 (by decide) hi (by decide) dL_law_1132 dL_law_1133 dL_law_1135 dL_law_1136 dL_law_1137 ?_
  refine (so_cv (ci := 6) (n := 3) C.1 m_X6_feedAgainst rfl klq_232 klq_233 klq_234 klq_235 k_5 ⟨by decide, by decide, by decide +kernel⟩ (by decide) dL_law_1138) _ (Lc i o5 o6, [.int y], u2) (cv_go (as := [.int (xs (i + 1)), .int (xs (i + 2)), .int (xs (i + 3))]) (st := []) rfl (li_0 I) e6 (Nat.le_of_ble_eq_true rfl) (ln_1 f6) (wt_1 f6)) ?_
  refine (so_aload_n C.1 dL_law_1141 rfl) _ (Lc i o5 o6, [.ref 156, .int y], u2) rfl ?_
  refine so_arg C 1 (by decide) hi (by decide) dL_law_1142 dL_law_1143 dL_law_1145 dL_law_1146 dL_law_1147 ?_
  refine so_arg C 2 (by decide) hi (by decide) dL_law_1148 dL_law_1149 dL_law_1151 dL_law_1152 dL_law_1153 ?_
  refine so_arg C 3 (by decide) hi (by decide) dL_law_1154 dL_law_1155 dL_law_1157 dL_law_1158 dL_law_1159 ?_
  refine (so_cv (ci := 7) (n := 3) C.1 m_X7_feedAgainst rfl klq_236 klq_237 klq_238 klq_239 k_475 ⟨by decide, by decide, by decide +kernel⟩ (by decide) dL_law_1160) _ (Lc i o5 o6, [.int y, .int y], u3) (cv_go (as := [.int (xs (i + 1)), .int (xs (i + 2)), .int (xs (i + 3))]) (st := [.int y]) rfl ((kd_1 f6).trans (li_156 I)) e7 (Nat.le_of_ble_eq_true rfl) (ln_1 f7) (wt_1 f7)) ?_
  exact so_eqi C dL_law_1163 (by decide) (IH u3 o5 o6 I3)
set_option maxHeartbeats 4000000 in
theorem lwc_30 (C : lCx p l e s m below meth c g b L xs) {n i : Nat} {o5 o6 : Option Value} {u : am_St} (hi : i + 6 ≤ L) (hn : n < 512) (I : LInv n u) (IH : ∀ (u3 : am_St) (o5 o6 : Option Value), LInv (n + 1) u3 → lG p l e s m below meth c g b 1726 (Lc i o5 o6, [], u3)) : lG p l e s m below meth c g b 1168 (Lc i o5 o6, [], u) := by
  obtain ⟨r, u2, u3, e6, e7, f6, f7, I3⟩ := li_st (st_share (x := xs (i + 1)) (y := xs (i + 2)) (z := xs (i + 3))) hn I
  obtain ⟨y, rfl⟩ := fi_den iv_share e6
  refine (so_aload_n C.1 dL_law_1168 rfl) _ (Lc i o5 o6, [.ref 0], u) rfl ?_
  refine so_arg C 1 (by decide) hi (by decide) dL_law_1169 dL_law_1170 dL_law_1172 dL_law_1173 dL_law_1174 ?_
  refine so_arg C 2 (by decide) hi (by decide) dL_law_1175 dL_law_1176 dL_law_1178 dL_law_1179 dL_law_1180 ?_
  refine so_arg C 3 (by decide) hi (by decide) dL_law_1181 dL_law_1182 dL_law_1184 dL_law_1185 dL_law_1186 ?_
  refine (so_cv (ci := 6) (n := 3) C.1 m_X6_share rfl klq_240 klq_241 klq_242 klq_243 k_5 ⟨by decide, by decide, by decide +kernel⟩ (by decide) dL_law_1187) _ (Lc i o5 o6, [.int y], u2) (cv_go (as := [.int (xs (i + 1)), .int (xs (i + 2)), .int (xs (i + 3))]) (st := []) rfl (li_0 I) e6 (Nat.le_of_ble_eq_true rfl) (ln_1 f6) (wt_1 f6)) ?_
  refine (so_aload_n C.1 dL_law_1190 rfl) _ (Lc i o5 o6, [.ref 156, .int y], u2) rfl ?_
  refine so_arg C 1 (by decide) hi (by decide) dL_law_1191 dL_law_1192 dL_law_1194 dL_law_1195 dL_law_1196 ?_
  refine so_arg C 2 (by decide) hi (by decide) dL_law_1197 dL_law_1198 dL_law_1200 dL_law_1201 dL_law_1202 ?_
  refine so_arg C 3 (by decide) hi (by decide) dL_law_1203 dL_law_1204 dL_law_1206 dL_law_1207 dL_law_1208 ?_
  refine (so_cv (ci := 7) (n := 3) C.1 m_X7_share rfl klq_244 klq_245 klq_246 klq_247 k_475 ⟨by decide, by decide, by decide +kernel⟩ (by decide) dL_law_1209) _ (Lc i o5 o6, [.int y, .int y], u3) (cv_go (as := [.int (xs (i + 1)), .int (xs (i + 2)), .int (xs (i + 3))]) (st := [.int y]) rfl ((kd_1 f6).trans (li_156 I)) e7 (Nat.le_of_ble_eq_true rfl) (ln_1 f7) (wt_1 f7)) ?_
  exact so_eqi C dL_law_1212 (by decide) (IH u3 o5 o6 I3)
set_option maxHeartbeats 4000000 in
theorem lwc_31 (C : lCx p l e s m below meth c g b L xs) {n i : Nat} {o5 o6 : Option Value} {u : am_St} (hi : i + 6 ≤ L) (hn : n < 512) (I : LInv n u) (IH : ∀ (u3 : am_St) (o5 o6 : Option Value), LInv (n + 1) u3 → lG p l e s m below meth c g b 1726 (Lc i o5 o6, [], u3)) : lG p l e s m below meth c g b 1217 (Lc i o5 o6, [], u) := by
  have hA : AStp d_X6_game d_X7_game [.int (xs (i + 1)), .int (xs (i + 2)), .int (xs (i + 3)), .int (bz (xs (i + 4)))] := by
    have h := st_game (x := xs (i + 1)) (y := xs (i + 2)) (z := xs (i + 3)) (w := decide (¬ xs (i + 4) = 0))
    rw [show (if decide (¬ xs (i + 4) = 0) = true then (1 : Int32) else 0) = bz (xs (i + 4)) from by by_cases h : xs (i + 4) = 0 <;> simp [bz, h]] at h
    exact h
  obtain ⟨r, u2, u3, e6, e7, f6, f7, I3⟩ := li_st hA hn I
  obtain ⟨y, rfl⟩ := fi_den iv_game e6
  refine (so_aload_n C.1 dL_law_1217 rfl) _ (Lc i o5 o6, [.ref 0], u) rfl ?_
  refine so_arg C 1 (by decide) hi (by decide) dL_law_1218 dL_law_1219 dL_law_1221 dL_law_1222 dL_law_1223 ?_
  refine so_arg C 2 (by decide) hi (by decide) dL_law_1224 dL_law_1225 dL_law_1227 dL_law_1228 dL_law_1229 ?_
  refine so_arg C 3 (by decide) hi (by decide) dL_law_1230 dL_law_1231 dL_law_1233 dL_law_1234 dL_law_1235 ?_
  refine so_arg C 4 (by decide) hi (by decide) dL_law_1236 dL_law_1237 dL_law_1239 dL_law_1240 dL_law_1241 ?_
  refine so_bz C dL_law_1242 dL_law_1245 dL_law_1246 dL_law_1249 ?_
  refine (so_cv (ci := 6) (n := 4) C.1 m_X6_game rfl klq_248 klq_249 klq_250 klq_251 k_5 ⟨by decide, by decide, by decide +kernel⟩ (by decide) dL_law_1250) _ (Lc i o5 o6, [.int y], u2) (cv_go (as := [.int (xs (i + 1)), .int (xs (i + 2)), .int (xs (i + 3)), .int (bz (xs (i + 4)))]) (st := []) rfl (li_0 I) e6 (Nat.le_of_ble_eq_true rfl) (ln_1 f6) (wt_1 f6)) ?_
  refine (so_aload_n C.1 dL_law_1253 rfl) _ (Lc i o5 o6, [.ref 156, .int y], u2) rfl ?_
  refine so_arg C 1 (by decide) hi (by decide) dL_law_1254 dL_law_1255 dL_law_1257 dL_law_1258 dL_law_1259 ?_
  refine so_arg C 2 (by decide) hi (by decide) dL_law_1260 dL_law_1261 dL_law_1263 dL_law_1264 dL_law_1265 ?_
  refine so_arg C 3 (by decide) hi (by decide) dL_law_1266 dL_law_1267 dL_law_1269 dL_law_1270 dL_law_1271 ?_
  refine so_arg C 4 (by decide) hi (by decide) dL_law_1272 dL_law_1273 dL_law_1275 dL_law_1276 dL_law_1277 ?_
  refine so_bz C dL_law_1278 dL_law_1281 dL_law_1282 dL_law_1285 ?_
  refine (so_cv (ci := 7) (n := 4) C.1 m_X7_game rfl klq_252 klq_253 klq_254 klq_255 k_475 ⟨by decide, by decide, by decide +kernel⟩ (by decide) dL_law_1286) _ (Lc i o5 o6, [.int y, .int y], u3) (cv_go (as := [.int (xs (i + 1)), .int (xs (i + 2)), .int (xs (i + 3)), .int (bz (xs (i + 4)))]) (st := [.int y]) rfl ((kd_1 f6).trans (li_156 I)) e7 (Nat.le_of_ble_eq_true rfl) (ln_1 f7) (wt_1 f7)) ?_
  exact so_eqi C dL_law_1289 (by decide) (IH u3 o5 o6 I3)
set_option maxHeartbeats 4000000 in
theorem lwc_32 (C : lCx p l e s m below meth c g b L xs) {n i : Nat} {o5 o6 : Option Value} {u : am_St} (hi : i + 6 ≤ L) (hn : n < 512) (I : LInv n u) (IH : ∀ (u3 : am_St) (o5 o6 : Option Value), LInv (n + 1) u3 → lG p l e s m below meth c g b 1726 (Lc i o5 o6, [], u3)) : lG p l e s m below meth c g b 1294 (Lc i o5 o6, [], u) := by
  obtain ⟨r, u2, u3, e6, e7, f6, f7, I3⟩ := li_st (st_rests (x := xs (i + 1))) hn I
  obtain ⟨y, rfl⟩ := fi_den iv_rests e6
  refine (so_aload_n C.1 dL_law_1294 rfl) _ (Lc i o5 o6, [.ref 0], u) rfl ?_
  refine so_arg C 1 (by decide) hi (by decide) dL_law_1295 dL_law_1296 dL_law_1298 dL_law_1299 dL_law_1300 ?_
  refine (so_cv (ci := 6) (n := 1) C.1 m_X6_rests rfl klq_256 klq_257 klq_258 klq_259 k_5 ⟨by decide, by decide, by decide +kernel⟩ (by decide) dL_law_1301) _ (Lc i o5 o6, [.int y], u2) (cv_go (as := [.int (xs (i + 1))]) (st := []) rfl (li_0 I) e6 (Nat.le_of_ble_eq_true rfl) (ln_1 f6) (wt_1 f6)) ?_
  refine (so_aload_n C.1 dL_law_1304 rfl) _ (Lc i o5 o6, [.ref 156, .int y], u2) rfl ?_
  refine so_arg C 1 (by decide) hi (by decide) dL_law_1305 dL_law_1306 dL_law_1308 dL_law_1309 dL_law_1310 ?_
  refine (so_cv (ci := 7) (n := 1) C.1 m_X7_rests rfl klq_260 klq_261 klq_262 klq_263 k_475 ⟨by decide, by decide, by decide +kernel⟩ (by decide) dL_law_1311) _ (Lc i o5 o6, [.int y, .int y], u3) (cv_go (as := [.int (xs (i + 1))]) (st := [.int y]) rfl ((kd_1 f6).trans (li_156 I)) e7 (Nat.le_of_ble_eq_true rfl) (ln_1 f7) (wt_1 f7)) ?_
  exact so_eqi C dL_law_1314 (by decide) (IH u3 o5 o6 I3)
set_option maxHeartbeats 4000000 in
theorem lwc_33 (C : lCx p l e s m below meth c g b L xs) {n i : Nat} {o5 o6 : Option Value} {u : am_St} (hi : i + 6 ≤ L) (hn : n < 512) (I : LInv n u) (IH : ∀ (u3 : am_St) (o5 o6 : Option Value), LInv (n + 1) u3 → lG p l e s m below meth c g b 1726 (Lc i o5 o6, [], u3)) : lG p l e s m below meth c g b 1319 (Lc i o5 o6, [], u) := by
  obtain ⟨r, u2, u3, e6, e7, f6, f7, I3⟩ := li_st (st_rest (x := xs (i + 1))) hn I
  obtain ⟨y, rfl⟩ := fi_den iv_rest e6
  refine (so_aload_n C.1 dL_law_1319 rfl) _ (Lc i o5 o6, [.ref 0], u) rfl ?_
  refine so_arg C 1 (by decide) hi (by decide) dL_law_1320 dL_law_1321 dL_law_1323 dL_law_1324 dL_law_1325 ?_
  refine (so_cv (ci := 6) (n := 1) C.1 m_X6_rest rfl klq_264 klq_265 klq_266 klq_267 k_5 ⟨by decide, by decide, by decide +kernel⟩ (by decide) dL_law_1326) _ (Lc i o5 o6, [.int y], u2) (cv_go (as := [.int (xs (i + 1))]) (st := []) rfl (li_0 I) e6 (Nat.le_of_ble_eq_true rfl) (ln_1 f6) (wt_1 f6)) ?_
  refine (so_aload_n C.1 dL_law_1329 rfl) _ (Lc i o5 o6, [.ref 156, .int y], u2) rfl ?_
  refine so_arg C 1 (by decide) hi (by decide) dL_law_1330 dL_law_1331 dL_law_1333 dL_law_1334 dL_law_1335 ?_
  refine (so_cv (ci := 7) (n := 1) C.1 m_X7_rest rfl klq_268 klq_269 klq_270 klq_271 k_475 ⟨by decide, by decide, by decide +kernel⟩ (by decide) dL_law_1336) _ (Lc i o5 o6, [.int y, .int y], u3) (cv_go (as := [.int (xs (i + 1))]) (st := [.int y]) rfl ((kd_1 f6).trans (li_156 I)) e7 (Nat.le_of_ble_eq_true rfl) (ln_1 f7) (wt_1 f7)) ?_
  exact so_eqi C dL_law_1339 (by decide) (IH u3 o5 o6 I3)
set_option maxHeartbeats 4000000 in
theorem lwc_34 (C : lCx p l e s m below meth c g b L xs) {n i : Nat} {o5 o6 : Option Value} {u : am_St} (hi : i + 6 ≤ L) (hn : n < 512) (I : LInv n u) (IH : ∀ (u3 : am_St) (o5 o6 : Option Value), LInv (n + 1) u3 → lG p l e s m below meth c g b 1726 (Lc i o5 o6, [], u3)) : lG p l e s m below meth c g b 1344 (Lc i o5 o6, [], u) := by
  obtain ⟨r, u2, u3, e6, e7, f6, f7, I3⟩ := li_st st_ways hn I
  obtain ⟨y, rfl⟩ := fi_den iv_ways e6
  refine (so_aload_n C.1 dL_law_1344 rfl) _ (Lc i o5 o6, [.ref 0], u) rfl ?_
  refine (so_cv (ci := 6) (n := 0) C.1 m_X6_ways rfl klq_272 klq_273 klq_274 klq_275 k_5 ⟨by decide, by decide, by decide +kernel⟩ (by decide) dL_law_1345) _ (Lc i o5 o6, [.int y], u2) (cv_go (as := []) (st := []) rfl (li_0 I) e6 (Nat.le_of_ble_eq_true rfl) (ln_1 f6) (wt_1 f6)) ?_
  refine (so_aload_n C.1 dL_law_1348 rfl) _ (Lc i o5 o6, [.ref 156, .int y], u2) rfl ?_
  refine (so_cv (ci := 7) (n := 0) C.1 m_X7_ways rfl klq_276 klq_277 klq_278 klq_279 k_475 ⟨by decide, by decide, by decide +kernel⟩ (by decide) dL_law_1349) _ (Lc i o5 o6, [.int y, .int y], u3) (cv_go (as := []) (st := [.int y]) rfl ((kd_1 f6).trans (li_156 I)) e7 (Nat.le_of_ble_eq_true rfl) (ln_1 f7) (wt_1 f7)) ?_
  exact so_eqi C dL_law_1352 (by decide) (IH u3 o5 o6 I3)
set_option maxHeartbeats 4000000 in
theorem lwc_35 (C : lCx p l e s m below meth c g b L xs) {n i : Nat} {o5 o6 : Option Value} {u : am_St} (hi : i + 6 ≤ L) (hn : n < 512) (I : LInv n u) (IH : ∀ (u3 : am_St) (o5 o6 : Option Value), LInv (n + 1) u3 → lG p l e s m below meth c g b 1726 (Lc i o5 o6, [], u3)) : lG p l e s m below meth c g b 1357 (Lc i o5 o6, [], u) := by
  obtain ⟨r, u2, u3, e6, e7, f6, f7, I3⟩ := li_st (st_wayAt (x := xs (i + 1))) hn I
  obtain ⟨y, rfl⟩ := fi_den iv_wayAt e6
  refine (so_aload_n C.1 dL_law_1357 rfl) _ (Lc i o5 o6, [.ref 0], u) rfl ?_
  refine so_arg C 1 (by decide) hi (by decide) dL_law_1358 dL_law_1359 dL_law_1361 dL_law_1362 dL_law_1363 ?_
  refine (so_cv (ci := 6) (n := 1) C.1 m_X6_wayAt rfl klq_280 klq_281 klq_282 klq_283 k_5 ⟨by decide, by decide, by decide +kernel⟩ (by decide) dL_law_1364) _ (Lc i o5 o6, [.int y], u2) (cv_go (as := [.int (xs (i + 1))]) (st := []) rfl (li_0 I) e6 (Nat.le_of_ble_eq_true rfl) (ln_1 f6) (wt_1 f6)) ?_
  refine (so_aload_n C.1 dL_law_1367 rfl) _ (Lc i o5 o6, [.ref 156, .int y], u2) rfl ?_
  refine so_arg C 1 (by decide) hi (by decide) dL_law_1368 dL_law_1369 dL_law_1371 dL_law_1372 dL_law_1373 ?_
  refine (so_cv (ci := 7) (n := 1) C.1 m_X7_wayAt rfl klq_284 klq_285 klq_286 klq_287 k_475 ⟨by decide, by decide, by decide +kernel⟩ (by decide) dL_law_1374) _ (Lc i o5 o6, [.int y, .int y], u3) (cv_go (as := [.int (xs (i + 1))]) (st := [.int y]) rfl ((kd_1 f6).trans (li_156 I)) e7 (Nat.le_of_ble_eq_true rfl) (ln_1 f7) (wt_1 f7)) ?_
  exact so_eqi C dL_law_1377 (by decide) (IH u3 o5 o6 I3)
end LAW
