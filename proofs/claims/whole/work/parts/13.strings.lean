theorem dJ0_length_8abf5_0 : decode cJ0_length_8abf5 0 = .ok (.aload_n 0, 1) := by decide +kernel
theorem dJ0_length_8abf5_1 : decode cJ0_length_8abf5 1 = .ok (.getfield 9, 3) := by decide +kernel
theorem dJ0_length_8abf5_4 : decode cJ0_length_8abf5 4 = .ok (.arraylength, 1) := by decide +kernel
theorem dJ0_length_8abf5_5 : decode cJ0_length_8abf5 5 = .ok (.aload_n 0, 1) := by decide +kernel
theorem dJ0_length_8abf5_6 : decode cJ0_length_8abf5 6 = .ok (.invokevirtual 335, 3) := by decide +kernel
theorem dJ0_length_8abf5_9 : decode cJ0_length_8abf5 9 = .ok (.ishr, 1) := by decide +kernel
theorem dJ0_length_8abf5_10 : decode cJ0_length_8abf5 10 = .ok (.ireturn, 1) := by decide +kernel
theorem dJ0_coder_7d493_0 : decode cJ0_coder_7d493 0 = .ok (.getstatic 38, 3) := by decide +kernel
theorem dJ0_coder_7d493_3 : decode cJ0_coder_7d493 3 = .ok (.ifCond .eq 10, 3) := by decide +kernel
theorem dJ0_coder_7d493_6 : decode cJ0_coder_7d493 6 = .ok (.aload_n 0, 1) := by decide +kernel
theorem dJ0_coder_7d493_7 : decode cJ0_coder_7d493 7 = .ok (.getfield 15, 3) := by decide +kernel
theorem dJ0_coder_7d493_10 : decode cJ0_coder_7d493 10 = .ok (.goto 4, 3) := by decide +kernel
theorem dJ0_coder_7d493_13 : decode cJ0_coder_7d493 13 = .ok (.iconst 1, 1) := by decide +kernel
theorem dJ0_coder_7d493_14 : decode cJ0_coder_7d493 14 = .ok (.ireturn, 1) := by decide +kernel
theorem dJ0_isLatin1_aae02_0 : decode cJ0_isLatin1_aae02 0 = .ok (.getstatic 38, 3) := by decide +kernel
theorem dJ0_isLatin1_aae02_3 : decode cJ0_isLatin1_aae02 3 = .ok (.ifCond .eq 14, 3) := by decide +kernel
theorem dJ0_isLatin1_aae02_6 : decode cJ0_isLatin1_aae02 6 = .ok (.aload_n 0, 1) := by decide +kernel
theorem dJ0_isLatin1_aae02_7 : decode cJ0_isLatin1_aae02 7 = .ok (.getfield 15, 3) := by decide +kernel
theorem dJ0_isLatin1_aae02_10 : decode cJ0_isLatin1_aae02 10 = .ok (.ifCond .ne 7, 3) := by decide +kernel
theorem dJ0_isLatin1_aae02_13 : decode cJ0_isLatin1_aae02 13 = .ok (.iconst 1, 1) := by decide +kernel
theorem dJ0_isLatin1_aae02_14 : decode cJ0_isLatin1_aae02 14 = .ok (.goto 4, 3) := by decide +kernel
theorem dJ0_isLatin1_aae02_17 : decode cJ0_isLatin1_aae02 17 = .ok (.iconst 0, 1) := by decide +kernel
theorem dJ0_isLatin1_aae02_18 : decode cJ0_isLatin1_aae02 18 = .ok (.ireturn, 1) := by decide +kernel
theorem dJ0_charAt_5068e_0 : decode cJ0_charAt_5068e 0 = .ok (.aload_n 0, 1) := by decide +kernel
theorem dJ0_charAt_5068e_1 : decode cJ0_charAt_5068e 1 = .ok (.invokevirtual 492, 3) := by decide +kernel
theorem dJ0_charAt_5068e_4 : decode cJ0_charAt_5068e 4 = .ok (.ifCond .eq 12, 3) := by decide +kernel
theorem dJ0_charAt_5068e_7 : decode cJ0_charAt_5068e 7 = .ok (.aload_n 0, 1) := by decide +kernel
theorem dJ0_charAt_5068e_8 : decode cJ0_charAt_5068e 8 = .ok (.getfield 9, 3) := by decide +kernel
theorem dJ0_charAt_5068e_11 : decode cJ0_charAt_5068e 11 = .ok (.iload_n 1, 1) := by decide +kernel
theorem dJ0_charAt_5068e_12 : decode cJ0_charAt_5068e 12 = .ok (.invokestatic 495, 3) := by decide +kernel
theorem dJ0_charAt_5068e_15 : decode cJ0_charAt_5068e 15 = .ok (.ireturn, 1) := by decide +kernel
theorem dJ0_charAt_5068e_16 : decode cJ0_charAt_5068e 16 = .ok (.aload_n 0, 1) := by decide +kernel
theorem dJ0_charAt_5068e_17 : decode cJ0_charAt_5068e 17 = .ok (.getfield 9, 3) := by decide +kernel
theorem dJ0_charAt_5068e_20 : decode cJ0_charAt_5068e 20 = .ok (.iload_n 1, 1) := by decide +kernel
theorem dJ0_charAt_5068e_21 : decode cJ0_charAt_5068e 21 = .ok (.invokestatic 498, 3) := by decide +kernel
theorem dJ0_charAt_5068e_24 : decode cJ0_charAt_5068e 24 = .ok (.ireturn, 1) := by decide +kernel
theorem dJ1_charAt_3b067_0 : decode cJ1_charAt_3b067 0 = .ok (.iload_n 1, 1) := by decide +kernel
theorem dJ1_charAt_3b067_1 : decode cJ1_charAt_3b067 1 = .ok (.aload_n 0, 1) := by decide +kernel
theorem dJ1_charAt_3b067_2 : decode cJ1_charAt_3b067 2 = .ok (.arraylength, 1) := by decide +kernel
theorem dJ1_charAt_3b067_3 : decode cJ1_charAt_3b067 3 = .ok (.invokestatic 9, 3) := by decide +kernel
theorem dJ1_charAt_3b067_6 : decode cJ1_charAt_3b067 6 = .ok (.aload_n 0, 1) := by decide +kernel
theorem dJ1_charAt_3b067_7 : decode cJ1_charAt_3b067 7 = .ok (.iload_n 1, 1) := by decide +kernel
theorem dJ1_charAt_3b067_8 : decode cJ1_charAt_3b067 8 = .ok (.baload, 1) := by decide +kernel
theorem dJ1_charAt_3b067_9 : decode cJ1_charAt_3b067 9 = .ok (.sipush 255, 3) := by decide +kernel
theorem dJ1_charAt_3b067_12 : decode cJ1_charAt_3b067 12 = .ok (.iand, 1) := by decide +kernel
theorem dJ1_charAt_3b067_13 : decode cJ1_charAt_3b067 13 = .ok (.i2c, 1) := by decide +kernel
theorem dJ1_charAt_3b067_14 : decode cJ1_charAt_3b067 14 = .ok (.ireturn, 1) := by decide +kernel
theorem dJ0_checkIndex_df160_0 : decode cJ0_checkIndex_df160 0 = .ok (.iload_n 0, 1) := by decide +kernel
theorem dJ0_checkIndex_df160_1 : decode cJ0_checkIndex_df160 1 = .ok (.iload_n 1, 1) := by decide +kernel
theorem dJ0_checkIndex_df160_2 : decode cJ0_checkIndex_df160 2 = .ok (.getstatic 1053, 3) := by decide +kernel
theorem dJ0_checkIndex_df160_5 : decode cJ0_checkIndex_df160 5 = .ok (.invokestatic 1059, 3) := by decide +kernel
theorem dJ0_checkIndex_df160_8 : decode cJ0_checkIndex_df160 8 = .ok (.pop, 1) := by decide +kernel
theorem dJ0_checkIndex_df160_9 : decode cJ0_checkIndex_df160 9 = .ok (.return_, 1) := by decide +kernel
theorem dJ3_checkIndex_8e157_0 : decode cJ3_checkIndex_8e157 0 = .ok (.iload_n 0, 1) := by decide +kernel
theorem dJ3_checkIndex_8e157_1 : decode cJ3_checkIndex_8e157 1 = .ok (.ifCond .lt 8, 3) := by decide +kernel
theorem dJ3_checkIndex_8e157_4 : decode cJ3_checkIndex_8e157 4 = .ok (.iload_n 0, 1) := by decide +kernel
theorem dJ3_checkIndex_8e157_5 : decode cJ3_checkIndex_8e157 5 = .ok (.iload_n 1, 1) := by decide +kernel
theorem dJ3_checkIndex_8e157_6 : decode cJ3_checkIndex_8e157 6 = .ok (.if_icmp .lt 10, 3) := by decide +kernel
theorem dJ3_checkIndex_8e157_9 : decode cJ3_checkIndex_8e157 9 = .ok (.aload_n 2, 1) := by decide +kernel
theorem dJ3_checkIndex_8e157_10 : decode cJ3_checkIndex_8e157 10 = .ok (.iload_n 0, 1) := by decide +kernel
theorem dJ3_checkIndex_8e157_11 : decode cJ3_checkIndex_8e157 11 = .ok (.iload_n 1, 1) := by decide +kernel
theorem dJ3_checkIndex_8e157_12 : decode cJ3_checkIndex_8e157 12 = .ok (.invokestatic 95, 3) := by decide +kernel
theorem dJ3_checkIndex_8e157_15 : decode cJ3_checkIndex_8e157 15 = .ok (.athrow, 1) := by decide +kernel
theorem dJ3_checkIndex_8e157_16 : decode cJ3_checkIndex_8e157 16 = .ok (.iload_n 0, 1) := by decide +kernel
theorem dJ3_checkIndex_8e157_17 : decode cJ3_checkIndex_8e157 17 = .ok (.ireturn, 1) := by decide +kernel
theorem jw_cJ0_length_8abf5 : Cond.code yJ0_length_8abf5 cJ0_length_8abf5 1 (some .int) ∈ am_tbl := (am_t 412 (by decide +kernel) rfl)
theorem jw_iJ0_length_8abf5 : Cond.instanceMethod yJ0_length_8abf5 ∈ am_tbl := (am_t 410 (by decide +kernel) rfl)
theorem jw_eJ0_length_8abf5 : Cond.selects RJ0 yJ0_length_8abf5 yJ0_length_8abf5 ∈ am_tbl := (am_t 411 (by decide +kernel) rfl)
theorem jw_cJ0_coder_7d493 : Cond.code yJ0_coder_7d493 cJ0_coder_7d493 1 (some .byte) ∈ am_tbl := (am_t 416 (by decide +kernel) rfl)
theorem jw_iJ0_coder_7d493 : Cond.instanceMethod yJ0_coder_7d493 ∈ am_tbl := (am_t 414 (by decide +kernel) rfl)
theorem jw_eJ0_coder_7d493 : Cond.selects RJ0 yJ0_coder_7d493 yJ0_coder_7d493 ∈ am_tbl := (am_t 415 (by decide +kernel) rfl)
theorem jw_cJ0_isLatin1_aae02 : Cond.code yJ0_isLatin1_aae02 cJ0_isLatin1_aae02 1 (some .boolean) ∈ am_tbl := (am_t 426 (by decide +kernel) rfl)
theorem jw_iJ0_isLatin1_aae02 : Cond.instanceMethod yJ0_isLatin1_aae02 ∈ am_tbl := (am_t 424 (by decide +kernel) rfl)
theorem jw_eJ0_isLatin1_aae02 : Cond.selects RJ0 yJ0_isLatin1_aae02 yJ0_isLatin1_aae02 ∈ am_tbl := (am_t 425 (by decide +kernel) rfl)
theorem jw_cJ0_charAt_5068e : Cond.code yJ0_charAt_5068e cJ0_charAt_5068e 2 (some .char) ∈ am_tbl := (am_t 422 (by decide +kernel) rfl)
theorem jw_iJ0_charAt_5068e : Cond.instanceMethod yJ0_charAt_5068e ∈ am_tbl := (am_t 420 (by decide +kernel) rfl)
theorem jw_eJ0_charAt_5068e : Cond.selects RJ0 yJ0_charAt_5068e yJ0_charAt_5068e ∈ am_tbl := (am_t 421 (by decide +kernel) rfl)
theorem jw_cJ1_charAt_3b067 : Cond.code yJ1_charAt_3b067 cJ1_charAt_3b067 2 (some .char) ∈ am_tbl := (am_t 429 (by decide +kernel) rfl)
theorem jw_sJ1_charAt_3b067 : Cond.static yJ1_charAt_3b067 ∈ am_tbl := (am_t 428 (by decide +kernel) rfl)
theorem jw_cJ0_checkIndex_df160 : Cond.code yJ0_checkIndex_df160 cJ0_checkIndex_df160 2 none ∈ am_tbl := (am_t 432 (by decide +kernel) rfl)
theorem jw_sJ0_checkIndex_df160 : Cond.static yJ0_checkIndex_df160 ∈ am_tbl := (am_t 431 (by decide +kernel) rfl)
theorem jw_cJ3_checkIndex_8e157 : Cond.code yJ3_checkIndex_8e157 cJ3_checkIndex_8e157 3 (some .int) ∈ am_tbl := (am_t 437 (by decide +kernel) rfl)
theorem jw_sJ3_checkIndex_8e157 : Cond.static yJ3_checkIndex_8e157 ∈ am_tbl := (am_t 436 (by decide +kernel) rfl)
theorem jw_nRJ0 : Cond.initialized RJ0 ∈ am_tbl := (am_t 9 (by decide +kernel) rfl)
theorem jw_nRJ1 : Cond.initialized RJ1 ∈ am_tbl := (am_t 10 (by decide +kernel) rfl)
theorem jw_nRJ3 : Cond.initialized RJ3 ∈ am_tbl := (am_t 11 (by decide +kernel) rfl)
theorem jw_lRJ0_335 : Cond.methodLink RJ0 335 yJ0_coder_7d493 ∈ am_tbl := (am_t 413 (by decide +kernel) rfl)
theorem jw_lRJ0_492 : Cond.methodLink RJ0 492 yJ0_isLatin1_aae02 ∈ am_tbl := (am_t 423 (by decide +kernel) rfl)
theorem jw_lRJ0_495 : Cond.methodLink RJ0 495 yJ1_charAt_3b067 ∈ am_tbl := (am_t 427 (by decide +kernel) rfl)
theorem jw_lRJ1_9 : Cond.methodLink RJ1 9 yJ0_checkIndex_df160 ∈ am_tbl := (am_t 430 (by decide +kernel) rfl)
theorem jw_lRJ0_1059 : Cond.methodLink RJ0 1059 yJ3_checkIndex_8e157 ∈ am_tbl := (am_t 435 (by decide +kernel) rfl)
theorem jw_f_38 : Cond.fieldLink RJ0 38 "java/lang/String" "COMPACT_STRINGS" "Z" ∈ am_tbl := (am_t 417 (by decide +kernel) rfl)
theorem jw_f_1053 : Cond.fieldLink RJ0 1053 "jdk/internal/util/Preconditions" "SIOOBE_FORMATTER" "Ljava/util/function/BiFunction;" ∈ am_tbl := (am_t 433 (by decide +kernel) rfl)
theorem jw_f_9 : Cond.fieldLink RJ0 9 "java/lang/String" "value" "[B" ∈ am_tbl := (am_t 1785 (by decide +kernel) rfl)
theorem jw_f_15 : Cond.fieldLink RJ0 15 "java/lang/String" "coder" "B" ∈ am_tbl := (am_t 1786 (by decide +kernel) rfl)
-- methods that read Strings: no cell changes
def js_Pc (g : am_Gl) (as : List Value) : Array Value → State → Prop := fun v U => v = as.toArray ∧ am_K g U
def js_Qc (r : Option Value) : Array Value → State → Outcome → State → Prop := fun _ st o t => o = .returned r ∧ t.heap = st.heap
theorem js_blind {g : am_Gl} {as : List Value} : FrameBlind (js_Pc g as) := fun a U fr mk h => ⟨h.1, h.2.same rfl rfl⟩
abbrev js_rm (fr lo : Nat) : Room := { frames := fr, cells := 0, slots := 0, locals := lo }
def js_M (y : MethodName) (cc : ByteArray) (maxL : Nat) (ret : Option FieldType) (fr lo : Nat) (g : am_Gl) (as : List Value) (r : Option Value) : Prop := ∀ l : Launch, Met l y (Cond.code y cc maxL ret :: am_tbl) (js_rm fr lo) (js_Pc g as) (js_Qc r) 0 0 (fun _ => False)
section JS
variable {p : Program} {l : Launch} {e : Env} {R : Room} {s : State} {m : MethodId} {args : Array Value} {below : List Frame} {meth : Method} {c : Code} {Q : State → Prop} {g : am_Gl}
theorem js_run {H : Heap} {pc : Nat} {ls : Array Slot} {st0 rest : List Value} {r : Option Value} {a : Array Value} (hr : va_Run p l e R s m args below meth c H [] 0 0 0 0 (F0 m pc ls st0) rest (js_Qc r a) (fun _ => False))
    (kk : W p l e R s m args below meth c H [] 0 0 Q (F0 m (pc + 3) ls (r.toList ++ rest))) : W p l e R s m args below meth c H [] 0 0 Q (F0 m pc ls st0) := by
  intro T hT X
  obtain ⟨v, st₀, t, T', L, h0, X', hL, e1, e2, ⟨hv, hh⟩, st⟩ := hr T hT X
  cases hv
  have hLn : L = [] := by
    cases L with
    | nil => rfl
    | cons q L => exact (hL q List.mem_cons_self).elim
  subst hLn
  obtain ⟨t2, a1, b1⟩ := kk T' (by rw [e1, hh, h0]) X'
  exact ⟨t2, st t2 a1, b1⟩
theorem js_of {y : MethodName} {cc : ByteArray} {maxL : Nat} {ret : Option FieldType} {fr lo : Nat} {as : List Value} {r : Option Value} (hy : plainName y.cls = true) (hlen : (lg_sl as).length ≤ maxL)
    (body : ∀ (p : Program) (l : Launch) (e : Env) (s : State) (m : MethodId) (below : List Frame) (meth : Method) (c : Code) (ls : Array Slot), p.tables.exec = Jvm.exec → c.code = cc → c.maxLocals = maxL → s.vm.findClass y.cls = some m.cls → (∀ w ∈ am_tbl, w.before as.toArray s = true) → meth.locks = false → meth.sig.returnType = ret → am_K g s → lv_has ls maxL (lv_args 0 as) →
      W p l e (js_rm fr lo) s m as.toArray below meth c s.heap [] 0 0 (MQ below (js_Qc r) as.toArray s 0 0 (fun _ => False)) (F0 m 0 ls [])) : js_M y cc maxL ret fr lo g as r := by
  intro l
  refine Met.ofW (cc := cc) (maxL := maxL) (ret := ret) hy rfl ?_
  intro p e s m args below meth c s₁ B hml hv
  obtain ⟨rfl, hK⟩ := hv
  have hts := atoms_spec (ws := Cond.code y cc maxL ret :: am_tbl) B.pre
  rw [lg_entry_eq]
  exact body p l e s m below meth c _ B.exec B.bytes hml (findClass_of_methodNamed B.named) (fun w hw => hts w (List.mem_cons_of_mem _ hw)) B.notSynchronized B.returns hK (lv_entry as hlen)
end JS
theorem js_coder (g : am_Gl) {i : Nat} (hi : i < am_sb.length) : js_M yJ0_coder_7d493 cJ0_coder_7d493 1 (some .byte) 0 0 g [.ref (g.2.2.2.1 i)] (some (.int 0)) := by
  refine js_of (by decide +kernel) (Nat.le_of_ble_eq_true rfl) ?_
  intro p l e s m below meth c ls hx hb hml hown hts hlocks hr hK hl
  have hS : va_S (am_A g) s.heap s.heap [] := va_S.rf
  obtain ⟨-, a2, -, -⟩ := hK.2.2.2.1 i hi
  refine va_gets hx hb hK.2.2.2.2.1 hS hown (hts _ jw_f_38) (fun _ h9 => h9) dJ0_coder_7d493_0 ?_
  refine lv_if_eq (tgt := 13) hx hb dJ0_coder_7d493_3 (by decide) (fun q => absurd q (by decide)) (fun _ => ?_)
  refine lv_aload_n hx hb dJ0_coder_7d493_6 rfl (lv_at hl 0 rfl) ?_
  refine vk_getf hx hb a2 hS hown (hts _ jw_f_15) (fun _ h9 => h9) dJ0_coder_7d493_7 ?_
  refine lv_goto (tgt := 14) hx hb dJ0_coder_7d493_10 (by decide) ?_
  exact W.zret hx hb hr rfl (fun t ht hW => ⟨rfl, ht⟩) (fun q hq => by cases hq) dJ0_coder_7d493_14 hlocks
theorem js_isLatin1 (g : am_Gl) {i : Nat} (hi : i < am_sb.length) : js_M yJ0_isLatin1_aae02 cJ0_isLatin1_aae02 1 (some .boolean) 0 0 g [.ref (g.2.2.2.1 i)] (some (.int 1)) := by
  refine js_of (by decide +kernel) (Nat.le_of_ble_eq_true rfl) ?_
  intro p l e s m below meth c ls hx hb hml hown hts hlocks hr hK hl
  have hS : va_S (am_A g) s.heap s.heap [] := va_S.rf
  obtain ⟨-, a2, -, -⟩ := hK.2.2.2.1 i hi
  refine va_gets hx hb hK.2.2.2.2.1 hS hown (hts _ jw_f_38) (fun _ h9 => h9) dJ0_isLatin1_aae02_0 ?_
  refine lv_if_eq (tgt := 17) hx hb dJ0_isLatin1_aae02_3 (by decide) (fun q => absurd q (by decide)) (fun _ => ?_)
  refine lv_aload_n hx hb dJ0_isLatin1_aae02_6 rfl (lv_at hl 0 rfl) ?_
  refine vk_getf hx hb a2 hS hown (hts _ jw_f_15) (fun _ h9 => h9) dJ0_isLatin1_aae02_7 ?_
  refine lv_if_ne (tgt := 17) hx hb dJ0_isLatin1_aae02_10 (by decide) (fun q => absurd rfl q) (fun _ => ?_)
  refine lv_iconst (v := 1) hx hb dJ0_isLatin1_aae02_13 (by decide) ?_
  refine lv_goto (tgt := 18) hx hb dJ0_isLatin1_aae02_14 (by decide) ?_
  exact W.zret hx hb hr rfl (fun t ht hW => ⟨rfl, ht⟩) (fun q hq => by cases hq) dJ0_isLatin1_aae02_18 hlocks
theorem js_pre (g : am_Gl) {j n : Int32} {v : Value} (hv : v.category = 1) (h0 : ¬ j < 0) (h1 : j < n) : js_M yJ3_checkIndex_8e157 cJ3_checkIndex_8e157 3 (some .int) 0 0 g [.int j, .int n, v] (some (.int j)) := by
  refine js_of (by decide +kernel) (by simp [lg_sl, hv, show (Value.int j).category = 1 from rfl, show (Value.int n).category = 1 from rfl]) ?_
  intro p l e s m below meth c ls hx hb hml hown hts hlocks hr hK hl
  have hl : lv_has ls 3 [(0, .int j), (1, .int n), (2, v)] := hl
  refine lv_iload_n hx hb dJ3_checkIndex_8e157_0 rfl (lv_at hl 0 rfl) ?_
  refine lv_if_lt (tgt := 9) hx hb dJ3_checkIndex_8e157_1 (by decide) (fun q => absurd q h0) (fun _ => ?_)
  refine lv_iload_n hx hb dJ3_checkIndex_8e157_4 rfl (lv_at hl 0 rfl) ?_
  refine lv_iload_n hx hb dJ3_checkIndex_8e157_5 rfl (lv_at hl 1 rfl) ?_
  refine lv_icmp_lt (tgt := 16) hx hb dJ3_checkIndex_8e157_6 (by decide) (fun _ => ?_) (fun q => absurd h1 q)
  refine lv_iload_n hx hb dJ3_checkIndex_8e157_16 rfl (lv_at hl 0 rfl) ?_
  exact W.iret hx hb hr (fun t ht hW => ⟨rfl, ht⟩) (fun q hq => by cases hq) dJ3_checkIndex_8e157_17 hlocks
theorem js_check (g : am_Gl) {j n : Int32} (h0 : ¬ j < 0) (h1 : j < n) : js_M yJ0_checkIndex_df160 cJ0_checkIndex_df160 2 none 1 22 g [.int j, .int n] none := by
  refine js_of (by decide +kernel) (Nat.le_of_ble_eq_true rfl) ?_
  intro p l e s m below meth c ls hx hb hml hown hts hlocks hr hK hl
  have hl : lv_has ls 2 [(0, .int j), (1, .int n)] := hl
  have hS : va_S (am_A g) s.heap s.heap [] := va_S.rf
  refine lv_iload_n hx hb dJ0_checkIndex_df160_0 rfl (lv_at hl 0 rfl) ?_
  refine lv_iload_n hx hb dJ0_checkIndex_df160_1 rfl (lv_at hl 1 rfl) ?_
  have go : ∀ v : Value, v.category = 1 → va_Z "jdk/internal/util/Preconditions" "SIOOBE_FORMATTER" "Ljava/util/function/BiFunction;" v (am_A g) s s.heap → W p l e (js_rm 1 22) s m ([Value.int j, Value.int n] : List Value).toArray below meth c s.heap [] 0 0 (MQ below (js_Qc none) ([Value.int j, Value.int n] : List Value).toArray s 0 0 (fun _ => False)) (F0 m 2 ls [.int n, .int j]) := by
    intro v hc hZ
    refine va_gets hx hb hZ hS hown (hts _ jw_f_1053) (fun _ h9 => h9) dJ0_checkIndex_df160_2 ?_
    refine js_run (r := some (.int j)) (rest := []) (va_runS (Ts := am_tbl) (n := 3) (As := [.int j, .int n, v]) (bytes := cJ3_checkIndex_8e157) (maxL := 3) (ret := some .int) ⟨hx, hb, hml, hown, hts⟩ (js_pre g hc h0 h1 l) ⟨callB_of 3 hts (am_GoodIn jw_cJ3_checkIndex_8e157) rfl rfl rfl (hts _ jw_nRJ3) (hts _ jw_lRJ0_1059) ⟨by decide, by decide, by decide +kernel⟩ ⟨by decide, by decide⟩, hts _ jw_sJ3_checkIndex_8e157⟩ ⟨js_blind, fun U hU hW => ⟨rfl, hK.go hW hU hS⟩⟩ rfl rfl hl.1 rfl (lv_room (Nat.le_of_ble_eq_true rfl)) dJ0_checkIndex_df160_5 ⟨by decide, by decide⟩) ?_
    refine lv_pop hx hb dJ0_checkIndex_df160_8 rfl ?_
    exact W.vret hx hb hr (fun t ht hW => ⟨rfl, ht⟩) (fun q hq => by cases hq) dJ0_checkIndex_df160_9 hlocks
  rcases hK.2.2.2.2.2.1 with h | ⟨t, h⟩
  · exact go _ rfl h
  · exact go _ rfl h
theorem js_nlt {j : Int32} {n : Nat} (h : vp_in j n) (hn : n < 2 ^ 31) : ¬ j < 0 ∧ j < Int32.ofNat n := by
  obtain ⟨k, h1, rfl⟩ := vp_in_of h hn
  exact ⟨nI_pos (by omega), nI_lt h1 hn⟩
theorem js_sb : ∀ i, i < am_sb.length → (am_sb.getD i []).length < 100 ∧ ∀ j, j < 100 → ((((am_sb.getD i []).getD j 0) &&& 255).toUInt32 % 65536).toInt32 = (am_sb.getD i []).getD j 0 ∧ narrow .char (.int ((am_sb.getD i []).getD j 0)) = .int ((am_sb.getD i []).getD j 0) := by decide +kernel
theorem js_lat (g : am_Gl) {i : Nat} {j : Int32} (hi : i < am_sb.length) (hj : vp_in j (am_sb.getD i []).length) : js_M yJ1_charAt_3b067 cJ1_charAt_3b067 2 (some .char) 2 43 g [.ref (g.2.2.2.2 i), .int j] (some (.int ((am_sb.getD i []).getD j.toNatClampNeg 0))) := by
  refine js_of (by decide +kernel) (Nat.le_of_ble_eq_true rfl) ?_
  intro p l e s m below meth c ls hx hb hml hown hts hlocks hr hK hl
  have hl : lv_has ls 2 [(0, .ref (g.2.2.2.2 i)), (1, .int j)] := hl
  have hS : va_S (am_A g) s.heap s.heap [] := va_S.rf
  obtain ⟨-, -, -, a4⟩ := hK.2.2.2.1 i hi
  obtain ⟨b1, b2⟩ := js_sb i hi
  have hjl : j.toNatClampNeg < (am_sb.getD i []).length := Nat.not_le.mp fun q => hj (Or.inr q)
  obtain ⟨b3, b4⟩ := b2 j.toNatClampNeg (by omega)
  obtain ⟨h0, h1⟩ := js_nlt hj (by omega)
  refine lv_iload_n hx hb dJ1_charAt_3b067_0 rfl (lv_at hl 1 rfl) ?_
  refine lv_aload_n hx hb dJ1_charAt_3b067_1 rfl (lv_at hl 0 rfl) ?_
  refine va_tlen hx hb a4 hS rfl dJ1_charAt_3b067_2 ?_
  refine js_run (r := none) (rest := []) (va_runS (Ts := am_tbl) (n := 2) (As := [.int j, .int (Int32.ofNat (am_sb.getD i []).length)]) (bytes := cJ0_checkIndex_df160) (maxL := 2) (ret := none) ⟨hx, hb, hml, hown, hts⟩ (js_check g h0 h1 l) ⟨callB_of 2 hts (am_GoodIn jw_cJ0_checkIndex_df160) rfl rfl rfl (hts _ jw_nRJ0) (hts _ jw_lRJ1_9) ⟨by decide, by decide, by decide +kernel⟩ ⟨by decide, by decide⟩, hts _ jw_sJ0_checkIndex_df160⟩ ⟨js_blind, fun U hU hW => ⟨rfl, hK.go hW hU hS⟩⟩ rfl rfl hl.1 rfl (lv_room (Nat.le_of_ble_eq_true rfl)) dJ1_charAt_3b067_3 ⟨by decide, by decide⟩) ?_
  refine lv_aload_n hx hb dJ1_charAt_3b067_6 rfl (lv_at hl 0 rfl) ?_
  refine lv_iload_n hx hb dJ1_charAt_3b067_7 rfl (lv_at hl 1 rfl) ?_
  refine va_tb hx hb a4 hS hj rfl dJ1_charAt_3b067_8 ?_
  refine lv_sipush (v := 255) hx hb dJ1_charAt_3b067_9 (by decide) ?_
  refine lv_iand hx hb dJ1_charAt_3b067_12 ?_
  refine lv_i2c hx hb dJ1_charAt_3b067_13 b3 ?_
  exact W.zret hx hb hr b4 (fun t ht hW => ⟨rfl, ht⟩) (fun q hq => by cases hq) dJ1_charAt_3b067_14 hlocks
-- String.length(), String.charAt(j): as functions of the store, which they leave
def d_slen : am_D := fun as u => match as with
  | [.ref k] => if 1000000 ≤ k ∧ k < 1000000 + am_sb.length then some (some (.int (Int32.ofNat (am_sb.getD (k - 1000000) []).length)), u) else none
  | _ => none
def d_sch : am_D := fun as u => match as with
  | [.ref k, .int j] => if (1000000 ≤ k ∧ k < 1000000 + am_sb.length) ∧ ¬ (j < 0 ∨ (am_sb.getD (k - 1000000) []).length ≤ j.toNatClampNeg) then some (some (.int ((am_sb.getD (k - 1000000) []).getD j.toNatClampNeg 0)), u) else none
  | _ => none
theorem js_rho {g : am_Gl} {k : Nat} (h : 1000000 ≤ k) : am_rho g k = g.2.2.2.1 (k - 1000000) := by unfold am_rho; rw [if_neg (by omega)]
theorem m_slen : am_M yJ0_length_8abf5 cJ0_length_8abf5 1 (some .int) 1 20 d_slen := by
  intro l g as u u2 r hst hd hlen hwt
  simp only [d_slen] at hd
  split at hd
  · next k =>
    split at hd
    · next hk =>
      cases hd
      simp only [Nat.sub_self]
      refine Met.ofW (cc := cJ0_length_8abf5) (maxL := 1) (ret := some .int) (by decide +kernel) rfl ?_
      intro p e s m args below meth c s₁ B hml hv
      obtain ⟨rfl, hR, hK⟩ := hv
      have hx := B.exec
      have hb := B.bytes
      have hr := B.returns
      have hlocks := B.notSynchronized
      have hown := findClass_of_methodNamed B.named
      have hts0 := atoms_spec (ws := Cond.code yJ0_length_8abf5 cJ0_length_8abf5 1 (some .int) :: am_tbl) B.pre
      have hts : ∀ w ∈ am_tbl, w.before (([Value.ref k] : List Value).map (am_rn g)).toArray s = true := fun w hw => hts0 w (List.mem_cons_of_mem _ hw)
      have hi : k - 1000000 < am_sb.length := Nat.sub_lt_left_of_lt_add hk.1 hk.2
      have hS : va_S (am_A g) s.heap s.heap [] := va_S.rf
      obtain ⟨a1, a2, a3, a4⟩ := hK.2.2.2.1 _ hi
      obtain ⟨b1, -⟩ := js_sb _ hi
      rw [lg_entry_eq]
      have hl := lv_entry (([Value.ref k] : List Value).map (am_rn g)) (n := 1) (Nat.le_of_ble_eq_true rfl)
      generalize (lg_sl (([Value.ref k] : List Value).map (am_rn g)) ++ List.replicate (1 - (lg_sl (([Value.ref k] : List Value).map (am_rn g))).length) Slot.unset).toArray = ls at hl ⊢
      have hl : lv_has ls 1 [(0, .ref (g.2.2.2.1 (k - 1000000)))] := by
        have hl : lv_has ls 1 [(0, .ref (am_rho g k))] := hl
        rw [js_rho hk.1] at hl
        exact hl
      refine lv_aload_n hx hb dJ0_length_8abf5_0 rfl (lv_at hl 0 rfl) ?_
      refine vk_getf hx hb a3 hS hown (hts _ jw_f_9) (fun _ h9 => h9) dJ0_length_8abf5_1 ?_
      refine va_tlen hx hb a4 hS rfl dJ0_length_8abf5_4 ?_
      refine lv_aload_n hx hb dJ0_length_8abf5_5 rfl (lv_at hl 0 rfl) ?_
      obtain ⟨cellB, g1, g2, g3, -⟩ := a1
      refine js_run (r := some (.int 0)) (rest := [.int (Int32.ofNat (am_sb.getD (k - 1000000) []).length)]) (va_runV (Ts := am_tbl) (n := 0) (C := RJ0) (b := g.2.2.2.1 (k - 1000000)) (As := []) (bytes := cJ0_coder_7d493) (maxL := 1) (ret := some .byte) ⟨hx, hb, hml, hown, hts⟩ (js_coder g hi l) ⟨callB_of 0 hts (am_GoodIn jw_cJ0_coder_7d493) rfl rfl rfl (hts _ jw_nRJ0) (hts _ jw_lRJ0_335) ⟨by decide, by decide, by decide +kernel⟩ ⟨by decide, by decide⟩, hts _ jw_iJ0_coder_7d493, hts _ jw_eJ0_coder_7d493⟩ ⟨js_blind, ⟨cellB, g1, g2, g3⟩, fun U hU hW => ⟨rfl, hK.go hW hU hS⟩⟩ rfl rfl hl.1 rfl (lv_room (Nat.le_of_ble_eq_true rfl)) dJ0_length_8abf5_6 ⟨by simp, by simp⟩) ?_
      refine lv_ishr hx hb dJ0_length_8abf5_9 ?_
      have e9 : Int32.ofNat (am_sb.getD (k - 1000000) []).length >>> ((0 : Int32) &&& 31) = Int32.ofNat (am_sb.getD (k - 1000000) []).length := sc_shr0 (by omega)
      rw [e9]
      exact W.iret hx hb hr (fun t ht hW => ⟨⟨rfl, by rw [ht]; exact hR⟩, hS.F ht⟩) (fun q hq => by cases hq) dJ0_length_8abf5_10 hlocks
    · cases hd
  · cases hd
theorem m_sch : am_M yJ0_charAt_5068e cJ0_charAt_5068e 2 (some .char) 3 64 d_sch := by
  intro l g as u u2 r hst hd hlen hwt
  simp only [d_sch] at hd
  split at hd
  · next k j =>
    split at hd
    · next hk =>
      cases hd
      obtain ⟨hk, hj⟩ := hk
      simp only [Nat.sub_self]
      refine Met.ofW (cc := cJ0_charAt_5068e) (maxL := 2) (ret := some .char) (by decide +kernel) rfl ?_
      intro p e s m args below meth c s₁ B hml hv
      obtain ⟨rfl, hR, hK⟩ := hv
      have hx := B.exec
      have hb := B.bytes
      have hr := B.returns
      have hlocks := B.notSynchronized
      have hown := findClass_of_methodNamed B.named
      have hts0 := atoms_spec (ws := Cond.code yJ0_charAt_5068e cJ0_charAt_5068e 2 (some .char) :: am_tbl) B.pre
      have hts : ∀ w ∈ am_tbl, w.before (([Value.ref k, .int j] : List Value).map (am_rn g)).toArray s = true := fun w hw => hts0 w (List.mem_cons_of_mem _ hw)
      have hi : k - 1000000 < am_sb.length := Nat.sub_lt_left_of_lt_add hk.1 hk.2
      have hS : va_S (am_A g) s.heap s.heap [] := va_S.rf
      obtain ⟨a1, a2, a3, a4⟩ := hK.2.2.2.1 _ hi
      obtain ⟨b1, b2⟩ := js_sb _ hi
      have hjl : j.toNatClampNeg < (am_sb.getD (k - 1000000) []).length := Nat.not_le.mp fun q => hj (Or.inr q)
      obtain ⟨b3, b4⟩ := b2 j.toNatClampNeg (by omega)
      rw [lg_entry_eq]
      have hl := lv_entry (([Value.ref k, .int j] : List Value).map (am_rn g)) (n := 2) (Nat.le_of_ble_eq_true rfl)
      generalize (lg_sl (([Value.ref k, .int j] : List Value).map (am_rn g)) ++ List.replicate (2 - (lg_sl (([Value.ref k, .int j] : List Value).map (am_rn g))).length) Slot.unset).toArray = ls at hl ⊢
      have hl : lv_has ls 2 [(0, .ref (g.2.2.2.1 (k - 1000000))), (1, .int j)] := by
        have hl : lv_has ls 2 [(0, .ref (am_rho g k)), (1, .int j)] := hl
        rw [js_rho hk.1] at hl
        exact hl
      refine lv_aload_n hx hb dJ0_charAt_5068e_0 rfl (lv_at hl 0 rfl) ?_
      obtain ⟨cellB, g1, g2, g3, -⟩ := a1
      refine js_run (r := some (.int 1)) (rest := []) (va_runV (Ts := am_tbl) (n := 0) (C := RJ0) (b := g.2.2.2.1 (k - 1000000)) (As := []) (bytes := cJ0_isLatin1_aae02) (maxL := 1) (ret := some .boolean) ⟨hx, hb, hml, hown, hts⟩ (js_isLatin1 g hi l) ⟨callB_of 0 hts (am_GoodIn jw_cJ0_isLatin1_aae02) rfl rfl rfl (hts _ jw_nRJ0) (hts _ jw_lRJ0_492) ⟨by decide, by decide, by decide +kernel⟩ ⟨by decide, by decide⟩, hts _ jw_iJ0_isLatin1_aae02, hts _ jw_eJ0_isLatin1_aae02⟩ ⟨js_blind, ⟨cellB, g1, g2, g3⟩, fun U hU hW => ⟨rfl, hK.go hW hU hS⟩⟩ rfl rfl hl.1 rfl (lv_room (Nat.le_of_ble_eq_true rfl)) dJ0_charAt_5068e_1 ⟨by simp, by simp⟩) ?_
      refine lv_if_eq (tgt := 16) hx hb dJ0_charAt_5068e_4 (by decide) (fun q => absurd q (by decide)) (fun _ => ?_)
      refine lv_aload_n hx hb dJ0_charAt_5068e_7 rfl (lv_at hl 0 rfl) ?_
      refine vk_getf hx hb a3 hS hown (hts _ jw_f_9) (fun _ h9 => h9) dJ0_charAt_5068e_8 ?_
      refine lv_iload_n hx hb dJ0_charAt_5068e_11 rfl (lv_at hl 1 rfl) ?_
      refine js_run (r := some (.int ((am_sb.getD (k - 1000000) []).getD j.toNatClampNeg 0))) (rest := []) (va_runS (Ts := am_tbl) (n := 2) (As := [.ref (g.2.2.2.2 (k - 1000000)), .int j]) (bytes := cJ1_charAt_3b067) (maxL := 2) (ret := some .char) ⟨hx, hb, hml, hown, hts⟩ (js_lat g hi hj l) ⟨callB_of 2 hts (am_GoodIn jw_cJ1_charAt_3b067) rfl rfl rfl (hts _ jw_nRJ1) (hts _ jw_lRJ0_495) ⟨by decide, by decide, by decide +kernel⟩ ⟨by decide, by decide⟩, hts _ jw_sJ1_charAt_3b067⟩ ⟨js_blind, fun U hU hW => ⟨rfl, hK.go hW hU hS⟩⟩ rfl rfl hl.1 rfl (lv_room (Nat.le_of_ble_eq_true rfl)) dJ0_charAt_5068e_12 ⟨by simp, by simp⟩) ?_
      exact W.zret hx hb hr b4 (fun t ht hW => ⟨⟨rfl, by rw [ht]; exact hR⟩, hS.F ht⟩) (fun q hq => by cases hq) dJ0_charAt_5068e_15 hlocks
    · cases hd
  · cases hd
theorem so_ct {p : Program} {l : Launch} {e : Env} {R : Room} {s : State} {m : MethodId} {args : Array Value} {below : List Frame} {meth : Method} {c : Code} {g : am_Gl} {own : String} {cc : ByteArray} {nL n0 z0 nF zF fr lo : Nat} {Q : State → Prop} (C : am_Cx p l e R s m args below meth c g own cc nL n0 z0 nF zF fr lo) {pc index n : Nat} {d : am_D} {y : MethodName} {bytes : ByteArray} {maxL : Nat} {ret : Option FieldType} {fr2 lo2 : Nat} (M : am_M y bytes maxL ret fr2 lo2 d) (hc : Cond.code y bytes maxL ret ∈ am_tbl) (hl : Cond.methodLink own index y ∈ am_tbl) (hin : Cond.instanceMethod y ∈ am_tbl) (hse : Cond.selects "java/lang/String" y y ∈ am_tbl) (hi : Cond.initialized y.cls ∈ am_tbl) (hy : y.cls ≠ "java/lang/invoke/MethodHandle" ∧ y.cls ≠ "java/lang/invoke/VarHandle" ∧ (parseMethodDescriptor y.desc).map (fun d => d.parameters.length) = some n) (hr : fr2 + 1 ≤ fr ∧ 8 + (maxL + 11) + lo2 ≤ lo) (hd : decode cc pc = .ok (.invokevirtual index, 3)) :
    am_SI (am_G p l e R s m args below meth c g nL n0 z0 nF zF Q) pc (pc + 3) (i_ct n d) := by
  intro cf cf2 h hG
  have hts := C.2.2.2.2.1
  have hrm := C.2.2.2.2.2.2.2.2
  simp only [i_ct] at h
  split at h
  · next k hst =>
    split at h
    · next hck =>
      refine am_call C M h (fun u2 r H locs ls cells slots hls hR hS hsum hroom hM hPc hstk hlen => ?_) hG
      have e1 := am_recv hst
      have hlt := (List.getElem?_eq_some_iff.mp hst).1
      rw [e1] at hstk hPc hlen hM
      obtain ⟨cellB, g1, g2, g3, -⟩ := (C.2.2.2.2.2.2.1.2.2.2.1 (k - 1000000) (Nat.sub_lt_left_of_lt_add hck.1 hck.2)).1.kept hS.2.1
      exact ⟨_, va_runV (Ts := am_tbl) (n := n) (C := "java/lang/String") (b := am_rho g k) (As := (cf.2.1.take n).reverse.map (am_rn g)) (bytes := bytes) (maxL := maxL) (ret := ret) ⟨C.1, C.2.1, C.2.2.1, C.2.2.2.1, hts⟩ hM ⟨callB_of n hts (am_GoodIn hc) rfl rfl rfl (hts _ hi) (hts _ hl) hy ⟨by show fr2 + 1 ≤ _; omega, by show 8 + (maxL + 11) + lo2 ≤ _; omega⟩, hts _ hin, hts _ hse⟩ ⟨am_blind, ⟨cellB, by rw [js_rho hck.1]; exact g1, g2, g3⟩, hPc⟩ rfl (by simp; omega) hls (by rw [hstk]; simp [am_rn]) (by show 2 * 0 + _ ≤ _; omega) hd hroom⟩
    · cases h
  · cases h

