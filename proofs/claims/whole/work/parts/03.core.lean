-- THE ABSTRACT MACHINE: a store of numbered cells, code as functions, and what joins them to the machine itself =====
-- The store: (layout, may it grow, cells made, slots made), ints, longs, references, each by cell and place. A layout's entry: 0 int[], 1 byte[], 2 long[], 3 Garden[], c + 4 an object of class c; its size.
abbrev am_St : Type := (List (Nat × Nat) × Bool × Nat × Nat) × (Nat → Nat → Int32) × (Nat → Nat → Int64) × (Nat → Nat → Option Nat)
abbrev am_C : Type := List (Option Value) × List Value × am_St
abbrev am_O : Type := (Nat × am_C) ⊕ (Option Value × am_St)
abbrev am_F : Type := am_C → Option am_O
abbrev am_I : Type := am_C → Option am_C
abbrev am_B : Type := am_C → Option (Bool × am_C)
abbrev am_D : Type := List Value → am_St → Option (Option Value × am_St)
-- the classes and their slots; the array classes; the address of cell 0; Strings and their byte rows
abbrev am_Gl : Type := va_G × (Nat → ClassId) × Nat × (Nat → Nat) × (Nat → Nat)
def am_cl : List vw_C := [(RX0, TX0, 8), (RX1, TX1, 4), (RX2, TX2, 6), (RX3, TX3, 10), (RX4, TX4, 14), (RX5, TX5, 17), (RX6, TX6, 17), (RX7, TX7, 38)]
-- a field's sort: 0 int, 1 long, 2 reference, 3 boolean
def am_ft : Nat → List Nat
  | 0 => [0, 0, 0, 2, 2, 2, 2, 2]
  | 1 => [2, 2, 2, 0]
  | 2 => [0, 0, 2, 2, 2, 2]
  | 3 => [2, 2, 2, 2, 2, 0, 1, 0, 0, 2]
  | 4 => [0, 0, 2, 0, 2, 3, 0, 0, 0, 0, 1, 0, 2, 2]
  | 5 => [0, 0, 0, 0, 0, 0, 0, 0, 2, 2, 2, 2, 2, 2, 2, 2, 2]
  | 6 => [2, 0, 2, 2, 2, 3, 2, 2, 2, 0, 2, 0, 2, 2, 3, 2, 0]
  | 7 => [0, 2, 0, 0, 0, 0, 0, 0, 0, 0, 0, 0, 2, 3, 3, 2, 2, 2, 2, 2, 0, 0, 2, 2, 2, 2, 2, 2, 2, 2, 0, 0, 1, 2, 2, 0, 2, 0]
  | _ => []
def am_tbl : List Cond := lw_tbl.filter goodWord
theorem am_good {w : Cond} (h : w ∈ am_tbl) : w ∈ lw_tbl ∧ goodWord w = true := List.mem_filter.mp h
theorem am_t {w : Cond} (i : Nat) (h : tables_1[i]? = some w) (hg : goodWord w = true) : w ∈ am_tbl := List.mem_filter.mpr ⟨List.mem_append_right _ (List.mem_of_getElem? h), hg⟩
theorem am_ts {w : Cond} (i : Nat) (h : (k2_sels lw_privs)[i]? = some w) (hg : goodWord w = true) : w ∈ am_tbl := List.mem_filter.mpr ⟨List.mem_append_left _ (List.mem_of_getElem? h), hg⟩
def am_len (u : am_St) : Nat := u.1.2.2.1
def am_wt (u : am_St) : Nat := u.1.2.2.2
def am_rho (g : am_Gl) (k : Nat) : Nat := if k < 1000000 then g.2.2.1 + k else g.2.2.2.1 (k - 1000000)
def am_rn (g : am_Gl) : Value → Value
  | .ref k => .ref (am_rho g k)
  | v => v
theorem am_rn_cat (g : am_Gl) (v : Value) : (am_rn g v).category = v.category := by cases v <;> rfl
def am_fv (g : am_Gl) (u : am_St) (k t j : Nat) : Value := match t with
  | 1 => .long (u.2.2.1 k j)
  | 2 => va_rf ((u.2.2.2 k j).map (am_rho g))
  | _ => .int (u.2.1 k j)
def am_cell (g : am_Gl) (u : am_St) (k : Nat) (kd : Nat × Nat) : va_E := match kd.1 with
  | 0 => .inl (g.2.1 0, kd.2, .inl (u.2.1 k))
  | 1 => .inl (g.2.1 1, kd.2, .inl (u.2.1 k))
  | 2 => .inl (g.2.1 2, kd.2, .inr (.inl (u.2.2.1 k)))
  | 3 => .inl (g.2.1 3, kd.2, .inr (.inr (.inr (.inr (fun j => (u.2.2.2 k j).map (am_rho g))))))
  | c + 4 => .inr (c, (am_ft c).mapIdx (fun j t => am_fv g u k t j))
def am_ws (g : am_Gl) (u : am_St) : va_W := u.1.1.mapIdx (fun k kd => (am_rho g k, am_cell g u k kd))
def am_A (g : am_Gl) : Nat → Prop := fun q => g.2.2.1 ≤ q
def am_R (g : am_Gl) (u : am_St) (H : Heap) : Prop := va_P g.1 am_cl (am_ws g u) H ∧ u.1.1.length ≤ 1000000 ∧ (u.1.2.1 = true → H.size = g.2.2.1 + u.1.1.length)
def am_tys (g : am_Gl) : List (ClassId × FieldType) := [(g.2.1 0, .int), (g.2.1 1, .byte), (g.2.1 2, .long), (g.2.1 3, .object RX2)]
theorem am_ws_at {g : am_Gl} {u : am_St} {k : Nat} {kd : Nat × Nat} (h : u.1.1[k]? = some kd) : (am_ws g u)[k]? = some (am_rho g k, am_cell g u k kd) := by
  unfold am_ws
  rw [List.getElem?_mapIdx, h]
  rfl
theorem am_ws_len {g : am_Gl} {u : am_St} : (am_ws g u).length = u.1.1.length := by simp [am_ws]
theorem am_rho_lt {g : am_Gl} {k : Nat} (h : k < 1000000) : am_rho g k = g.2.2.1 + k := by simp [am_rho, h]
theorem am_D_of {g : am_Gl} {u : am_St} (h : u.1.1.length ≤ 1000000) : va_D (am_A g) (am_ws g u) := by
  have key : ∀ (k : Nat) (q : Nat × va_E), (am_ws g u)[k]? = some q → k < 1000000 ∧ q.1 = g.2.2.1 + k := by
    intro k q hk
    have hl : k < u.1.1.length := by rw [← am_ws_len (g := g)]; exact (List.getElem?_eq_some_iff.mp hk).1
    have h2 := am_ws_at (g := g) (List.getElem?_eq_getElem hl)
    rw [h2] at hk
    cases hk
    exact ⟨by omega, am_rho_lt (by omega)⟩
  refine ⟨fun i j p q hi hj e => ?_, fun k q hk => ?_⟩
  · have h1 := key i p hi
    have h2 := key j q hj
    have h3 := h1.2.symm.trans (e.trans h2.2)
    omega
  · have h1 := key k q hk
    show g.2.2.1 ≤ q.1
    omega
-- the world behind a change of one cell
theorem am_ws_set {g : am_Gl} {u u2 : am_St} {k : Nat} {kd : Nat × Nat} (hL : u2.1.1 = u.1.1) (h : u.1.1[k]? = some kd) (ho : ∀ j, j ≠ k → ∀ kd2, am_cell g u2 j kd2 = am_cell g u j kd2) : am_ws g u2 = (am_ws g u).set k (am_rho g k, am_cell g u2 k kd) := by
  apply List.ext_getElem?
  intro i
  rw [List.getElem?_set]
  by_cases e : k = i
  · subst e
    rw [if_pos rfl, am_ws_at (by rw [hL]; exact h), if_pos]
    rw [am_ws_len]
    exact (List.getElem?_eq_some_iff.mp h).1
  · rw [if_neg e]
    unfold am_ws
    rw [List.getElem?_mapIdx, List.getElem?_mapIdx, hL]
    cases u.1.1[i]? with
    | none => rfl
    | some kd2 =>
      simp only [Option.map_some]
      rw [ho i (fun q => e q.symm)]
theorem am_ws_push {g : am_Gl} {u u2 : am_St} {kd : Nat × Nat} (hL : u2.1.1 = u.1.1 ++ [kd]) (ho : ∀ j, j < u.1.1.length → ∀ kd2, am_cell g u2 j kd2 = am_cell g u j kd2) : am_ws g u2 = am_ws g u ++ [(am_rho g u.1.1.length, am_cell g u2 u.1.1.length kd)] := by
  apply List.ext_getElem?
  intro i
  unfold am_ws
  rw [List.getElem?_mapIdx, hL]
  by_cases e : i < u.1.1.length
  · rw [List.getElem?_append_left e, List.getElem?_append_left (by simpa using e), List.getElem?_mapIdx]
    cases u.1.1[i]? with
    | none => rfl
    | some kd2 =>
      simp only [Option.map_some]
      rw [ho i e]
  · by_cases e2 : i = u.1.1.length
    · subst e2
      simp
    · have h1 : u.1.1.length < i := by omega
      rw [List.getElem?_append_right (by omega), List.getElem?_append_right (by simp; omega)]
      have h2 : ∃ z, i - u.1.1.length = z + 1 := ⟨i - u.1.1.length - 1, by omega⟩
      obtain ⟨z, hz⟩ := h2
      simp [hz]
-- what is known of the launch, wherever a method begins -----
def am_nw : List Cond := [.methodLinkNest "GraftQuarrel" 19 ⟨"GraftQuarrel$Reader", "<init>", "()V"⟩ "GraftQuarrel", .methodLinkNest "GraftQuarrel" 26 ⟨"GraftQuarrel$Valley", "<init>", "()V"⟩ "GraftQuarrel", .methodLinkNest "GraftQuarrel" 40 ⟨"GraftQuarrel$Garden", "<init>", "()V"⟩ "GraftQuarrel", .methodLinkNest "GraftQuarrel" 63 ⟨"GraftQuarrel$Course", "<init>", "()V"⟩ "GraftQuarrel", .methodLinkNest "GraftQuarrel" 70 ⟨"GraftQuarrel$GraftPlan", "<init>", "()V"⟩ "GraftQuarrel", .methodLinkNest "GraftQuarrel" 80 ⟨"GraftQuarrel$Explanation", "<init>", "()V"⟩ "GraftQuarrel", .methodLinkNest "GraftQuarrel$Explanation" 11 ⟨"GraftQuarrel$Garden", "<init>", "()V"⟩ "GraftQuarrel", .methodLinkNest "GraftQuarrel$Valley" 64 ⟨"GraftQuarrel", "has", "(II)Z"⟩ "GraftQuarrel", .methodLinkNest "GraftQuarrel$Explanation" 74 ⟨"GraftQuarrel", "has", "(II)Z"⟩ "GraftQuarrel"]
def am_sr : List (String × Nat × String × Nat) := [("GraftQuarrel$Reader", 92, "valley", 0), ("GraftQuarrel$Reader", 98, "family", 1), ("GraftQuarrel$Reader", 100, "quarrel", 2), ("GraftQuarrel$Reader", 102, "law", 3), ("GraftQuarrel$Reader", 104, "deed", 4), ("GraftQuarrel$Reader", 106, "pot", 5), ("GraftQuarrel$Reader", 108, "fell", 6), ("GraftQuarrel$Reader", 172, "winter", 7), ("GraftQuarrel$Reader", 183, "bears", 8), ("GraftQuarrel$Reader", 187, "coins", 9), ("GraftQuarrel$Reader", 196, "people", 10), ("GraftQuarrel$Reader", 110, "land", 11), ("GraftQuarrel$Reader", 112, "word", 12), ("GraftQuarrel$Reader", 114, "love", 13), ("GraftQuarrel$Reader", 116, "debt", 14), ("GraftQuarrel$Reader", 206, "of", 15), ("GraftQuarrel$Reader", 214, "vigour", 16), ("GraftQuarrel$Reader", 218, "on", 17), ("GraftQuarrel$Reader", 223, "odds", 18), ("GraftQuarrel$Reader", 229, "season", 19), ("GraftQuarrel$Reader", 231, "feeds", 20), ("GraftQuarrelModel", 137, "valley", 0), ("GraftQuarrelModel", 243, "winter", 7), ("GraftQuarrelModel", 249, "bears", 8), ("GraftQuarrelModel", 251, "coins", 9), ("GraftQuarrelModel", 139, "family", 1), ("GraftQuarrelModel", 141, "quarrel", 2), ("GraftQuarrelModel", 143, "law", 3), ("GraftQuarrelModel", 145, "deed", 4), ("GraftQuarrelModel", 147, "pot", 5), ("GraftQuarrelModel", 149, "fell", 6), ("GraftQuarrelModel", 256, "people", 10), ("GraftQuarrelModel", 178, "land", 11), ("GraftQuarrelModel", 180, "word", 12), ("GraftQuarrelModel", 182, "love", 13), ("GraftQuarrelModel", 184, "debt", 14), ("GraftQuarrelModel", 261, "of", 15), ("GraftQuarrelModel", 266, "vigour", 16), ("GraftQuarrelModel", 268, "on", 17), ("GraftQuarrelModel", 270, "odds", 18), ("GraftQuarrelModel", 274, "season", 19), ("GraftQuarrelModel", 276, "feeds", 20)]
def am_sb : List (List Int32) := [[118, 97, 108, 108, 101, 121], [102, 97, 109, 105, 108, 121], [113, 117, 97, 114, 114, 101, 108], [108, 97, 119], [100, 101, 101, 100], [112, 111, 116], [102, 101, 108, 108], [119, 105, 110, 116, 101, 114], [98, 101, 97, 114, 115], [99, 111, 105, 110, 115], [112, 101, 111, 112, 108, 101], [108, 97, 110, 100], [119, 111, 114, 100], [108, 111, 118, 101], [100, 101, 98, 116], [111, 102], [118, 105, 103, 111, 117, 114], [111, 110], [111, 100, 100, 115], [115, 101, 97, 115, 111, 110], [102, 101, 101, 100, 115]]
def am_sL (C n d : String) (A : Nat → Prop) (U : State) (H : Heap) : Prop := ∃ (c : ClassId) (k : Class) (i : Nat) (f : Field) (a : Nat) (cell : Cell), U.vm.findClass C = some c ∧ U.fieldFound? C n d = some (c, k, i, f) ∧ f.isStatic = true ∧ k.statics = some a ∧ H[a]? = some cell ∧ cell.vm.isStatics = true ∧ cell.cls = c ∧ f.slot < cell.slots.size ∧ k.staticTypes[f.slot]? = some f.type ∧ ¬ A a
theorem am_sL.moved {C n d : String} {A : Nat → Prop} {u U : State} {H : Heap} (hvm : u.vm.Alike U.vm) (h : am_sL C n d A u H) : am_sL C n d A U H := by
  obtain ⟨c, k, i, f, a, cell, h1, h2, h3, h4, h5, h6, h7, h8, h9, h10⟩ := h
  obtain ⟨k', hi', he⟩ := State.fieldFound?_setVm hvm h2
  exact ⟨c, k', i, f, a, cell, by rw [hvm.findClass]; exact h1, hi', h3, by rw [he]; exact h4, h5, h6, h7, h8, by rw [he]; exact h9, h10⟩
theorem am_sL.kept {C n d : String} {A : Nat → Prop} {U : State} {H H1 : Heap} (h : am_sL C n d A U H) (hq : ∀ a : Nat, a < H.size → ¬ A a → H1[a]? = H[a]?) : am_sL C n d A U H1 := by
  obtain ⟨c, k, i, f, a, cell, h1, h2, h3, h4, h5, h6, h7, h8, h9, h10⟩ := h
  exact ⟨c, k, i, f, a, cell, h1, h2, h3, h4, by rw [hq a (Array.getElem?_eq_some_iff.mp h5).1 h10]; exact h5, h6, h7, h8, h9, h10⟩
def am_S (g : am_Gl) (U : State) (H : Heap) : Prop := ∀ i : Nat, i < am_sb.length → va_O "java/lang/String" (g.2.2.2.1 i) (am_A g) U H ∧ va_OF "java/lang/String" "coder" "B" (.int 0) (g.2.2.2.1 i) (am_A g) U H ∧ va_OF "java/lang/String" "value" "[B" (.ref (g.2.2.2.2 i)) (g.2.2.2.1 i) (am_A g) U H ∧ va_T .byte (g.2.2.2.2 i) (am_sb.getD i []).length (fun j => .int ((am_sb.getD i []).getD j 0)) (am_A g) U H
def am_steD : String := "[Ljava/lang/StackTraceElement;"
def am_K (g : am_Gl) (U : State) : Prop := va_K g.1 am_cl (am_tys g) U ∧ (∀ w ∈ am_nw, va_Nw w U) ∧ (∀ q ∈ am_sr, vk_R q.1 q.2.1 q.2.2.1 (g.2.2.2.1 q.2.2.2) U) ∧ am_S g U U.heap ∧ va_Z "java/lang/String" "COMPACT_STRINGS" "Z" (.int 1) (am_A g) U U.heap ∧ va_Zq "jdk/internal/util/Preconditions" "SIOOBE_FORMATTER" "Ljava/util/function/BiFunction;" (am_A g) U U.heap ∧
  (va_Zq "java/lang/Throwable" "UNASSIGNED_STACK" "[Ljava/lang/StackTraceElement;" (am_A g) U U.heap ∧ am_sL "java/lang/Throwable" "UNASSIGNED_STACK" "[Ljava/lang/StackTraceElement;" (am_A g) U U.heap) ∧ (va_Zq "java/lang/Throwable" "SUPPRESSED_SENTINEL" "Ljava/util/List;" (am_A g) U U.heap ∧ am_sL "java/lang/Throwable" "SUPPRESSED_SENTINEL" "Ljava/util/List;" (am_A g) U U.heap) ∧ g.2.2.1 ≤ U.heap.size ∧ va_AO RX2 U ∧ ∀ w ∈ lw_tbl, (w.keepsFace && w.onTables) = true → w.before #[] U = true
theorem am_nest : ∀ w ∈ am_nw, ∃ (a : String) (i : Nat) (x : MethodName) (h : String), w = .methodLinkNest a i x h := by
  intro w hw
  simp only [am_nw, List.mem_cons, List.not_mem_nil, or_false] at hw
  rcases hw with rfl | rfl | rfl | rfl | rfl | rfl | rfl | rfl | rfl <;> exact ⟨_, _, _, _, rfl⟩
-- from a method's entry s to a state U within it, whose heap is H
theorem am_K.go {g : am_Gl} {s U : State} {H : Heap} {locs : List Loc} (h : am_K g s) (hW : s.WarmedH U.vm) (hH : U.heap = H) (hS : va_S (am_A g) s.heap H locs) : am_K g U := by
  obtain ⟨h1, h2, h3, h4, h5, h6, ⟨h7, h7'⟩, ⟨h8, h8'⟩, h9, h10, h11⟩ := h
  subst hH
  refine ⟨va_K.moved hW.alike h1, fun w hw => ?_, fun q hq => (h3 q hq).warm hW, fun i hi => ?_, va_Z.moved hW.alike (h5.kept hS.2.1), va_Zq.moved hW.alike (h6.kept hS.2.1), ⟨va_Zq.moved hW.alike (h7.kept hS.2.1), am_sL.moved hW.alike (h7'.kept hS.2.1)⟩, ⟨va_Zq.moved hW.alike (h8.kept hS.2.1), am_sL.moved hW.alike (h8'.kept hS.2.1)⟩, Nat.le_trans h9 hS.1, va_AO.moved hW.alike h10, fun w hw hf => ?_⟩
  · obtain ⟨a, i, x, hh, rfl⟩ := am_nest w hw
    exact va_Nw.warmM hW (h2 _ hw)
  · obtain ⟨a1, a2, a3, a4⟩ := h4 i hi
    exact ⟨va_O.moved hW.alike (a1.kept hS.2.1), va_OF.moved hW.alike (a2.kept hS.2.1), va_OF.moved hW.alike (a3.kept hS.2.1), va_T.moved hW.alike (a4.kept hS.2.1)⟩
  · have hf2 := hf
    simp only [Bool.and_eq_true] at hf2
    exact va_tabs hf2.2 (rfl : (s.setVm U.vm).vm = U.vm) (Cond.before_shiftedFace (State.Shifted.of_warmed hW) w hf2.1 (h11 w hw hf))
theorem am_K.same {g : am_Gl} {s U : State} (h : am_K g s) (hv : U.vm = s.vm) (hH : U.heap = s.heap) : am_K g U :=
  h.go (H := s.heap) (locs := []) (by rw [hv]; exact State.WarmedH.refl s) hH va_S.rf
def am_Pc (g : am_Gl) (as : List Value) (u : am_St) : Array Value → State → Prop := fun v U => v = (as.map (am_rn g)).toArray ∧ am_R g u U.heap ∧ am_K g U
def am_Qc (g : am_Gl) (r : Option Value) (u : am_St) : Array Value → State → Outcome → State → Prop := fun _ st o t => (o = .returned (r.map (am_rn g)) ∧ am_R g u t.heap) ∧ va_F (am_A g) st t
theorem am_blind {g : am_Gl} {as : List Value} {u : am_St} : FrameBlind (am_Pc g as u) := fun a U fr mk h => ⟨h.1, h.2.1, h.2.2.same rfl rfl⟩
-- a method's contract: whatever its function says of the store, the machine does
def am_M (y : MethodName) (cc : ByteArray) (maxL : Nat) (ret : Option FieldType) (fr lo : Nat) (d : am_D) : Prop :=
  ∀ (l : Launch) (g : am_Gl) (as : List Value) (u u2 : am_St) (r : Option Value), l.stackTraces = false → d as u = some (r, u2) → am_len u ≤ am_len u2 → am_wt u ≤ am_wt u2 →
    Met l y (Cond.code y cc maxL ret :: am_tbl) { frames := fr, cells := am_len u2 - am_len u, slots := am_wt u2 - am_wt u, locals := lo } (am_Pc g as u) (am_Qc g r u2) (am_len u2 - am_len u) (am_wt u2 - am_wt u) (am_A g)
-- code as functions, and what it means that they are right -----
def am_SI (G : Nat → am_C → Prop) (pc pc2 : Nat) (i : am_I) : Prop := ∀ cf cf2, i cf = some cf2 → G pc2 cf2 → G pc cf
def am_SB (G : Nat → am_C → Prop) (pc pt pf : Nat) (b : am_B) : Prop := ∀ cf x cf2, b cf = some (x, cf2) → (x = true → G pt cf2) → (x = false → G pf cf2) → G pc cf
def am_at (G : Nat → am_C → Prop) (Rt : Option Value → am_St → Prop) : am_O → Prop
  | .inl q => G q.1 q.2
  | .inr q => Rt q.1 q.2
def am_Snd (G : Nat → am_C → Prop) (Rt : Option Value → am_St → Prop) (pc : Nat) (f : am_F) : Prop := ∀ cf o, f cf = some o → am_at G Rt o → G pc cf
def am_th (i : am_I) (f : am_F) : am_F := fun cf => (i cf).bind f
def am_to (pc : Nat) : am_F := fun cf => some (.inl (pc, cf))
def am_br (b : am_B) (f h : am_F) : am_F := fun cf => (b cf).bind (fun x => if x.1 = true then f x.2 else h x.2)
def am_sq (j : Nat) (f h : am_F) : am_F := fun cf => (f cf).bind (fun o => match o with
  | .inl q => if q.1 = j then h q.2 else some (.inl q)
  | .inr q => some (.inr q))
def am_lp : Nat → Nat → am_F → am_F
  | 0, _, _ => fun _ => none
  | n + 1, j, f => fun cf => (f cf).bind (fun o => match o with
    | .inl q => if q.1 = j then am_lp n j f q.2 else some (.inl q)
    | .inr q => some (.inr q))
section
variable {G : Nat → am_C → Prop} {Rt : Option Value → am_St → Prop}
theorem so_th {pc pc2 : Nat} {i : am_I} {f : am_F} (hi : am_SI G pc pc2 i) (hf : am_Snd G Rt pc2 f) : am_Snd G Rt pc (am_th i f) := by
  intro cf o h ho
  obtain ⟨c2, h1, h2⟩ := Option.bind_eq_some_iff.mp h
  exact hi cf c2 h1 (hf c2 o h2 ho)
theorem so_to {pc : Nat} : am_Snd G Rt pc (am_to pc) := by
  intro cf o h ho
  cases h
  exact ho
theorem so_br {pc pt pf : Nat} {b : am_B} {f h : am_F} (hb : am_SB G pc pt pf b) (hf : am_Snd G Rt pt f) (hh : am_Snd G Rt pf h) : am_Snd G Rt pc (am_br b f h) := by
  intro cf o ho hat
  obtain ⟨⟨x, c2⟩, h1, h2⟩ := Option.bind_eq_some_iff.mp ho
  refine hb cf x c2 h1 (fun hx => ?_) (fun hx => ?_)
  · subst hx
    exact hf c2 o h2 hat
  · subst hx
    exact hh c2 o h2 hat
theorem so_sq {pc j : Nat} {f h : am_F} (hf : am_Snd G Rt pc f) (hh : am_Snd G Rt j h) : am_Snd G Rt pc (am_sq j f h) := by
  intro cf o ho hat
  obtain ⟨o1, h1, h2⟩ := Option.bind_eq_some_iff.mp ho
  refine hf cf o1 h1 ?_
  match o1, h2 with
  | .inl q, h2 =>
    by_cases e : q.1 = j
    · simp only [e, if_true] at h2
      have := hh q.2 o h2 hat
      show G q.1 q.2
      rw [e]
      exact this
    · simp only [e, if_false] at h2
      cases h2
      exact hat
  | .inr q, h2 =>
    cases h2
    exact hat
theorem so_lp {j : Nat} {f : am_F} (hf : am_Snd G Rt j f) : ∀ n, am_Snd G Rt j (am_lp n j f) := by
  intro n
  induction n with
  | zero => intro cf o h; cases h
  | succ n ih =>
    intro cf o ho hat
    obtain ⟨o1, h1, h2⟩ := Option.bind_eq_some_iff.mp ho
    refine hf cf o1 h1 ?_
    match o1, h2 with
    | .inl q, h2 =>
      by_cases e : q.1 = j
      · simp only [e, if_true] at h2
        have := ih q.2 o h2 hat
        show G q.1 q.2
        rw [e]
        exact this
      · simp only [e, if_false] at h2
        cases h2
        exact hat
    | .inr q, h2 =>
      cases h2
      exact hat
end
