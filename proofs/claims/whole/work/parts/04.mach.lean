-- instructions as functions
def am_kill (L : List (Option Value)) : Nat → List (Option Value)
  | 0 => L
  | j + 1 => match L[j]? with
    | some (some v) => if v.category = 2 then L.set j none else L
    | _ => L
def am_uI (u : am_St) (k j : Nat) (x : Int32) : am_St := (u.1, va_up u.2.1 k (va_up (u.2.1 k) j x), u.2.2)
def am_uJ (u : am_St) (k j : Nat) (x : Int64) : am_St := (u.1, u.2.1, va_up u.2.2.1 k (va_up (u.2.2.1 k) j x), u.2.2.2)
def am_uR (u : am_St) (k j : Nat) (x : Option Nat) : am_St := (u.1, u.2.1, u.2.2.1, va_up u.2.2.2 k (va_up (u.2.2.2 k) j x))
def am_new (u : am_St) (kd n : Nat) : am_St := ((u.1.1 ++ [(kd, n)], u.1.2.1, u.1.2.2.1 + 1, u.1.2.2.2 + n), va_up u.2.1 u.1.1.length (fun _ => 0), va_up u.2.2.1 u.1.1.length (fun _ => 0), va_up u.2.2.2 u.1.1.length (fun _ => none))
def i_ic (v : Int32) : am_I := fun cf => some (cf.1, .int v :: cf.2.1, cf.2.2)
def i_lc (v : Int64) : am_I := fun cf => some (cf.1, .long v :: cf.2.1, cf.2.2)
def i_sg (n : Nat) : am_I := fun cf => some (cf.1, .ref (1000000 + n) :: cf.2.1, cf.2.2)
def i_il (k : Nat) : am_I := fun cf => match cf.1[k]? with
  | some (some (.int x)) => some (cf.1, .int x :: cf.2.1, cf.2.2)
  | _ => none
def i_ll (k : Nat) : am_I := fun cf => match cf.1[k]? with
  | some (some (.long x)) => some (cf.1, .long x :: cf.2.1, cf.2.2)
  | _ => none
def i_al (k : Nat) : am_I := fun cf => match cf.1[k]? with
  | some (some (.ref x)) => some (cf.1, .ref x :: cf.2.1, cf.2.2)
  | _ => none
def i_is (k : Nat) : am_I := fun cf => match cf.2.1 with
  | .int x :: r => some ((am_kill cf.1 k).set k (some (.int x)), r, cf.2.2)
  | _ => none
def i_as (k : Nat) : am_I := fun cf => match cf.2.1 with
  | .ref x :: r => some ((am_kill cf.1 k).set k (some (.ref x)), r, cf.2.2)
  | _ => none
def i_ls (k : Nat) : am_I := fun cf => match cf.2.1 with
  | .long x :: r => some (((am_kill cf.1 k).set k (some (.long x))).set (k + 1) none, r, cf.2.2)
  | _ => none
def i_inc (k : Nat) (n : Int32) : am_I := fun cf => match cf.1[k]? with
  | some (some (.int x)) => some ((am_kill cf.1 k).set k (some (.int (x + n))), cf.2.1, cf.2.2)
  | _ => none
def i_1 (f : Int32 → Int32) : am_I := fun cf => match cf.2.1 with
  | .int x :: r => some (cf.1, .int (f x) :: r, cf.2.2)
  | _ => none
def i_2 (f : Int32 → Int32 → Int32) : am_I := fun cf => match cf.2.1 with
  | .int y :: .int x :: r => some (cf.1, .int (f x y) :: r, cf.2.2)
  | _ => none
def i_2n (f : Int32 → Int32 → Int32) : am_I := fun cf => match cf.2.1 with
  | .int y :: .int x :: r => if y = 0 then none else some (cf.1, .int (f x y) :: r, cf.2.2)
  | _ => none
def j_2 (f : Int64 → Int64 → Int64) : am_I := fun cf => match cf.2.1 with
  | .long y :: .long x :: r => some (cf.1, .long (f x y) :: r, cf.2.2)
  | _ => none
def j_2n (f : Int64 → Int64 → Int64) : am_I := fun cf => match cf.2.1 with
  | .long y :: .long x :: r => if y = 0 then none else some (cf.1, .long (f x y) :: r, cf.2.2)
  | _ => none
def j_cmp : am_I := fun cf => match cf.2.1 with
  | .long y :: .long x :: r => some (cf.1, .int (lg_cmp x y) :: r, cf.2.2)
  | _ => none
def i_i2l : am_I := fun cf => match cf.2.1 with
  | .int x :: r => some (cf.1, .long x.toInt64 :: r, cf.2.2)
  | _ => none
def i_dup : am_I := fun cf => match cf.2.1 with
  | v :: r => if v.category = 1 then some (cf.1, v :: v :: r, cf.2.2) else none
  | _ => none
def i_dup2 : am_I := fun cf => match cf.2.1 with
  | v :: w :: r => if v.category = 1 ∧ w.category = 1 then some (cf.1, v :: w :: v :: w :: r, cf.2.2) else none
  | _ => none
def i_pop : am_I := fun cf => match cf.2.1 with
  | v :: r => if v.category = 1 then some (cf.1, r, cf.2.2) else none
  | _ => none
def i_oi : am_I := fun cf => match cf.2.1 with
  | .ref _ :: r => if (r.map fun v => v.category).sum ≤ 8 then some (cf.1, r, cf.2.2) else none
  | _ => none
def i_mx (f : Int32 → Int32 → Int32) : am_I := fun cf => match cf.2.1 with
  | .int y :: .int x :: r => if (r.map fun v => v.category).sum ≤ 8 then some (cf.1, .int (f x y) :: r, cf.2.2) else none
  | _ => none
def i_gi (c j : Nat) : am_I := fun cf => match cf.2.1 with
  | .ref k :: r => if (cf.2.2.1.1[k]?).map Prod.fst = some (c + 4) then some (cf.1, .int (cf.2.2.2.1 k j) :: r, cf.2.2) else none
  | _ => none
def i_gl (c j : Nat) : am_I := fun cf => match cf.2.1 with
  | .ref k :: r => if (cf.2.2.1.1[k]?).map Prod.fst = some (c + 4) then some (cf.1, .long (cf.2.2.2.2.1 k j) :: r, cf.2.2) else none
  | _ => none
def i_gr (c j : Nat) : am_I := fun cf => match cf.2.1 with
  | .ref k :: r => if (cf.2.2.1.1[k]?).map Prod.fst = some (c + 4) then some (cf.1, va_rf (cf.2.2.2.2.2 k j) :: r, cf.2.2) else none
  | _ => none
def i_pi (c j : Nat) : am_I := fun cf => match cf.2.1 with
  | .int x :: .ref k :: r => if (cf.2.2.1.1[k]?).map Prod.fst = some (c + 4) then some (cf.1, r, am_uI cf.2.2 k j x) else none
  | _ => none
def i_pz (c j : Nat) : am_I := fun cf => match cf.2.1 with
  | .int x :: .ref k :: r => if (cf.2.2.1.1[k]?).map Prod.fst = some (c + 4) ∧ (x = 0 ∨ x = 1) then some (cf.1, r, am_uI cf.2.2 k j x) else none
  | _ => none
def i_pl (c j : Nat) : am_I := fun cf => match cf.2.1 with
  | .long x :: .ref k :: r => if (cf.2.2.1.1[k]?).map Prod.fst = some (c + 4) then some (cf.1, r, am_uJ cf.2.2 k j x) else none
  | _ => none
def i_pr (c j : Nat) : am_I := fun cf => match cf.2.1 with
  | .ref x :: .ref k :: r => if (cf.2.2.1.1[k]?).map Prod.fst = some (c + 4) then some (cf.1, r, am_uR cf.2.2 k j (some x)) else none
  | _ => none
/-- a row of ints (t = 0), of bytes (t = 1) -/
def i_ia (t : Nat) : am_I := fun cf => match cf.2.1 with
  | .int i :: .ref k :: r => match cf.2.2.1.1[k]? with
    | some (a, n) => if a = t ∧ ¬ (i < 0 ∨ n ≤ i.toNatClampNeg) then some (cf.1, .int (cf.2.2.2.1 k i.toNatClampNeg) :: r, cf.2.2) else none
    | none => none
  | _ => none
def i_la : am_I := fun cf => match cf.2.1 with
  | .int i :: .ref k :: r => match cf.2.2.1.1[k]? with
    | some (a, n) => if a = 2 ∧ ¬ (i < 0 ∨ n ≤ i.toNatClampNeg) then some (cf.1, .long (cf.2.2.2.2.1 k i.toNatClampNeg) :: r, cf.2.2) else none
    | none => none
  | _ => none
def i_aa : am_I := fun cf => match cf.2.1 with
  | .int i :: .ref k :: r => match cf.2.2.1.1[k]? with
    | some (a, n) => if a = 3 ∧ ¬ (i < 0 ∨ n ≤ i.toNatClampNeg) then some (cf.1, va_rf (cf.2.2.2.2.2 k i.toNatClampNeg) :: r, cf.2.2) else none
    | none => none
  | _ => none
def i_iS : am_I := fun cf => match cf.2.1 with
  | .int x :: .int i :: .ref k :: r => match cf.2.2.1.1[k]? with
    | some (a, n) => if a = 0 ∧ ¬ (i < 0 ∨ n ≤ i.toNatClampNeg) then some (cf.1, r, am_uI cf.2.2 k i.toNatClampNeg x) else none
    | none => none
  | _ => none
def i_bS : am_I := fun cf => match cf.2.1 with
  | .int x :: .int i :: .ref k :: r => match cf.2.2.1.1[k]? with
    | some (a, n) => if a = 1 ∧ ¬ (i < 0 ∨ n ≤ i.toNatClampNeg) then some (cf.1, r, am_uI cf.2.2 k i.toNatClampNeg x.toInt8.toInt32) else none
    | none => none
  | _ => none
def i_lS : am_I := fun cf => match cf.2.1 with
  | .long x :: .int i :: .ref k :: r => match cf.2.2.1.1[k]? with
    | some (a, n) => if a = 2 ∧ ¬ (i < 0 ∨ n ≤ i.toNatClampNeg) then some (cf.1, r, am_uJ cf.2.2 k i.toNatClampNeg x) else none
    | none => none
  | _ => none
def i_aS : am_I := fun cf => match cf.2.1 with
  | .ref v :: .int i :: .ref k :: r => match cf.2.2.1.1[k]? with
    | some (a, n) => if (a = 3 ∧ (cf.2.2.1.1[v]?).map Prod.fst = some 6) ∧ ¬ (i < 0 ∨ n ≤ i.toNatClampNeg) then some (cf.1, r, am_uR cf.2.2 k i.toNatClampNeg (some v)) else none
    | none => none
  | _ => none
def i_len : am_I := fun cf => match cf.2.1 with
  | .ref k :: r => match cf.2.2.1.1[k]? with
    | some (a, n) => if a < 4 then some (cf.1, .int (Int32.ofNat n) :: r, cf.2.2) else none
    | none => none
  | _ => none
def i_new (c n : Nat) : am_I := fun cf => if cf.2.2.1.2.1 = true ∧ cf.2.2.1.1.length < 1000000 then some (cf.1, .ref cf.2.2.1.1.length :: cf.2.1, am_new cf.2.2 (c + 4) n) else none
def i_na (t : Nat) : am_I := fun cf => match cf.2.1 with
  | .int n :: r => if (cf.2.2.1.2.1 = true ∧ cf.2.2.1.1.length < 1000000) ∧ ¬ n < 0 ∧ n.toNatClampNeg ≤ 65536 then some (cf.1, .ref cf.2.2.1.1.length :: r, am_new cf.2.2 t n.toNatClampNeg) else none
  | _ => none
/-- calls: n values are taken off the stack -/
def am_ok (r : List Value) (u u2 : am_St) : Bool := decide ((r.map fun v => v.category).sum ≤ 8) && decide (am_len u ≤ am_len u2) && decide (am_wt u ≤ am_wt u2)
def i_cs (n : Nat) (d : am_D) : am_I := fun cf => if n ≤ cf.2.1.length then
    (d (cf.2.1.take n).reverse cf.2.2).bind (fun q => if am_ok (cf.2.1.drop n) cf.2.2 q.2 = true then some (cf.1, q.1.toList ++ cf.2.1.drop n, q.2) else none)
  else none
def i_cv (c n : Nat) (d : am_D) : am_I := fun cf => match cf.2.1[n]? with
  | some (.ref k) => if (cf.2.2.1.1[k]?).map Prod.fst = some (c + 4) then i_cs (n + 1) d cf else none
  | _ => none
def i_ct (n : Nat) (d : am_D) : am_I := fun cf => match cf.2.1[n]? with
  | some (.ref k) => if 1000000 ≤ k ∧ k < 1000000 + am_sb.length then i_cs (n + 1) d cf else none
  | _ => none
def b_1 (P : Int32 → Bool) : am_B := fun cf => match cf.2.1 with
  | .int x :: r => some (P x, cf.1, r, cf.2.2)
  | _ => none
def b_2 (P : Int32 → Int32 → Bool) : am_B := fun cf => match cf.2.1 with
  | .int y :: .int x :: r => some (P x y, cf.1, r, cf.2.2)
  | _ => none
def am_sw (lo : Int) (fs : List am_F) (d : am_F) : am_F := fun cf => match cf.2.1 with
  | .int x :: r => if x.toInt < lo then d (cf.1, r, cf.2.2) else match fs[(x.toInt - lo).toNat]? with
    | some f => f (cf.1, r, cf.2.2)
    | none => d (cf.1, r, cf.2.2)
  | _ => none
def r_v : am_F := fun cf => match cf.2.1 with
  | [] => some (.inr (none, cf.2.2))
  | _ => none
def r_i : am_F := fun cf => match cf.2.1 with
  | [.int x] => some (.inr (some (.int x), cf.2.2))
  | _ => none
def r_z : am_F := fun cf => match cf.2.1 with
  | [.int x] => if x = 0 ∨ x = 1 then some (.inr (some (.int x), cf.2.2)) else none
  | _ => none
def r_l : am_F := fun cf => match cf.2.1 with
  | [.long x] => some (.inr (some (.long x), cf.2.2))
  | _ => none
/-- the locals at a method's entry -/
def am_ent : List Value → List (Option Value)
  | [] => []
  | v :: r => if v.category = 2 then some v :: none :: am_ent r else some v :: am_ent r
def am_den (nL : Nat) (f : am_F) : am_D := fun as u => if (am_ent as).length ≤ nL then (match f (am_ent as ++ List.replicate (nL - (am_ent as).length) none, [], u) with
  | some (.inr q) => some q
  | _ => none) else none
-- the locals of the machine and of the abstract one
def am_ll (g : am_Gl) (L : List (Option Value)) : List (Nat × Value) := (List.range L.length).filterMap (fun i => (L[i]?.join).map (fun v => (i, am_rn g v)))
theorem am_ll_mem {g : am_Gl} {L : List (Option Value)} {j : Nat} {w : Value} : (j, w) ∈ am_ll g L ↔ ∃ v, L[j]? = some (some v) ∧ w = am_rn g v := by
  unfold am_ll
  rw [List.mem_filterMap]
  constructor
  · rintro ⟨i, hi, h⟩
    cases hx : L[i]? with
    | none => simp [hx] at h
    | some o =>
      cases o with
      | none => simp [hx] at h
      | some v =>
        simp [hx] at h
        obtain ⟨rfl, rfl⟩ := h
        exact ⟨v, hx, rfl⟩
  · rintro ⟨v, h1, rfl⟩
    exact ⟨j, List.mem_range.mpr (List.getElem?_eq_some_iff.mp h1).1, by simp [h1]⟩
def am_lv (g : am_Gl) (ls : Array Slot) (nL : Nat) (L : List (Option Value)) : Prop := L.length = nL ∧ lv_has ls nL (am_ll g L)
theorem am_lv.get {g : am_Gl} {ls : Array Slot} {nL : Nat} {L : List (Option Value)} (h : am_lv g ls nL L) {i : Nat} {v : Value} (hv : L[i]? = some (some v)) : ls[i]? = some (.val (am_rn g v)) := h.2.2.2 (i, am_rn g v) (am_ll_mem.mpr ⟨v, hv, rfl⟩)
theorem am_kill_len (L : List (Option Value)) (i : Nat) : (am_kill L i).length = L.length := by
  cases i with
  | zero => rfl
  | succ j =>
    simp only [am_kill]
    split
    · split <;> simp
    · rfl
theorem am_kill_get {L : List (Option Value)} {i j : Nat} {v : Value} (h : (am_kill L i)[j]? = some (some v)) : L[j]? = some (some v) ∧ ¬ (j + 1 = i ∧ v.category = 2) := by
  cases i with
  | zero => exact ⟨h, fun q => by omega⟩
  | succ k =>
    unfold am_kill at h
    cases hx : L[k]? with
    | none =>
      simp only [hx] at h
      refine ⟨h, fun q => ?_⟩
      have : j = k := by omega
      subst this
      rw [hx] at h
      cases h
    | some o =>
      cases o with
      | none =>
        simp only [hx] at h
        refine ⟨h, fun q => ?_⟩
        have : j = k := by omega
        subst this
        rw [hx] at h
        cases h
      | some w =>
        simp only [hx] at h
        by_cases hc : w.category = 2
        · rw [if_pos hc, List.getElem?_set] at h
          by_cases e : k = j
          · subst e
            simp only [if_true] at h
            split at h
            · cases h
            · cases h
          · rw [if_neg e] at h
            exact ⟨h, fun q => by omega⟩
        · rw [if_neg hc] at h
          refine ⟨h, fun q => ?_⟩
          have : j = k := by omega
          subst this
          rw [hx] at h
          cases h
          exact hc q.2
theorem am_lv.st1 {g : am_Gl} {ls : Array Slot} {nL i : Nat} {L : List (Option Value)} {v : Value} (h : L.length = nL) (hl : lv_has ls nL ((i, am_rn g v) :: (am_ll g L).filter (fun q => !(q.1 == i) && !(q.1 + 1 == i && q.2.category == 2)))) : am_lv g ls nL ((am_kill L i).set i (some v)) := by
  refine ⟨by simp [am_kill_len, h], hl.1, hl.2.1, fun q hq => ?_⟩
  obtain ⟨j, w⟩ := q
  obtain ⟨v2, h1, rfl⟩ := am_ll_mem.mp hq
  rw [List.getElem?_set] at h1
  by_cases e : i = j
  · subst e
    simp only [if_true] at h1
    split at h1
    · cases h1
      exact hl.2.2 _ List.mem_cons_self
    · cases h1
  · rw [if_neg e] at h1
    obtain ⟨h2, h3⟩ := am_kill_get h1
    refine hl.2.2 _ (List.mem_cons_of_mem _ (List.mem_filter.mpr ⟨am_ll_mem.mpr ⟨v2, h2, rfl⟩, ?_⟩))
    simp only [Bool.and_eq_true, Bool.not_eq_true', beq_eq_false_iff_ne, ne_eq, Bool.and_eq_false_iff, am_rn_cat]
    refine ⟨fun q => e q.symm, ?_⟩
    by_cases q : j + 1 = i
    · exact Or.inr (fun z => h3 ⟨q, z⟩)
    · exact Or.inl q
theorem am_lv.st2 {g : am_Gl} {ls : Array Slot} {nL i : Nat} {L : List (Option Value)} {v : Value} (h : L.length = nL) (hl : lv_has ls nL ((i, am_rn g v) :: (am_ll g L).filter (fun q => !(q.1 == i) && (!(q.1 == i + 1) && !(q.1 + 1 == i && q.2.category == 2))))) : am_lv g ls nL (((am_kill L i).set i (some v)).set (i + 1) none) := by
  refine ⟨by simp [am_kill_len, h], hl.1, hl.2.1, fun q hq => ?_⟩
  obtain ⟨j, w⟩ := q
  obtain ⟨v2, h1, rfl⟩ := am_ll_mem.mp hq
  rw [List.getElem?_set] at h1
  by_cases e1 : i + 1 = j
  · subst e1
    simp only [if_true] at h1
    split at h1 <;> cases h1
  rw [if_neg e1, List.getElem?_set] at h1
  by_cases e : i = j
  · subst e
    simp only [if_true] at h1
    split at h1
    · cases h1
      exact hl.2.2 _ List.mem_cons_self
    · cases h1
  · rw [if_neg e] at h1
    obtain ⟨h2, h3⟩ := am_kill_get h1
    refine hl.2.2 _ (List.mem_cons_of_mem _ (List.mem_filter.mpr ⟨am_ll_mem.mpr ⟨v2, h2, rfl⟩, ?_⟩))
    simp only [Bool.and_eq_true, Bool.not_eq_true', beq_eq_false_iff_ne, ne_eq, Bool.and_eq_false_iff, am_rn_cat]
    refine ⟨fun q => e q.symm, fun q => e1 q.symm, ?_⟩
    by_cases q : j + 1 = i
    · exact Or.inr (fun z => h3 ⟨q, z⟩)
    · exact Or.inl q
theorem am_ent_at (g : am_Gl) : ∀ (as : List Value) (i : Nat) (pre : List (Option Value)), pre.length = i → ∀ (j : Nat) (v : Value), i ≤ j → (pre ++ am_ent as)[j]? = some (some v) → (j, am_rn g v) ∈ lv_args i (as.map (am_rn g)) := by
  intro as
  induction as with
  | nil =>
    intro i pre hp j v hj h
    simp only [am_ent, List.append_nil] at h
    have := (List.getElem?_eq_some_iff.mp h).1
    omega
  | cons a as ih =>
    intro i pre hp j v hj h
    simp only [List.map_cons, lv_args, am_rn_cat]
    unfold am_ent at h
    by_cases hc : a.category = 2
    · rw [if_pos hc] at h
      rw [if_pos hc]
      by_cases e : j = i
      · subst e
        rw [List.getElem?_append_right (by omega)] at h
        simp [hp] at h
        subst h
        exact List.mem_cons_self
      · by_cases e1 : j = i + 1
        · subst e1
          rw [List.getElem?_append_right (by omega)] at h
          simp [hp] at h
        · refine List.mem_cons_of_mem _ (ih (i + 2) (pre ++ [some a, none]) (by simp [hp]) j v (by omega) ?_)
          simpa using h
    · rw [if_neg hc] at h
      rw [if_neg hc]
      by_cases e : j = i
      · subst e
        rw [List.getElem?_append_right (by omega)] at h
        simp [hp] at h
        subst h
        exact List.mem_cons_self
      · refine List.mem_cons_of_mem _ (ih (i + 1) (pre ++ [some a]) (by simp [hp]) j v (by omega) ?_)
        simpa using h
theorem am_ent_len (g : am_Gl) : ∀ as : List Value, (lg_sl (as.map (am_rn g))).length = (am_ent as).length := by
  intro as
  induction as with
  | nil => rfl
  | cons a as ih =>
    unfold am_ent
    unfold lg_sl at ih ⊢
    simp only [List.map_cons, List.flatMap_cons, List.length_append, ih, am_rn_cat]
    split <;> simp <;> omega
theorem am_lv_entry (g : am_Gl) (as : List Value) {nL : Nat} (h : (am_ent as).length ≤ nL) : am_lv g ((lg_sl (as.map (am_rn g)) ++ List.replicate (nL - (lg_sl (as.map (am_rn g))).length) Slot.unset).toArray) nL (am_ent as ++ List.replicate (nL - (am_ent as).length) none) := by
  have h0 := lv_entry (as.map (am_rn g)) (n := nL) (by rw [am_ent_len]; exact h)
  refine ⟨by simp; omega, h0.1, h0.2.1, fun q hq => ?_⟩
  obtain ⟨j, w⟩ := q
  obtain ⟨v, h1, rfl⟩ := am_ll_mem.mp hq
  refine h0.2.2 _ ?_
  have h2 : (am_ent as)[j]? = some (some v) := by
    by_cases e : j < (am_ent as).length
    · rw [List.getElem?_append_left e] at h1
      exact h1
    · rw [List.getElem?_append_right (by omega), List.getElem?_replicate] at h1
      split at h1 <;> cases h1
  exact am_ent_at g as 0 [] rfl j v (Nat.zero_le _) (by simpa using h2)
