-- the search
abbrev nS : Type := List (Nat × Nat) × Nat
def bupd (B : Option nS) (x : nS) : Option nS := match B with
  | none => some x
  | some y => if y.1.length < x.1.length ∨ (y.1.length = x.1.length ∧ y.2 < x.2) then some x else some y
def lb (f : Nat → Nat → Option nS → Option nS) (a : Nat) (B : Option nS) : Nat → Option nS
  | 0 => B
  | b + 1 => f a b (lb f a B b)
def lo (f : Nat → Nat → Option nS → Option nS) (m : Nat) (B : Option nS) : Nat → Option nS
  | 0 => B
  | a + 1 => lb f a (lo f m B a) m
def chl (V : vS) (r : Nat → Nat) (x : nS) (a b : Nat) : nS := (x.1 ++ [(10 * a + b, od V r a b)], x.2 * od V r a b)
def srch (V : vS) : Nat → (Nat → Nat) → nS → Option nS → Option nS
  | 0 => fun _ x B => bupd B x
  | n + 1 => fun r x B => lo (fun a b B => if od V r a b = 0 then B else srch V n (jn r a b) (chl V r x a b) B) (v_Q V) (bupd B x) (v_Q V)
def cbb (V : vS) (top : Nat) (r : Nat → Nat) (x : nS) (B : Option nS) : Bool := match B with
  | none => true
  | some y => if x.1.length + more V r = y.1.length then decide (y.2 < x.2 * top ^ more V r) else decide (y.1.length < x.1.length + more V r)
def psr (V : vS) (top : Nat) : Nat → (Nat → Nat) → nS → Option nS → Option nS
  | 0 => fun _ x B => bupd B x
  | n + 1 => fun r x B => if cbb V top r x (bupd B x) = true then lo (fun a b B => if od V r a b = 0 then B else psr V top n (jn r a b) (chl V r x a b) B) 6 (bupd B x) 6 else bupd B x
section
variable {V : vS} {E : xE} {r : Nat → Nat} {f g : Nat → Nat → Option nS → Option nS} {a b m : Nat} {B : Option nS} {x y : nS}
theorem lb_c (h : ∀ b, b < m → ∀ B, f a b B = g a b B) : ∀ n, n ≤ m → lb f a B n = lb g a B n
  | 0, _ => rfl
  | n + 1, hn => by
    show f a n (lb f a B n) = g a n (lb g a B n)
    rw [lb_c h n (by omega), h n (by omega)]
theorem lo_c (h : ∀ a b, a < m → b < m → ∀ B, f a b B = g a b B) : ∀ n, n ≤ m → lo f m B n = lo g m B n
  | 0, _ => rfl
  | n + 1, hn => by
    show lb f n (lo f m B n) m = lb g n (lo g m B n) m
    rw [lo_c h n (by omega)]
    exact lb_c (fun b hb B => h n b (by omega) hb B) m (Nat.le_refl _)
theorem lb_id (h : ∀ b, b < m → f a b B = B) : ∀ n, n ≤ m → lb f a B n = B
  | 0, _ => rfl
  | n + 1, hn => by
    show f a n (lb f a B n) = B
    rw [lb_id h n (by omega), h n (by omega)]
theorem lo_id (h : ∀ a b, a < m → b < m → f a b B = B) : ∀ n, n ≤ m → lo f m B n = B
  | 0, _ => rfl
  | n + 1, hn => by
    show lb f n (lo f m B n) m = B
    rw [lo_id h n (by omega)]
    exact lb_id (fun b hb => h n b (by omega) hb) m (Nat.le_refl _)
theorem lb_m {Q : Nat} (h : ∀ b B, Q ≤ b → f a b B = B) : ∀ n, Q ≤ n → lb f a B n = lb f a B Q
  | 0, hn => by
    have : Q = 0 := by omega
    rw [this]
  | n + 1, hn => by
    by_cases e : Q = n + 1
    · rw [e]
    · show f a n (lb f a B n) = _
      rw [h n _ (by omega), lb_m h n (by omega)]
theorem lo_m {Q M : Nat} (hQ : Q ≤ M) (h : ∀ a b B, Q ≤ a ∨ Q ≤ b → f a b B = B) : ∀ n, n ≤ Q → lo f M B n = lo f Q B n
  | 0, _ => rfl
  | n + 1, hn => by
    show lb f n (lo f M B n) M = lb f n (lo f Q B n) Q
    rw [lo_m hQ h n (by omega)]
    exact lb_m (fun b B hb => h n b B (Or.inr hb)) M hQ
theorem lo_n {Q M : Nat} (h : ∀ a b B, Q ≤ a ∨ Q ≤ b → f a b B = B) : ∀ n, Q ≤ n → lo f M B n = lo f M B Q
  | 0, hn => by
    have : Q = 0 := by omega
    rw [this]
  | n + 1, hn => by
    by_cases e : Q = n + 1
    · rw [e]
    · show lb f n (lo f M B n) M = _
      rw [lb_id (m := M) (fun b hb => h n b _ (Or.inl (by omega))) M (Nat.le_refl _), lo_n h n (by omega)]
theorem lo_6 {Q M : Nat} (hQ : Q ≤ M) (h : ∀ a b B, Q ≤ a ∨ Q ≤ b → f a b B = B) : lo f M B M = lo f Q B Q := by
  rw [lo_n h M hQ, lo_m hQ h Q (Nat.le_refl _)]
theorem upd_some : ∃ y, bupd B x = some y := by
  unfold bupd
  match B with
  | none => exact ⟨x, rfl⟩
  | some y =>
    try dsimp only
    split
    · exact ⟨x, rfl⟩
    · exact ⟨y, rfl⟩
theorem upd_upd : bupd (bupd B x) x = bupd B x := by
  obtain ⟨y, hy⟩ := upd_some (B := B) (x := x)
  rw [hy]
  show (if y.1.length < x.1.length ∨ (y.1.length = x.1.length ∧ y.2 < x.2) then some x else some y) = some y
  by_cases c : y.1.length < x.1.length ∨ (y.1.length = x.1.length ∧ y.2 < x.2)
  · exfalso
    unfold bupd at hy
    match B with
    | none =>
      dsimp only at hy
      cases hy
      omega
    | some z =>
      dsimp only at hy
      split at hy
      · cases hy
        omega
      · next h =>
        cases hy
        exact h c
  · rw [if_neg c]
theorem od_out (h : v_Q V ≤ a ∨ v_Q V ≤ b) : od V r a b = 0 := by
  unfold od
  rw [if_neg (by omega)]
/-- nothing better hangs there -/
theorem srch_skip (hE : VE V E) {P : Int32} {y : nS} : ∀ n r x, KI V P r → (x.1.length + more V r < y.1.length ∨ (x.1.length + more V r = y.1.length ∧ x.2 * grt V P P 16 ^ more V r ≤ y.2)) → srch V n r x (some y) = some y := by
  have hu : ∀ r (x : nS), (x.1.length + more V r < y.1.length ∨ (x.1.length + more V r = y.1.length ∧ x.2 * grt V P P 16 ^ more V r ≤ y.2)) → bupd (some y) x = some y := by
    intro r x h
    show (if y.1.length < x.1.length ∨ (y.1.length = x.1.length ∧ y.2 < x.2) then some x else some y) = some y
    rw [if_neg]
    rintro (c | ⟨c1, c2⟩)
    · omega
    · rcases h with h | ⟨h1, h2⟩
      · omega
      · have hm : more V r = 0 := by omega
        rw [hm, Nat.pow_zero, Nat.mul_one] at h2
        omega
  intro n
  induction n with
  | zero =>
    intro r x hK h
    exact hu r x h
  | succ n ih =>
    intro r x hK h
    show lo (fun a b B => if od V r a b = 0 then B else srch V n (jn r a b) (chl V r x a b) B) (v_Q V) (bupd (some y) x) (v_Q V) = some y
    rw [hu r x h]
    refine lo_id (fun a b ha hb => ?_) _ (Nat.le_refl _)
    try dsimp only
    by_cases c : od V r a b = 0
    · rw [if_pos c]
    · rw [if_neg c]
      have hm := more_jn hE c
      have ht := od_top hE hK c
      have hl : (chl V r x a b).1.length = x.1.length + 1 := by simp [chl]
      refine ih _ _ (ki_jn hE hK c) ?_
      rw [hl]
      rcases h with h | ⟨h1, h2⟩
      · exact Or.inl (by omega)
      · refine Or.inr ⟨by omega, Nat.le_trans ?_ h2⟩
        show x.2 * od V r a b * grt V P P 16 ^ more V (jn r a b) ≤ _
        rw [← hm, Nat.pow_succ, Nat.mul_assoc]
        refine Nat.mul_le_mul (Nat.le_refl _) ?_
        rw [Nat.mul_comm]
        exact Nat.mul_le_mul (Nat.le_refl _) ht
theorem psr_srch (hE : VE V E) {P : Int32} : ∀ n r x B, KI V P r → psr V (grt V P P 16) n r x B = srch V n r x B := by
  intro n
  induction n with
  | zero => intro r x B hK; rfl
  | succ n ih =>
    intro r x B hK
    show (if cbb V (grt V P P 16) r x (bupd B x) = true then lo (fun a b B => if od V r a b = 0 then B else psr V (grt V P P 16) n (jn r a b) (chl V r x a b) B) 6 (bupd B x) 6 else bupd B x) = lo (fun a b B => if od V r a b = 0 then B else srch V n (jn r a b) (chl V r x a b) B) (v_Q V) (bupd B x) (v_Q V)
    by_cases c : cbb V (grt V P P 16) r x (bupd B x) = true
    · rw [if_pos c, lo_6 (Q := v_Q V) (ve_Q hE) (fun a b B h => by rw [if_pos (od_out h)])]
      refine lo_c (fun a b ha hb B => ?_) _ (Nat.le_refl _)
      by_cases d : od V r a b = 0
      · rw [if_pos d, if_pos d]
      · rw [if_neg d, if_neg d]
        exact ih _ _ _ (ki_jn hE hK d)
    · rw [if_neg c]
      have h1 := upd_upd (B := B) (x := x)
      obtain ⟨y, hy⟩ := upd_some (B := B) (x := x)
      have h2 := srch_skip hE (P := P) (y := y) (n + 1) r x hK (by
        rw [hy] at c
        unfold cbb at c
        dsimp only at c
        by_cases d : x.1.length + more V r = y.1.length
        · rw [if_pos d, decide_eq_true_eq] at c
          exact Or.inr ⟨d, by omega⟩
        · rw [if_neg d, decide_eq_true_eq] at c
          exact Or.inl (by omega))
      have h3 : srch V (n + 1) r x (some y) = lo (fun a b B => if od V r a b = 0 then B else srch V n (jn r a b) (chl V r x a b) B) (v_Q V) (bupd (some y) x) (v_Q V) := rfl
      rw [← hy, h1] at h3
      rw [← h3, hy]
      exact h2.symm
-- what the search keeps
/-- a way: so many grafts, odds of 1 to 100, its product -/
def nOk (x : nS) : Prop := x.1.length ≤ 5 ∧ 1 ≤ x.2 ∧ x.2 ≤ 100 ^ x.1.length ∧ ∀ e ∈ x.1, e.1 ≤ 55 ∧ e.2 ≤ 100
theorem chl_ok (hE : VE V E) (hx : nOk x) (hl : x.1.length + stf V r ≤ 6) (h : od V r a b ≠ 0) : nOk (chl V r x a b) := by
  obtain ⟨h1, h2, h3, h4⟩ := hx
  obtain ⟨ha, hb, -⟩ := od_pos hE h
  have hQ := ve_Q hE
  have hs := stf_2 hE h
  have ho : od V r a b ≤ 100 := by
    unfold od
    split
    · exact odds_le hE
    · omega
  refine ⟨?_, ?_, ?_, ?_⟩
  · show (x.1 ++ [_]).length ≤ 5
    rw [List.length_append, List.length_singleton]
    omega
  · exact Nat.mul_pos h2 (Nat.pos_of_ne_zero h)
  · show x.2 * od V r a b ≤ 100 ^ (x.1 ++ [_]).length
    rw [List.length_append, List.length_singleton, Nat.pow_succ]
    exact Nat.mul_le_mul h3 ho
  · intro e he
    have he : e ∈ x.1 ++ [(10 * a + b, od V r a b)] := he
    rw [List.mem_append, List.mem_singleton] at he
    rcases he with he | he
    · exact h4 e he
    · rw [he]
      exact ⟨by show 10 * a + b ≤ 55; omega, ho⟩
theorem chl_len (hE : VE V E) (hl : x.1.length + stf V r ≤ 6) (h : od V r a b ≠ 0) : (chl V r x a b).1.length + stf V (jn r a b) ≤ 6 := by
  have := stf_jn hE h
  show (x.1 ++ [_]).length + _ ≤ 6
  rw [List.length_append, List.length_singleton]
  omega
theorem upd_ok (hB : ∀ y, B = some y → nOk y) (hx : nOk x) : ∀ y, bupd B x = some y → nOk y := by
  intro y hy
  unfold bupd at hy
  match B with
  | none =>
    dsimp only at hy
    cases hy
    exact hx
  | some z =>
    dsimp only at hy
    split at hy
    · cases hy
      exact hx
    · cases hy
      exact hB _ rfl
theorem lb_p {I : Option nS → Prop} (h : ∀ b B, b < m → I B → I (f a b B)) (hB : I B) : ∀ n, n ≤ m → I (lb f a B n)
  | 0, _ => hB
  | n + 1, hn => h n _ (by omega) (lb_p h hB n (by omega))
theorem lo_p {I : Option nS → Prop} (h : ∀ a b B, a < m → b < m → I B → I (f a b B)) (hB : I B) : ∀ n, n ≤ m → I (lo f m B n)
  | 0, _ => hB
  | n + 1, hn => lb_p (fun b B hb hI => h n b B (by omega) hb hI) (lo_p h hB n (by omega)) m (Nat.le_refl _)
theorem srch_ok (hE : VE V E) : ∀ n r x B, nOk x → x.1.length + stf V r ≤ 6 → (∀ y, B = some y → nOk y) → ∀ y, srch V n r x B = some y → nOk y := by
  intro n
  induction n with
  | zero => intro r x B hx hl hB; exact upd_ok hB hx
  | succ n ih =>
    intro r x B hx hl hB
    show ∀ y, lo (fun a b B => if od V r a b = 0 then B else srch V n (jn r a b) (chl V r x a b) B) (v_Q V) (bupd B x) (v_Q V) = some y → nOk y
    refine lo_p (I := fun B => ∀ y, B = some y → nOk y) (fun a b B ha hb hI => ?_) (upd_ok hB hx) _ (Nat.le_refl _)
    try dsimp only
    by_cases c : od V r a b = 0
    · rw [if_pos c]
      exact hI
    · rw [if_neg c]
      exact ih _ _ _ (chl_ok hE hx hl c) (chl_len hE hl c) hI
theorem srch_some (hE : VE V E) : ∀ n r x B, ∃ y, srch V n r x B = some y := by
  intro n
  induction n with
  | zero => intro r x B; exact upd_some
  | succ n ih =>
    intro r x B
    show ∃ y, lo (fun a b B => if od V r a b = 0 then B else srch V n (jn r a b) (chl V r x a b) B) (v_Q V) (bupd B x) (v_Q V) = some y
    refine lo_p (I := fun B => ∃ y, B = some y) (fun a b B ha hb hI => ?_) upd_some _ (Nat.le_refl _)
    try dsimp only
    by_cases c : od V r a b = 0
    · rw [if_pos c]
      exact hI
    · rw [if_neg c]
      exact ih _ _ _
/-- the best row of grafts -/
def s_best (V : vS) (r : Nat → Nat) : nS := (srch V 7 r ([], 1) none).getD ([], 1)
theorem stf_le (V : vS) (r : Nat → Nat) : stf V r ≤ 6 := by
  have := sumf_le (f := fun q => if fre V r q = true then 1 else 0) (B := 1) 6 (fun j hj => by
    try dsimp only
    split <;> omega)
  unfold stf
  omega
theorem nOk_0 : nOk ([], 1) := ⟨by simp, by simp, by simp, fun e he => absurd he (by simp)⟩
theorem best_eq (hE : VE V E) : srch V 7 r ([], 1) none = some (s_best V r) := by
  obtain ⟨y, hy⟩ := srch_some hE 7 r ([], 1) none
  unfold s_best
  rw [hy]
  rfl
theorem best_ok (hE : VE V E) : nOk (s_best V r) := by
  refine srch_ok hE 7 r ([], 1) none nOk_0 ?_ (fun y h => by cases h) _ (best_eq hE)
  have := stf_le V r
  simpa using this
end
