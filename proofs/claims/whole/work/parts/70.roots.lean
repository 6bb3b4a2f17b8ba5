-- GRAFTS: what stands by roots alone, and the search
def gr (r : Nat → Nat) : gS := g_mk 0 0 (fun _ => 0) r (fun _ => 0) (fun _ => 0)
def fre (V : vS) (r : Nat → Nat) (q : Nat) : Bool := decide (q < v_Q V) && decide (r q = q) && !v_pt V q
def pp (V : vS) (r : Nat → Nat) (q : Nat) : Int32 := if fre V r q = true then s_par V (gr r) q else 0
def kk (V : vS) (r : Nat → Nat) (q : Nat) : Int32 := if fre V r q = true then s_kin V (gr r) q else 0
def od (V : vS) (r : Nat → Nat) (a b : Nat) : Nat := if a < v_Q V ∧ b < v_Q V then s_odds V (gr r) a b else 0
def jn (r : Nat → Nat) (a b : Nat) : Nat → Nat := fun j => if r j = a then b else r j
def RI (V : vS) (r : Nat → Nat) : Prop := (∀ j, j < 6 → r j < 6) ∧ (∀ j, j < v_Q V → r j < v_Q V) ∧ (∀ j, j < 6 → r (r j) = r j) ∧ (∀ j, v_Q V ≤ j → j < 6 → r j = j)
theorem ri_gi {V : vS} {G : gS} {B S : Nat} (h : GI V G B S) : RI V (g_ro G) := ⟨gi_r6 h, gi_rQ h, gi_rr h, gi_rs h⟩
def pc (x : Int32) : Nat := cntf (bt x) 6
def stf (V : vS) (r : Nat → Nat) : Nat := sumf (fun q => if fre V r q = true then 1 else 0) 6
def seats (V : vS) (r : Nat → Nat) : Nat := sumf (fun q => pc (pp V r q)) 6
def fam (V : vS) : Nat := max 1 (v_F V)
def more (V : vS) (r : Nat → Nat) : Nat := stf V r - (seats V r + fam V - 1) / fam V
def KI (V : vS) (P : Int32) (r : Nat → Nat) : Prop := ∀ q, q < 6 → ∀ i, hb (kk V r q) i = true → hb P i = true
section
variable {V : vS} {E : xE} {r : Nat → Nat} {a b q : Nat}
theorem fre_t (h : fre V r q = true) : q < v_Q V ∧ r q = q ∧ v_pt V q = false := by
  unfold fre at h
  rw [Bool.and_eq_true, Bool.and_eq_true, decide_eq_true_eq, decide_eq_true_eq, Bool.not_eq_true'] at h
  exact ⟨h.1.1, h.1.2, h.2⟩
theorem fre_i (h1 : q < v_Q V) (h2 : r q = q) (h3 : v_pt V q = false) : fre V r q = true := by
  unfold fre
  rw [decide_eq_true h1, decide_eq_true h2, h3]
  rfl
theorem od_pos (hE : VE V E) (h : od V r a b ≠ 0) : a < v_Q V ∧ b < v_Q V ∧ a ≠ b ∧ fre V r a = true ∧ fre V r b = true ∧ s_par V (gr r) a &&& s_par V (gr r) b = 0 ∧ od V r a b = grt V (s_kin V (gr r) a) (s_kin V (gr r) b) 16 := by
  unfold od at h ⊢
  by_cases c : a < v_Q V ∧ b < v_Q V
  · rw [if_pos c] at h ⊢
    obtain ⟨h1, h2, h3⟩ := odds_pos hE c.1 h
    unfold s_odds at h ⊢
    split at h
    · next hx =>
      rw [if_pos hx]
      exact ⟨c.1, c.2, h1, fre_i c.1 hx.1 hx.2.2.1, fre_i c.2 hx.2.1 hx.2.2.2.1, hx.2.2.2.2, rfl⟩
    · exact absurd rfl h
  · rw [if_neg c] at h
    exact absurd rfl h
theorem par_F (hE : VE V E) {G : gS} {i : Nat} (hi : i < 32) (h : bt (s_par V G q) i = true) : i < v_F V := by
  unfold s_par at h
  obtain ⟨k, h1, -, h3⟩ := (bt_orf (v_Q V)).mp h
  have hF := ve_F hE
  have ha := ve_fa hE k h1
  have hb0 := ve_fb hE k h1
  rw [ve_pr hE k h1, bt_or, bt_sh _ (by omega) _ hi, bt_sh _ (by omega) _ hi] at h3
  rw [Bool.or_eq_true, decide_eq_true_eq, decide_eq_true_eq] at h3
  omega
theorem par_ne (hE : VE V E) {G : gS} (hq : q < v_Q V) (h : g_ro G q = q) : s_par V G q ≠ 0 := by
  intro hz
  have hF := ve_F hE
  have ha := ve_fa hE q hq
  have hb0 := ve_fb hE q hq
  have : bt (s_par V G q) (x_fa E q) = true := by
    unfold s_par
    refine (bt_orf (v_Q V)).mpr ⟨q, hq, decide_eq_true h, ?_⟩
    rw [ve_pr hE q hq, bt_or, bt_sh _ (by omega) _ (by omega), bt_sh _ (by omega) _ (by omega)]
    simp
  rw [hz, bt_0] at this
  cases this
theorem pp_0 (hE : VE V E) : (pp V r q = 0) ↔ fre V r q = false := by
  unfold pp
  cases h : fre V r q
  · simp
  · have := fre_t h
    have h2 := par_ne hE (G := gr r) this.1 this.2.1
    simp [h2]
theorem pp_F (hE : VE V E) {i : Nat} (hi : i < 32) (h : bt (pp V r q) i = true) : i < v_F V := by
  unfold pp at h
  split at h
  · exact par_F hE hi h
  · rw [bt_0] at h
    cases h
theorem bcf_pc {x : Int32} (hx : ∀ i, i < 32 → bt x i = true → i < 6) : bcf x = nI (pc x) := by
  have e : x = orf (bt x) (fun j => 1 <<< (nI j &&& 31)) 6 := by
    refine bt_ext fun i hi => ?_
    have h1 := bt_orf (P := bt x) (f := fun j => 1 <<< (nI j &&& 31)) (i := i) 6
    cases h : bt x i
    · cases h2 : bt (orf (bt x) (fun j => 1 <<< (nI j &&& 31)) 6) i
      · rfl
      · obtain ⟨k, k1, k2, k3⟩ := h1.mp h2
        rw [bt_sh k k1 i hi, decide_eq_true_eq] at k3
        rw [k3, k2] at h
        cases h
    · have h6 := hx i hi h
      refine (h1.mpr ⟨i, h6, h, ?_⟩).symm
      rw [bt_sh i h6 i hi]
      exact decide_eq_true rfl
  have h2 := bc_orf (P := bt x) (n := 6) (by omega)
  rw [← e] at h2
  exact h2
theorem pc_F (hE : VE V E) : pc (pp V r q) ≤ v_F V := by
  have hF := ve_F hE
  have h1 : pc (pp V r q) = cntf (fun k => bt (pp V r q) k && decide (k < v_F V)) 6 := by
    refine cntf_c 6 fun j hj => ?_
    cases h : bt (pp V r q) j
    · rfl
    · have := pp_F hE (by omega) h
      simp [this]
  rw [h1, cntf_ext 6 hF]
  exact cntf_le _
theorem cnt_or {x y : Int32} (h : x &&& y = 0) : ∀ n, n ≤ 32 → cntf (bt (x ||| y)) n = cntf (bt x) n + cntf (bt y) n
  | 0, _ => rfl
  | n + 1, hn => by
    have ih := cnt_or h n (by omega)
    rw [cntf_if, cntf_if, cntf_if, ih, bt_or]
    have h2 : bt (x &&& y) n = false := by rw [h]; exact bt_0
    rw [bt_and] at h2
    cases hx : bt x n <;> cases hy : bt y n <;> simp_all <;> omega
theorem pc_0 : pc 0 = 0 := by decide +kernel
-- behind a graft
theorem orf_or2 {P P1 P2 : Nat → Bool} {f : Nat → Int32} {n : Nat} (h : ∀ k, k < n → P k = (P1 k || P2 k)) : orf P f n = orf P1 f n ||| orf P2 f n := by
  refine bt_ext fun i hi => ?_
  rw [bt_or]
  have h0 := bt_orf (P := P) (f := f) (i := i) n
  have h1 := bt_orf (P := P1) (f := f) (i := i) n
  have h2 := bt_orf (P := P2) (f := f) (i := i) n
  cases c1 : bt (orf P1 f n) i
  · cases c2 : bt (orf P2 f n) i
    · cases c0 : bt (orf P f n) i
      · rfl
      · obtain ⟨k, k1, k2, k3⟩ := h0.mp c0
        rw [h k k1, Bool.or_eq_true] at k2
        rcases k2 with k2 | k2
        · rw [h1.mpr ⟨k, k1, k2, k3⟩] at c1
          cases c1
        · rw [h2.mpr ⟨k, k1, k2, k3⟩] at c2
          cases c2
    · obtain ⟨k, k1, k2, k3⟩ := h2.mp c2
      exact h0.mpr ⟨k, k1, by rw [h k k1, k2, Bool.or_true], k3⟩
  · obtain ⟨k, k1, k2, k3⟩ := h1.mp c1
    rw [h0.mpr ⟨k, k1, by rw [h k k1, k2, Bool.true_or], k3⟩]
    rfl
theorem jn_b (hab : a ≠ b) (f : Nat → Int32) : orf (fun k => decide (jn r a b k = b)) f (v_Q V) = orf (fun k => decide (r k = b)) f (v_Q V) ||| orf (fun k => decide (r k = a)) f (v_Q V) := by
  refine orf_or2 fun k hk => ?_
  unfold jn
  by_cases c : r k = a
  · simp [c]
  · simp [c]
theorem jn_o (hqa : q ≠ a) (hqb : q ≠ b) (f : Nat → Int32) : orf (fun k => decide (jn r a b k = q)) f (v_Q V) = orf (fun k => decide (r k = q)) f (v_Q V) := by
  refine orf_c _ (fun k hk => ?_) (fun k hk => rfl)
  unfold jn
  by_cases c : r k = a
  · simp only [c, if_true]
    rw [decide_eq_false (fun e => hqb e.symm), decide_eq_false (fun e => hqa e.symm)]
  · simp [c]
theorem fre_jn (hE : VE V E) (h : od V r a b ≠ 0) : fre V (jn r a b) q = if q = a then false else fre V r q := by
  obtain ⟨h1, h2, h3, h4, h5, -⟩ := od_pos hE h
  have ha := fre_t h4
  have hb := fre_t h5
  by_cases e : q = a
  · rw [if_pos e, e]
    have : ¬ jn r a b a = a := by
      unfold jn
      rw [if_pos ha.2.1]
      exact fun e => h3 e.symm
    unfold fre
    rw [decide_eq_false this, Bool.and_false, Bool.false_and]
  · rw [if_neg e]
    have : decide (jn r a b q = q) = decide (r q = q) := by
      unfold jn
      by_cases c : r q = a
      · have n1 : ¬ b = q := fun x => by
          rw [← x, hb.2.1] at c
          exact h3 c.symm
        have n2 : ¬ a = q := fun x => e x.symm
        rw [if_pos c, c, decide_eq_false n1, decide_eq_false n2]
      · rw [if_neg c]
    unfold fre
    rw [this]
theorem pp_jn (hE : VE V E) (h : od V r a b ≠ 0) : pp V (jn r a b) q = if q = a then 0 else if q = b then pp V r b ||| pp V r a else pp V r q := by
  obtain ⟨h1, h2, h3, h4, h5, -⟩ := od_pos hE h
  have hf := fre_jn (q := q) hE h
  unfold pp
  rw [hf, h4, h5]
  by_cases e : q = a
  · simp [e]
  · rw [if_neg e, if_neg e]
    by_cases e2 : q = b
    · subst e2
      rw [h5]
      simp only [if_true]
      exact jn_b h3 _
    · rw [if_neg e2]
      cases hq : fre V r q
      · simp
      · simp only [if_true]
        exact jn_o e e2 _
theorem kk_jn (hE : VE V E) (h : od V r a b ≠ 0) : kk V (jn r a b) q = if q = a then 0 else if q = b then kk V r b ||| kk V r a else kk V r q := by
  obtain ⟨h1, h2, h3, h4, h5, -⟩ := od_pos hE h
  have hf := fre_jn (q := q) hE h
  unfold kk
  rw [hf, h4, h5]
  by_cases e : q = a
  · simp [e]
  · rw [if_neg e, if_neg e]
    by_cases e2 : q = b
    · subst e2
      rw [h5]
      simp only [if_true]
      exact jn_b h3 _
    · rw [if_neg e2]
      cases hq : fre V r q
      · simp
      · simp only [if_true]
        exact jn_o e e2 _
theorem ri_jn (hE : VE V E) (hR : RI V r) (h : od V r a b ≠ 0) : RI V (jn r a b) := by
  obtain ⟨h1, h2, h3, h4, h5, -⟩ := od_pos hE h
  have hb := (fre_t h5).2.1
  have hQ := ve_Q hE
  obtain ⟨r1, r2, r3, r4⟩ := hR
  refine ⟨fun j hj => ?_, fun j hj => ?_, fun j hj => ?_, fun j hj hj2 => ?_⟩
  · unfold jn
    split
    · omega
    · exact r1 j hj
  · unfold jn
    split
    · exact h2
    · exact r2 j hj
  · unfold jn
    by_cases c : r j = a
    · rw [if_pos c, if_neg (by rw [hb]; exact fun e => h3 e.symm), hb]
    · rw [if_neg c, r3 j hj, if_neg c]
  · unfold jn
    rw [if_neg (by rw [r4 j hj hj2]; omega)]
    exact r4 j hj hj2
theorem stf_jn (hE : VE V E) (h : od V r a b ≠ 0) : stf V (jn r a b) + 1 = stf V r := by
  obtain ⟨h1, h2, h3, h4, h5, -⟩ := od_pos hE h
  have hQ := ve_Q hE
  have hu := sumf_up (f := fun q => if fre V r q = true then 1 else 0) (i := a) (x := 0) 6 (by omega)
  have e : sumf (va_up (fun q => if fre V r q = true then 1 else 0) a 0) 6 = stf V (jn r a b) := by
    refine sumf_c 6 fun j hj => ?_
    unfold va_up
    rw [fre_jn hE h]
    by_cases c : j = a
    · simp [c]
    · simp [c]
  rw [e, h4] at hu
  simpa [stf] using hu
theorem stf_2 (hE : VE V E) (h : od V r a b ≠ 0) : 2 ≤ stf V r := by
  have h1 := stf_jn hE h
  obtain ⟨-, h2, h3, -, h5, -⟩ := od_pos hE h
  have hQ := ve_Q hE
  have hm := sumf_mem (f := fun q => if fre V (jn r a b) q = true then 1 else 0) (j := b) 6 (by omega)
  have hfb : fre V (jn r a b) b = true := by
    rw [fre_jn hE h, if_neg (fun e => h3 e.symm)]
    exact h5
  simp only [hfb, if_true] at hm
  have : 1 ≤ stf V (jn r a b) := hm
  omega
theorem seats_jn (hE : VE V E) (h : od V r a b ≠ 0) : seats V (jn r a b) = seats V r := by
  obtain ⟨h1, h2, h3, h4, h5, h6, -⟩ := od_pos hE h
  have hQ := ve_Q hE
  have hu := sumf_up (f := fun q => pc (pp V r q)) (i := a) (x := 0) 6 (by omega)
  have hu2 := sumf_up (f := va_up (fun q => pc (pp V r q)) a 0) (i := b) (x := pc (pp V r b) + pc (pp V r a)) 6 (by omega)
  have hpa : pp V r a = s_par V (gr r) a := by unfold pp; rw [h4, if_pos rfl]
  have hpb : pp V r b = s_par V (gr r) b := by unfold pp; rw [h5, if_pos rfl]
  have hz : pp V r b &&& pp V r a = 0 := by
    rw [hpa, hpb, Int32.and_comm]
    exact h6
  have e : sumf (va_up (va_up (fun q => pc (pp V r q)) a 0) b (pc (pp V r b) + pc (pp V r a))) 6 = seats V (jn r a b) := by
    refine sumf_c 6 fun j hj => ?_
    rw [pp_jn hE h]
    unfold va_up
    by_cases c : j = b
    · subst c
      rw [if_pos rfl, if_neg (fun e => h3 e.symm), if_pos rfl]
      exact (cnt_or hz 6 (by omega)).symm
    · rw [if_neg c, if_neg c]
      by_cases d : j = a
      · rw [if_pos d, if_pos d, pc_0]
      · rw [if_neg d, if_neg d]
  rw [e] at hu2
  have hb2 : va_up (fun q => pc (pp V r q)) a 0 b = pc (pp V r b) := by
    unfold va_up
    rw [if_neg (fun e => h3 e.symm)]
  rw [hb2] at hu2
  show _ = sumf _ 6
  omega
theorem sumf_mul {f : Nat → Nat} {c : Nat} : ∀ n, sumf (fun j => f j * c) n = sumf f n * c
  | 0 => by simp [sumf]
  | n + 1 => by
    have ih := sumf_mul (f := f) (c := c) n
    show sumf (fun j => f j * c) n + f n * c = (sumf f n + f n) * c
    rw [ih, Nat.add_mul]
theorem fam_1 : 1 ≤ fam V := by unfold fam; omega
theorem seats_le (hE : VE V E) : seats V r ≤ stf V r * fam V := by
  unfold stf
  rw [← sumf_mul]
  refine sumf_le2 6 fun j hj => ?_
  have h1 := pc_F (r := r) (q := j) hE
  have h2 : v_F V ≤ fam V := by unfold fam; omega
  by_cases c : fre V r j = true
  · rw [if_pos c]
    omega
  · have : pp V r j = 0 := (pp_0 hE).mpr (Bool.eq_false_iff.mpr c)
    rw [this, pc_0]
    exact Nat.zero_le _
theorem ceil_le (hE : VE V E) : (seats V r + fam V - 1) / fam V ≤ stf V r := by
  have h1 := seats_le (r := r) hE
  have h2 := fam_1 (V := V)
  have h3 : (seats V r + fam V - 1) / fam V < stf V r + 1 := by
    rw [Nat.div_lt_iff_lt_mul (by omega), Nat.add_mul]
    omega
  omega
theorem more_jn (hE : VE V E) (h : od V r a b ≠ 0) : more V (jn r a b) + 1 = more V r := by
  have h1 := ceil_le (r := jn r a b) hE
  have h2 := stf_jn hE h
  unfold more
  rw [seats_jn hE h] at h1 ⊢
  omega
theorem grt_mono {x y x2 y2 : Int32} (hx : ∀ i, hb x i = true → hb x2 i = true) (hy : ∀ i, hb y i = true → hb y2 i = true) : ∀ n, grt V x y n ≤ grt V x2 y2 n
  | 0 => Nat.le_refl _
  | n + 1 => by
    have ih := grt_mono hx hy n
    show (if grt V x y n < v_od V n ∧ hb x (n / 4) = true ∧ hb y (n % 4) = true then v_od V n else grt V x y n) ≤ (if grt V x2 y2 n < v_od V n ∧ hb x2 (n / 4) = true ∧ hb y2 (n % 4) = true then v_od V n else grt V x2 y2 n)
    by_cases c : grt V x y n < v_od V n ∧ hb x (n / 4) = true ∧ hb y (n % 4) = true
    · rw [if_pos c]
      by_cases d : grt V x2 y2 n < v_od V n
      · rw [if_pos ⟨d, hx _ c.2.1, hy _ c.2.2⟩]
        exact Nat.le_refl _
      · rw [if_neg (fun q => d q.1)]
        omega
    · rw [if_neg c]
      split
      · next d => omega
      · exact ih
theorem od_top (hE : VE V E) {P : Int32} (hK : KI V P r) (h : od V r a b ≠ 0) : od V r a b ≤ grt V P P 16 := by
  obtain ⟨h1, h2, h3, h4, h5, h6, h7⟩ := od_pos hE h
  have hQ := ve_Q hE
  rw [h7]
  have ka : kk V r a = s_kin V (gr r) a := by unfold kk; rw [h4, if_pos rfl]
  have kb : kk V r b = s_kin V (gr r) b := by unfold kk; rw [h5, if_pos rfl]
  refine grt_mono (fun i hi => ?_) (fun i hi => ?_) 16
  · rw [← ka] at hi
    exact hK a (by omega) i hi
  · rw [← kb] at hi
    exact hK b (by omega) i hi
theorem ki_jn (hE : VE V E) {P : Int32} (hK : KI V P r) (h : od V r a b ≠ 0) : KI V P (jn r a b) := by
  obtain ⟨h1, h2, -⟩ := od_pos hE h
  have hQ := ve_Q hE
  intro q hq i hi
  rw [kk_jn hE h] at hi
  split at hi
  · exfalso
    have : hb 0 i = false := by
      unfold hb
      simp
    rw [this] at hi
    cases hi
  · split at hi
    · rw [hb_or, Bool.or_eq_true] at hi
      rcases hi with hi | hi
      · exact hK b (by omega) i hi
      · exact hK a (by omega) i hi
    · exact hK q hq i hi
end
