-- LED, the pure side
abbrev ledy (s : sS) (x : Int32) : Prop := s.1 = true ∧ s_led s.2.1 s.2.2.2.1 x < v_Q s.2.1
theorem st_nth {u : am_St} {s : sS} {n : Nat} {x : Int32} (hn : n < 512) (hC : CJ u s) (hP : PJ s n) : d_X6_nthWithoutVigour [.ref 0, .int x] u = some (some (.int (if ledy s x then nI (s_led s.2.1 s.2.2.2.1 x) else -1)), u) := by
  obtain ⟨hs, V, E, G, a, H, i, K, tr, fl, wh, k, t⟩ := s
  have hC : CI u hs V G a H i K tr fl wh k t := hC
  have hP : PS hs V E G a H i K k t n := hP
  obtain ⟨⟨tv, cw, -⟩, -⟩ := hC
  exact e_nth cw (ps_w hP hn)
theorem st_ledm {u : am_St} {s : sS} {n : Nat} {x : Int32} (hn : n < 512) (hM : MJ u s) (hP : PJ s n) : ∃ u2, d_X7_led [.ref 156, .int x] u = some (some (.int (if ledy s x then nI (s_led s.2.1 s.2.2.2.1 x) else 0)), u2) ∧ MFr u u2 ∧ MJ u2 s ∧ d_X7_thrown [.ref 156] u2 = some (some (.int (if ledy s x then 0 else 1)), u2) := by
  obtain ⟨hs, V, E, G, a, H, i, K, tr, fl, wh, k, t⟩ := s
  have hM : MI u hs V E G a H i K tr fl wh k t := hM
  have hP : PS hs V E G a H i K k t n := hP
  refine ⟨_, m_led hM.1 (ps_w hP hn), fr_0, mi_0 hM, ?_⟩
  have h := mi_0 (x := if hs = true ∧ s_led V G x < v_Q V then 0 else 1) hM
  have h2 := m_thrown h.1
  rw [uI_s] at h2
  exact h2
