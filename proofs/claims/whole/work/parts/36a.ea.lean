/-! which entries of the state an answer asks -/
def q_ea (S T : q_S) : Prop := S.1 2 = T.1 2 ∧ S.1 5 = T.1 5 ∧ S.2 8 = T.2 8 ∧ S.2 9 = T.2 9 ∧ S.2 10 = T.2 10
theorem q_run_ea {S T : q_S} (h : q_ea S T) (p : Nat) : ∀ n, q_run S p n = q_run T p n
  | 0 => by rw [q_run, q_run]
  | n + 1 => by
    obtain ⟨h1, h2, h3, h4, h5⟩ := id h
    rw [q_run, q_run, q_run_ea h p n]
    simp only [q_home, h1, h2, h3, h4, h5]
theorem q_epage_ea {S T : q_S} (h : q_ea S T) (e : Nat) : q_epage S e = q_epage T e := by
  unfold q_epage q_home
  rw [h.1, h.2.1]
theorem q_base_ea {S T : q_S} (h : q_ea S T) (e : Nat) : q_base S e = q_base T e := by
  unfold q_base
  rw [q_epage_ea h, q_run_ea h]
theorem q_start_ea {S T : q_S} (h : q_ea S T) (e : Nat) : q_start S e = q_start T e := by
  unfold q_start
  rw [q_base_ea h, h.2.2.2.1]
theorem q_end_ea {S T : q_S} (h : q_ea S T) (e : Nat) : q_end S e = q_end T e := by
  unfold q_end
  rw [q_base_ea h, h.2.2.2.1, h.2.2.2.2]
theorem q_build_ea {S T : q_S} (h : q_ea S T) (e : Nat) : q_build S e = q_build T e := by
  unfold q_build
  rw [q_epage_ea h, q_run_ea h]
theorem q_last_ea {S T : q_S} (h : q_ea S T) (hn : q_ne S = q_ne T) (p : Nat) : q_last S p = q_last T p := by
  unfold q_last
  rw [q_run_ea h, hn]
theorem q_len_ea {S T : q_S} (h : q_ea S T) (p : Nat) (b : Int32) : ∀ e, q_len S p b e = q_len T p b e
  | 0 => by rw [q_len, q_len]
  | e + 1 => by rw [q_len, q_len, q_len_ea h p b e, q_epage_ea h, q_build_ea h, q_end_ea h]
theorem q_slf_ea {S T : q_S} (h : S.2 0 = T.2 0) (k : Int32) : ∀ r p n, q_slf S k r p n = q_slf T k r p n
  | 0, _, _ => by rw [q_slf, q_slf]
  | r + 1, p, n => by
    rw [q_slf, q_slf, q_slf_ea h k r, q_slf_ea h k r]
    simp only [q_kind, h]
theorem q_slide_ea {S T : q_S} (h : S.2 0 = T.2 0) (hn : q_np S = q_np T) (k : Int32) : q_slide S k = q_slide T k := by
  unfold q_slide
  rw [q_slf_ea h, hn]
