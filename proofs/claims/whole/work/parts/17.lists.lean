/-! ArrayList: what its cells are; its readers -/
def l_cap (n : Nat) : Nat := if n ≤ 10 then 10 else if n ≤ 15 then 15 else if n ≤ 22 then 22 else 33
/-- the ArrayList at b: n elements f, its array at dd -/
def l_at (E : g_E) (h : g_H) (b dd n : Nat) (f : Nat → Option Nat) : Prop := h b = some (.inr (6, [.ref (if n = 0 then E.ad 2 else dd), .int (nI n), .int (nI n)])) ∧ (n ≠ 0 → h dd = some (g_refs E (l_cap n) f)) ∧ n ≤ 33
theorem l_cap_le {n : Nat} (h : n ≤ 33) : n ≤ l_cap n := by
  unfold l_cap
  split
  · assumption
  · split
    · assumption
    · split
      · assumption
      · exact h
theorem l_cap_lt (n : Nat) : l_cap n ≤ 33 := by
  unfold l_cap
  repeat' split
  all_goals decide
set_option maxRecDepth 100000 in
set_option maxHeartbeats 4000000 in
theorem c_A_size {l : Launch} (hl : l.stackTraces = false) (E : g_E) (h : g_H) {b : Nat} {r m : Value} {v : Int32} (hb : h b = some (.inr (6, [r, .int v, m]))) : g_Rd l mA_size 0 0 [.ref b] E h (some (.int v)) := by
  refine g_Rd.of hl (by decide) (rfl) (Nat.le_of_ble_eq_true rfl) ?_
  intro X hX hXl hR
  show g_Go E X _ h true 0 0 0 [some (.ref b)] []
  refine g_aload_n hX dA_size_0 rfl rfl (by first | rfl | exact g_rfr _) 1 rfl ?_
  refine g_get hX dA_size_1 fA_48 (by assumption) rfl 4 rfl ?_
  exact g_iret hX rfl rfl dA_size_4 ⟨by rfl, rfl⟩ rfl (Nat.zero_le _) (Nat.zero_le _)
set_option maxRecDepth 100000 in
set_option maxHeartbeats 4000000 in
theorem c_A_isEmpty {l : Launch} (hl : l.stackTraces = false) (E : g_E) (h : g_H) {b : Nat} {r m : Value} {v : Int32} (hb : h b = some (.inr (6, [r, .int v, m]))) : g_Rd l mA_isEmpty 0 0 [.ref b] E h (some (.int (if v = 0 then 1 else 0))) := by
  refine g_Rd.of hl (by decide) (rfl) (Nat.le_of_ble_eq_true rfl) ?_
  intro X hX hXl hR
  show g_Go E X _ h true 0 0 0 [some (.ref b)] []
  refine g_aload_n hX dA_isEmpty_0 rfl rfl (by first | rfl | exact g_rfr _) 1 rfl ?_
  refine g_get hX dA_isEmpty_1 fA_48 (by assumption) rfl 4 rfl ?_
  refine g_if_ne hX dA_isEmpty_4 11 7 (by decide) rfl (fun c4 => ?_) (fun c4 => ?_)
  · refine g_iconst hX dA_isEmpty_11 (v := 0) (by decide) 12 rfl ?_
    exact g_iret hX rfl rfl dA_isEmpty_12 ⟨by simp_all, rfl⟩ rfl (Nat.zero_le _) (Nat.zero_le _)
  · refine g_iconst hX dA_isEmpty_7 (v := 1) (by decide) 8 rfl ?_
    refine g_goto hX dA_isEmpty_8 12 (by decide) ?_
    exact g_iret hX rfl rfl dA_isEmpty_12 ⟨by simp_all, rfl⟩ rfl (Nat.zero_le _) (Nat.zero_le _)
set_option maxRecDepth 100000 in
set_option maxHeartbeats 4000000 in
theorem c_PC_checkIndex {l : Launch} (hl : l.stackTraces = false) (E : g_E) (h : g_H) {i n : Int32} (h0 : ¬ i < 0) (h1 : i < n) : g_Rd l mPC_checkIndex 0 0 [.int i, .int n, .null] E h (some (.int i)) := by
  refine g_Rd.of hl (by decide) (rfl) (Nat.le_of_ble_eq_true rfl) ?_
  intro X hX hXl hR
  show g_Go E X _ h true 0 0 0 [some (.int i), some (.int n), some (.null)] []
  refine g_iload_n hX dPC_checkIndex_0 rfl rfl 1 rfl ?_
  refine g_if_lt hX dPC_checkIndex_1 9 4 (by decide) rfl (fun c1 => ?_) (fun c1 => ?_)
  · exact absurd c1 h0
  · refine g_iload_n hX dPC_checkIndex_4 rfl rfl 5 rfl ?_
    refine g_iload_n hX dPC_checkIndex_5 rfl rfl 6 rfl ?_
    refine g_icmp_lt hX dPC_checkIndex_6 16 9 (by decide) rfl (fun c6 => ?_) (fun c6 => ?_)
    · refine g_iload_n hX dPC_checkIndex_16 rfl rfl 17 rfl ?_
      exact g_iret hX rfl rfl dPC_checkIndex_17 ⟨by rfl, rfl⟩ rfl (Nat.zero_le _) (Nat.zero_le _)
    · exact absurd h1 c6
set_option maxRecDepth 100000 in
set_option maxHeartbeats 4000000 in
theorem c_O_checkIndex {l : Launch} (hl : l.stackTraces = false) (E : g_E) (h : g_H) {i n : Int32} (h0 : ¬ i < 0) (h1 : i < n) : g_Rd l mO_checkIndex 1 14 [.int i, .int n] E h (some (.int i)) := by
  refine g_Rd.of hl (by decide) (rfl) (Nat.le_of_ble_eq_true rfl) ?_
  intro X hX hXl hR
  show g_Go E X _ h true 0 0 0 [some (.int i), some (.int n)] []
  refine g_iload_n hX dO_checkIndex_0 rfl rfl 1 rfl ?_
  refine g_iload_n hX dO_checkIndex_1 rfl rfl 2 rfl ?_
  refine g_null hX dO_checkIndex_2 3 rfl ?_
  refine g_cS3r (wt := 0) hX (c_PC_checkIndex hX.tr E h h0 h1) dO_checkIndex_3 kO_105 (g_rm.of hR (by decide) (by decide)) (by first | exact Nat.zero_le _ | (rw [hR]; decide)) (by first | exact Nat.zero_le _ | (rw [hR]; decide)) (by first | decide | (simp [Value.category])) 6 rfl ?_
  exact g_iret hX rfl rfl dO_checkIndex_6 ⟨by rfl, rfl⟩ rfl (Nat.zero_le _) (Nat.zero_le _)
set_option maxRecDepth 100000 in
set_option maxHeartbeats 4000000 in
theorem c_A_elementData {l : Launch} (hl : l.stackTraces = false) (E : g_E) (h : g_H) {b dd k n : Nat} {f : Nat → Option Nat} {i : Int32} {v m : Value} (hb : h b = some (.inr (6, [.ref dd, v, m]))) (hd : h dd = some (g_refs E n f)) (hi : g_ix i k n) : g_Rd l mA_elementData 0 0 [.ref b, .int i] E h (some (va_rf (f k))) := by
  refine g_Rd.of hl (by decide) (rfl) (Nat.le_of_ble_eq_true rfl) ?_
  intro X hX hXl hR
  show g_Go E X _ h true 0 0 0 [some (.ref b), some (.int i)] []
  refine g_aload_n hX dA_elementData_0 rfl rfl (by first | rfl | exact g_rfr _) 1 rfl ?_
  refine g_get hX dA_elementData_1 fA_9 (by assumption) rfl 4 rfl ?_
  refine g_iload_n hX dA_elementData_4 rfl rfl 5 rfl ?_
  refine g_aald hX dA_elementData_5 hd hi 6 rfl ?_
  exact g_aret hX rfl (Or.inl ⟨_, rfl⟩) (by first | rfl | exact g_rfr _) dA_elementData_6 ⟨by rfl, rfl⟩ rfl (Nat.zero_le _) (Nat.zero_le _)
set_option maxRecDepth 100000 in
set_option maxHeartbeats 4000000 in
theorem c_A_get0 {l : Launch} (hl : l.stackTraces = false) (E : g_E) (h : g_H) {b dd k n : Nat} {f : Nat → Option Nat} {i s : Int32} {m : Value} (hb : h b = some (.inr (6, [.ref dd, .int s, m]))) (hd : h dd = some (g_refs E n f)) (hi : g_ix i k n) (h0 : ¬ i < 0) (h1 : i < s) : g_Rd l mA_get 2 27 [.ref b, .int i] E h (some (va_rf (f k))) := by
  refine g_Rd.of hl (by decide) (rfl) (Nat.le_of_ble_eq_true rfl) ?_
  intro X hX hXl hR
  show g_Go E X _ h true 0 0 0 [some (.ref b), some (.int i)] []
  refine g_iload_n hX dA_get_0 rfl rfl 1 rfl ?_
  refine g_aload_n hX dA_get_1 rfl rfl (by first | rfl | exact g_rfr _) 2 rfl ?_
  refine g_get hX dA_get_2 fA_48 (by assumption) rfl 5 rfl ?_
  refine g_cS2r (wt := 0) hX (c_O_checkIndex hX.tr E h h0 h1) dA_get_5 kA_118 (g_rm.of hR (by decide) (by decide)) (by first | exact Nat.zero_le _ | (rw [hR]; decide)) (by first | exact Nat.zero_le _ | (rw [hR]; decide)) (by first | decide | (simp [Value.category])) 8 rfl ?_
  refine g_pop hX dA_get_8 rfl 9 rfl ?_
  refine g_aload_n hX dA_get_9 rfl rfl (by first | rfl | exact g_rfr _) 10 rfl ?_
  refine g_iload_n hX dA_get_10 rfl rfl 11 rfl ?_
  refine g_cV1r (wt := 0) hX (c_A_elementData hX.tr E h hb hd hi) dA_get_11 (by assumption) kA_123 (g_rm.of hR (by decide) (by decide)) (by first | exact Nat.zero_le _ | (rw [hR]; decide)) (by first | exact Nat.zero_le _ | (rw [hR]; decide)) (by first | decide | (simp [Value.category])) 14 rfl ?_
  exact g_aret hX rfl (Or.inl ⟨_, rfl⟩) (by first | rfl | exact g_rfr _) dA_get_14 ⟨by rfl, rfl⟩ rfl (Nat.zero_le _) (Nat.zero_le _)
theorem c_A_get {l : Launch} (hl : l.stackTraces = false) {E : g_E} {h : g_H} {b dd n k : Nat} {f : Nat → Option Nat} (ha : l_at E h b dd n f) (hk : k < n) : g_Rd l mA_get 2 27 [.ref b, .int (nI k)] E h (some (va_rf (f k))) := by
  obtain ⟨h1, h2, h3⟩ := ha
  have hn : n ≠ 0 := by omega
  rw [if_neg hn] at h1
  have hc := l_cap_le h3
  have hc2 := l_cap_lt n
  exact c_A_get0 hl E h h1 (h2 hn) (g_ix.nat (by omega) (by omega)) (nI_pos (by omega)) (nI_lt hk (by omega))
