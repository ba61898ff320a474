theorem c_S_fit0 {l : Launch} (hl : l.stackTraces = false) {E : g_E} {A : w_A} {S Sm : q_S} {h : g_H} (hW : w_W E A S Sm h) (hB : w_B S) {j : Nat} (hj : j < q_ns S) (hC : w_C S) (hT : w_T S) (hT4 : ∀ t, S.1 4 t ≤ 4) {s : Nat} (hs : q_value S j 6 = nI s) (hs4 : s ≤ 4) : g_Ct l mS_fitText 6 84 0 0 [.ref (A 0 0), .ref (A 7 j)] E h (false, fun r' h' => r' = .inr (some (.int (q_fit S j s (q_gL S 18 6)).1)) ∧ w_W E A (q_wL S 18 6 (q_fit S j s (q_gL S 18 6)).2) Sm h') := by
  exact c_S_fitText (S := S) (L := q_gL S 18 6) hl (by rw [q_wL_g]; exact hW) hB hC hT hT4 hj hs hs4
set_option maxRecDepth 100000 in
set_option maxHeartbeats 4000000 in
theorem c_S_scale_1 {l : Launch} (hl : l.stackTraces = false) {E : g_E} {A : w_A} {S Sm : q_S} {h : g_H} (hW : w_W E A S Sm h) (hB : w_B S) {s : Int32} (hs : r_noShape S s = 1) : g_Ct l mS_scale 7 100 1 6 [.ref (A 0 0), .int s] E h (false, fun r h' => r = .inl 1 ∧ h' = h) := by
  refine g_Ct.of hl (by decide) (by first | rfl | simp [g_rfc, Value.category]) (Nat.le_of_ble_eq_true rfl) ?_
  intro X hX hXl hR
  obtain ⟨hnp, hns, hne, hpar, hhome, hact⟩ := id hB
  show g_Go E X _ h true 0 0 0 [some (.ref (A 0 0)), some (.int s)] []
  refine g_aload_n hX dS_scale_0 rfl rfl (by first | rfl | exact g_rfr _) 1 rfl ?_
  refine g_aload_n hX dS_scale_1 rfl rfl (by first | rfl | exact g_rfr _) 2 rfl ?_
  refine g_iload_n hX dS_scale_2 rfl rfl 3 rfl ?_
  refine g_cV1 (wt := 1) hX (c_S_findShape_1 hX.tr hW hB hs) dS_scale_3 (w_s hW) kS_123 (g_rm.of hR (by decide) (by decide)) (by first | exact Nat.zero_le _ | (rw [hR]; decide)) (by first | exact Nat.zero_le _ | (rw [hR]; decide)) (by first | decide | (simp [Value.category])) (fun q => by cases q) 6 rfl (fun v h' hP => by cases hP.1) (fun k h' hP => ?_)
  obtain ⟨hk9, hh9⟩ := hP
  cases hk9
  subst hh9
  exact g_Th.out hX rfl ⟨rfl, rfl⟩ rfl (by rw [hR]; decide) (by rw [hR]; decide)
set_option maxRecDepth 100000 in
set_option maxHeartbeats 4000000 in
theorem c_S_lines_1 {l : Launch} (hl : l.stackTraces = false) {E : g_E} {A : w_A} {S Sm : q_S} {h : g_H} (hW : w_W E A S Sm h) (hB : w_B S) {s : Int32} (hs : r_noShape S s = 1) : g_Ct l mS_lines 7 100 1 6 [.ref (A 0 0), .int s] E h (false, fun r h' => r = .inl 1 ∧ h' = h) := by
  refine g_Ct.of hl (by decide) (by first | rfl | simp [g_rfc, Value.category]) (Nat.le_of_ble_eq_true rfl) ?_
  intro X hX hXl hR
  obtain ⟨hnp, hns, hne, hpar, hhome, hact⟩ := id hB
  show g_Go E X _ h true 0 0 0 [some (.ref (A 0 0)), some (.int s)] []
  refine g_aload_n hX dS_lines_0 rfl rfl (by first | rfl | exact g_rfr _) 1 rfl ?_
  refine g_aload_n hX dS_lines_1 rfl rfl (by first | rfl | exact g_rfr _) 2 rfl ?_
  refine g_iload_n hX dS_lines_2 rfl rfl 3 rfl ?_
  refine g_cV1 (wt := 1) hX (c_S_findShape_1 hX.tr hW hB hs) dS_lines_3 (w_s hW) kS_123 (g_rm.of hR (by decide) (by decide)) (by first | exact Nat.zero_le _ | (rw [hR]; decide)) (by first | exact Nat.zero_le _ | (rw [hR]; decide)) (by first | decide | (simp [Value.category])) (fun q => by cases q) 6 rfl (fun v h' hP => by cases hP.1) (fun k h' hP => ?_)
  obtain ⟨hk9, hh9⟩ := hP
  cases hk9
  subst hh9
  exact g_Th.out hX rfl ⟨rfl, rfl⟩ rfl (by rw [hR]; decide) (by rw [hR]; decide)
set_option maxRecDepth 100000 in
set_option maxHeartbeats 4000000 in
theorem c_S_line_1 {l : Launch} (hl : l.stackTraces = false) {E : g_E} {A : w_A} {S Sm : q_S} {h : g_H} (hW : w_W E A S Sm h) (hB : w_B S) {s : Int32} (k : Int32) (what : Int32) (hs : r_noShape S s = 1) : g_Ct l mS_line 7 100 1 6 [.ref (A 0 0), .int s, .int k, .int what] E h (false, fun r h' => r = .inl 1 ∧ h' = h) := by
  refine g_Ct.of hl (by decide) (by first | rfl | simp [g_rfc, Value.category]) (Nat.le_of_ble_eq_true rfl) ?_
  intro X hX hXl hR
  obtain ⟨hnp, hns, hne, hpar, hhome, hact⟩ := id hB
  show g_Go E X _ h true 0 0 0 [some (.ref (A 0 0)), some (.int s), some (.int k), some (.int what)] []
  refine g_aload_n hX dS_line_0 rfl rfl (by first | rfl | exact g_rfr _) 1 rfl ?_
  refine g_aload_n hX dS_line_1 rfl rfl (by first | rfl | exact g_rfr _) 2 rfl ?_
  refine g_iload_n hX dS_line_2 rfl rfl 3 rfl ?_
  refine g_cV1 (wt := 1) hX (c_S_findShape_1 hX.tr hW hB hs) dS_line_3 (w_s hW) kS_123 (g_rm.of hR (by decide) (by decide)) (by first | exact Nat.zero_le _ | (rw [hR]; decide)) (by first | exact Nat.zero_le _ | (rw [hR]; decide)) (by first | decide | (simp [Value.category])) (fun q => by cases q) 6 rfl (fun v h' hP => by cases hP.1) (fun k h' hP => ?_)
  obtain ⟨hk9, hh9⟩ := hP
  cases hk9
  subst hh9
  exact g_Th.out hX rfl ⟨rfl, rfl⟩ rfl (by rw [hR]; decide) (by rw [hR]; decide)
set_option maxRecDepth 100000 in
set_option maxHeartbeats 4000000 in
theorem c_S_scale_0 {l : Launch} (hl : l.stackTraces = false) {E : g_E} {A : w_A} {S Sm : q_S} {h : g_H} (hW : w_W E A S Sm h) (hB : w_B S) {j : Nat} (hj : j < q_ns S) (hC : w_C S) (hT : w_T S) (hT4 : ∀ t, S.1 4 t ≤ 4) {s : Nat} (hs : q_value S j 6 = nI s) (hs4 : s ≤ 4)  : g_Ct l mS_scale 7 100 0 0 [.ref (A 0 0), .int (nI j)] E h (false, fun r h' => r = .inr (some (.int ((q_fit S j s (q_gL S 18 6)).1))) ∧ w_W E A (q_wL S 18 6 (q_fit S j s (q_gL S 18 6)).2) Sm h') := by
  refine g_Ct.of hl (by decide) (by first | rfl | simp [g_rfc, Value.category]) (Nat.le_of_ble_eq_true rfl) ?_
  intro X hX hXl hR
  obtain ⟨hnp, hns, hne, hpar, hhome, hact⟩ := id hB
  show g_Go E X _ h true 0 0 0 [some (.ref (A 0 0)), some (.int (nI j))] []
  refine g_aload_n hX dS_scale_0 rfl rfl (by first | rfl | exact g_rfr _) 1 rfl ?_
  refine g_aload_n hX dS_scale_1 rfl rfl (by first | rfl | exact g_rfr _) 2 rfl ?_
  refine g_iload_n hX dS_scale_2 rfl rfl 3 rfl ?_
  refine g_cV1r (wt := 1) hX (c_S_findShape hX.tr hW hB hj) dS_scale_3 (w_s hW) kS_123 (g_rm.of hR (by decide) (by decide)) (by first | exact Nat.zero_le _ | (rw [hR]; decide)) (by first | exact Nat.zero_le _ | (rw [hR]; decide)) (by first | decide | (simp [Value.category])) 6 rfl ?_
  refine g_cV1 (wt := 0) hX (c_S_fit0 hX.tr hW hB hj hC hT hT4 hs hs4) dS_scale_6 (w_s hW) kS_177 (g_rm.of hR (by decide) (by decide)) (by first | exact Nat.zero_le _ | (rw [hR]; decide)) (by first | exact Nat.zero_le _ | (rw [hR]; decide)) (by first | decide | (simp [Value.category])) (fun q => by cases q) 9 rfl (fun v h hP => ?_) (fun k h hP => by cases hP.1)
  obtain ⟨hv, hW⟩ := hP
  cases hv
  show g_Go E X _ h false 0 0 9 _ [.int (q_fit S j s (q_gL S 18 6)).1]
  exact g_iret hX rfl rfl dS_scale_9 ⟨rfl, hW⟩ rfl (Nat.zero_le _) (Nat.zero_le _)
set_option maxRecDepth 100000 in
set_option maxHeartbeats 4000000 in
theorem c_S_lines_0 {l : Launch} (hl : l.stackTraces = false) {E : g_E} {A : w_A} {S Sm : q_S} {h : g_H} (hW : w_W E A S Sm h) (hB : w_B S) {j : Nat} (hj : j < q_ns S) (hC : w_C S) (hT : w_T S) (hT4 : ∀ t, S.1 4 t ≤ 4) {s : Nat} (hs : q_value S j 6 = nI s) (hs4 : s ≤ 4)  : g_Ct l mS_lines 7 100 0 0 [.ref (A 0 0), .int (nI j)] E h (false, fun r h' => r = .inr (some (.int (nI (q_fit S j s (q_gL S 18 6)).2.1))) ∧ w_W E A (q_wL S 18 6 (q_fit S j s (q_gL S 18 6)).2) Sm h') := by
  refine g_Ct.of hl (by decide) (by first | rfl | simp [g_rfc, Value.category]) (Nat.le_of_ble_eq_true rfl) ?_
  intro X hX hXl hR
  obtain ⟨hnp, hns, hne, hpar, hhome, hact⟩ := id hB
  show g_Go E X _ h true 0 0 0 [some (.ref (A 0 0)), some (.int (nI j))] []
  refine g_aload_n hX dS_lines_0 rfl rfl (by first | rfl | exact g_rfr _) 1 rfl ?_
  refine g_aload_n hX dS_lines_1 rfl rfl (by first | rfl | exact g_rfr _) 2 rfl ?_
  refine g_iload_n hX dS_lines_2 rfl rfl 3 rfl ?_
  refine g_cV1r (wt := 1) hX (c_S_findShape hX.tr hW hB hj) dS_lines_3 (w_s hW) kS_123 (g_rm.of hR (by decide) (by decide)) (by first | exact Nat.zero_le _ | (rw [hR]; decide)) (by first | exact Nat.zero_le _ | (rw [hR]; decide)) (by first | decide | (simp [Value.category])) 6 rfl ?_
  refine g_cV1 (wt := 0) hX (c_S_fit0 hX.tr hW hB hj hC hT hT4 hs hs4) dS_lines_6 (w_s hW) kS_177 (g_rm.of hR (by decide) (by decide)) (by first | exact Nat.zero_le _ | (rw [hR]; decide)) (by first | exact Nat.zero_le _ | (rw [hR]; decide)) (by first | decide | (simp [Value.category])) (fun q => by cases q) 9 rfl (fun v h hP => ?_) (fun k h hP => by cases hP.1)
  obtain ⟨hv, hW⟩ := hP
  cases hv
  show g_Go E X _ h false 0 0 9 _ [.int (q_fit S j s (q_gL S 18 6)).1]
  refine g_pop hX dS_lines_9 rfl 10 rfl ?_
  refine g_aload_n hX dS_lines_10 rfl rfl (by first | rfl | exact g_rfr _) 11 rfl ?_
  refine g_get hX dS_lines_11 fS_33 (w_s hW) rfl 14 rfl ?_
  refine g_get (v := .int (nI (q_fit S j s (q_gL S 18 6)).2.1)) hX dS_lines_14 fS_180 (w_c hW 24 0 (by decide) ⟨rfl, by decide⟩) rfl 17 rfl ?_
  exact g_iret hX rfl rfl dS_lines_17 ⟨rfl, hW⟩ rfl (Nat.zero_le _) (Nat.zero_le _)
set_option maxRecDepth 100000 in
set_option maxHeartbeats 4000000 in
theorem c_S_line_0n {l : Launch} (hl : l.stackTraces = false) {E : g_E} {A : w_A} {S Sm : q_S} {h : g_H} (hW : w_W E A S Sm h) (hB : w_B S) {j : Nat} (hj : j < q_ns S) {k : Int32} (what : Int32) (hC : w_C S) (hT : w_T S) (hT4 : ∀ t, S.1 4 t ≤ 4) {s : Nat} (hs : q_value S j 6 = nI s) (hs4 : s ≤ 4) (hk : k < 0 ∨ ¬ k < nI (q_fit S j s (q_gL S 18 6)).2.1) : g_Ct l mS_line 7 100 0 0 [.ref (A 0 0), .int (nI j), .int k, .int what] E h (false, fun r h' => r = .inr (some (.int (-1))) ∧ w_W E A (q_wL S 18 6 (q_fit S j s (q_gL S 18 6)).2) Sm h') := by
  refine g_Ct.of hl (by decide) (by first | rfl | simp [g_rfc, Value.category]) (Nat.le_of_ble_eq_true rfl) ?_
  intro X hX hXl hR
  obtain ⟨hnp, hns, hne, hpar, hhome, hact⟩ := id hB
  show g_Go E X _ h true 0 0 0 [some (.ref (A 0 0)), some (.int (nI j)), some (.int k), some (.int what)] []
  refine g_aload_n hX dS_line_0 rfl rfl (by first | rfl | exact g_rfr _) 1 rfl ?_
  refine g_aload_n hX dS_line_1 rfl rfl (by first | rfl | exact g_rfr _) 2 rfl ?_
  refine g_iload_n hX dS_line_2 rfl rfl 3 rfl ?_
  refine g_cV1r (wt := 1) hX (c_S_findShape hX.tr hW hB hj) dS_line_3 (w_s hW) kS_123 (g_rm.of hR (by decide) (by decide)) (by first | exact Nat.zero_le _ | (rw [hR]; decide)) (by first | exact Nat.zero_le _ | (rw [hR]; decide)) (by first | decide | (simp [Value.category])) 6 rfl ?_
  refine g_cV1 (wt := 0) hX (c_S_fit0 hX.tr hW hB hj hC hT hT4 hs hs4) dS_line_6 (w_s hW) kS_177 (g_rm.of hR (by decide) (by decide)) (by first | exact Nat.zero_le _ | (rw [hR]; decide)) (by first | exact Nat.zero_le _ | (rw [hR]; decide)) (by first | decide | (simp [Value.category])) (fun q => by cases q) 9 rfl (fun v h hP => ?_) (fun k h hP => by cases hP.1)
  obtain ⟨hv, hW⟩ := hP
  cases hv
  show g_Go E X _ h false 0 0 9 _ [.int (q_fit S j s (q_gL S 18 6)).1]
  refine g_pop hX dS_line_9 rfl 10 rfl ?_
  refine g_iload_n hX dS_line_10 rfl rfl 11 rfl ?_
  refine g_if_lt hX dS_line_11 25 14 (by decide) rfl (fun c11 => ?_) (fun c11 => ?_)
  · refine g_iconst hX dS_line_25 (v := (-1)) (by decide) 26 rfl ?_
    exact g_iret hX rfl rfl dS_line_26 ⟨rfl, hW⟩ rfl (Nat.zero_le _) (Nat.zero_le _)
  · refine g_iload_n hX dS_line_14 rfl rfl 15 rfl ?_
    refine g_aload_n hX dS_line_15 rfl rfl (by first | rfl | exact g_rfr _) 16 rfl ?_
    refine g_get hX dS_line_16 fS_33 (w_s hW) rfl 19 rfl ?_
    refine g_get (v := .int (nI (q_fit S j s (q_gL S 18 6)).2.1)) hX dS_line_19 fS_180 (w_c hW 24 0 (by decide) ⟨rfl, by decide⟩) rfl 22 rfl ?_
    refine g_icmp_lt hX dS_line_22 27 25 (by decide) rfl (fun c22 => ?_) (fun c22 => ?_)
    · exact absurd hk (fun q => q.elim c11 (fun q => q c22))
    · refine g_iconst hX dS_line_25 (v := (-1)) (by decide) 26 rfl ?_
      exact g_iret hX rfl rfl dS_line_26 ⟨rfl, hW⟩ rfl (Nat.zero_le _) (Nat.zero_le _)
set_option maxRecDepth 100000 in
set_option maxHeartbeats 4000000 in
theorem c_S_line_00 {l : Launch} (hl : l.stackTraces = false) {E : g_E} {A : w_A} {S Sm : q_S} {h : g_H} (hW : w_W E A S Sm h) (hB : w_B S) {j : Nat} (hj : j < q_ns S) {k : Nat} (hC : w_C S) (hT : w_T S) (hT4 : ∀ t, S.1 4 t ≤ 4) {s : Nat} (hs : q_value S j 6 = nI s) (hs4 : s ≤ 4) (hL : S.1 0 6 ≤ 16) (hk : k < (q_fit S j s (q_gL S 18 6)).2.1) : g_Ct l mS_line 7 100 0 0 [.ref (A 0 0), .int (nI j), .int (nI k), .int 0] E h (false, fun r h' => r = .inr (some (.int ((q_fit S j s (q_gL S 18 6)).2.2.1 k))) ∧ w_W E A (q_wL S 18 6 (q_fit S j s (q_gL S 18 6)).2) Sm h') := by
  refine g_Ct.of hl (by decide) (by first | rfl | simp [g_rfc, Value.category]) (Nat.le_of_ble_eq_true rfl) ?_
  intro X hX hXl hR
  obtain ⟨hnp, hns, hne, hpar, hhome, hact⟩ := id hB
  obtain ⟨hf1, kf, hf2, hf3⟩ := q_fit_le S j hT4 (hhome j hj).2 s (q_gL S 18 6) hL
  show g_Go E X _ h true 0 0 0 [some (.ref (A 0 0)), some (.int (nI j)), some (.int (nI k)), some (.int 0)] []
  refine g_aload_n hX dS_line_0 rfl rfl (by first | rfl | exact g_rfr _) 1 rfl ?_
  refine g_aload_n hX dS_line_1 rfl rfl (by first | rfl | exact g_rfr _) 2 rfl ?_
  refine g_iload_n hX dS_line_2 rfl rfl 3 rfl ?_
  refine g_cV1r (wt := 1) hX (c_S_findShape hX.tr hW hB hj) dS_line_3 (w_s hW) kS_123 (g_rm.of hR (by decide) (by decide)) (by first | exact Nat.zero_le _ | (rw [hR]; decide)) (by first | exact Nat.zero_le _ | (rw [hR]; decide)) (by first | decide | (simp [Value.category])) 6 rfl ?_
  refine g_cV1 (wt := 0) hX (c_S_fit0 hX.tr hW hB hj hC hT hT4 hs hs4) dS_line_6 (w_s hW) kS_177 (g_rm.of hR (by decide) (by decide)) (by first | exact Nat.zero_le _ | (rw [hR]; decide)) (by first | exact Nat.zero_le _ | (rw [hR]; decide)) (by first | decide | (simp [Value.category])) (fun q => by cases q) 9 rfl (fun v h hP => ?_) (fun k h hP => by cases hP.1)
  obtain ⟨hv, hW⟩ := hP
  cases hv
  show g_Go E X _ h false 0 0 9 _ [.int (q_fit S j s (q_gL S 18 6)).1]
  refine g_pop hX dS_line_9 rfl 10 rfl ?_
  refine g_iload_n hX dS_line_10 rfl rfl 11 rfl ?_
  refine g_if_lt hX dS_line_11 25 14 (by decide) rfl (fun c11 => ?_) (fun c11 => ?_)
  · exact absurd c11 (nI_pos (by omega))
  · refine g_iload_n hX dS_line_14 rfl rfl 15 rfl ?_
    refine g_aload_n hX dS_line_15 rfl rfl (by first | rfl | exact g_rfr _) 16 rfl ?_
    refine g_get hX dS_line_16 fS_33 (w_s hW) rfl 19 rfl ?_
    refine g_get (v := .int (nI (q_fit S j s (q_gL S 18 6)).2.1)) hX dS_line_19 fS_180 (w_c hW 24 0 (by decide) ⟨rfl, by decide⟩) rfl 22 rfl ?_
    refine g_icmp_lt hX dS_line_22 27 25 (by decide) rfl (fun c22 => ?_) (fun c22 => ?_)
    · refine g_iload_n hX dS_line_27 rfl rfl 28 rfl ?_
      refine g_tableIn hX (off := 32) 60 dS_line_28 (by decide) (by decide) (by decide) (by decide) ?_
      refine g_aload_n hX dS_line_60 rfl rfl (by first | rfl | exact g_rfr _) 61 rfl ?_
      refine g_get hX dS_line_61 fS_33 (w_s hW) rfl 64 rfl ?_
      refine g_get hX dS_line_64 fS_183 (w_c hW 24 0 (by decide) ⟨rfl, by decide⟩) rfl 67 rfl ?_
      refine g_iload_n hX dS_line_67 rfl rfl 68 rfl ?_
      refine g_iald hX dS_line_68 (w_c hW 25 0 (by decide) ⟨rfl, by decide⟩) (g_ix.nat (show k < 16 by omega) (by decide)) 69 rfl ?_
      exact g_iret hX rfl rfl dS_line_69 ⟨rfl, hW⟩ rfl (Nat.zero_le _) (Nat.zero_le _)
    · exact absurd (nI_lt hk (by omega)) c22
set_option maxRecDepth 100000 in
set_option maxHeartbeats 4000000 in
theorem c_S_line_01 {l : Launch} (hl : l.stackTraces = false) {E : g_E} {A : w_A} {S Sm : q_S} {h : g_H} (hW : w_W E A S Sm h) (hB : w_B S) {j : Nat} (hj : j < q_ns S) {k : Nat} (hC : w_C S) (hT : w_T S) (hT4 : ∀ t, S.1 4 t ≤ 4) {s : Nat} (hs : q_value S j 6 = nI s) (hs4 : s ≤ 4) (hL : S.1 0 6 ≤ 16) (hk : k < (q_fit S j s (q_gL S 18 6)).2.1) : g_Ct l mS_line 7 100 0 0 [.ref (A 0 0), .int (nI j), .int (nI k), .int 1] E h (false, fun r h' => r = .inr (some (.int ((q_fit S j s (q_gL S 18 6)).2.2.2.1 k))) ∧ w_W E A (q_wL S 18 6 (q_fit S j s (q_gL S 18 6)).2) Sm h') := by
  refine g_Ct.of hl (by decide) (by first | rfl | simp [g_rfc, Value.category]) (Nat.le_of_ble_eq_true rfl) ?_
  intro X hX hXl hR
  obtain ⟨hnp, hns, hne, hpar, hhome, hact⟩ := id hB
  obtain ⟨hf1, kf, hf2, hf3⟩ := q_fit_le S j hT4 (hhome j hj).2 s (q_gL S 18 6) hL
  show g_Go E X _ h true 0 0 0 [some (.ref (A 0 0)), some (.int (nI j)), some (.int (nI k)), some (.int 1)] []
  refine g_aload_n hX dS_line_0 rfl rfl (by first | rfl | exact g_rfr _) 1 rfl ?_
  refine g_aload_n hX dS_line_1 rfl rfl (by first | rfl | exact g_rfr _) 2 rfl ?_
  refine g_iload_n hX dS_line_2 rfl rfl 3 rfl ?_
  refine g_cV1r (wt := 1) hX (c_S_findShape hX.tr hW hB hj) dS_line_3 (w_s hW) kS_123 (g_rm.of hR (by decide) (by decide)) (by first | exact Nat.zero_le _ | (rw [hR]; decide)) (by first | exact Nat.zero_le _ | (rw [hR]; decide)) (by first | decide | (simp [Value.category])) 6 rfl ?_
  refine g_cV1 (wt := 0) hX (c_S_fit0 hX.tr hW hB hj hC hT hT4 hs hs4) dS_line_6 (w_s hW) kS_177 (g_rm.of hR (by decide) (by decide)) (by first | exact Nat.zero_le _ | (rw [hR]; decide)) (by first | exact Nat.zero_le _ | (rw [hR]; decide)) (by first | decide | (simp [Value.category])) (fun q => by cases q) 9 rfl (fun v h hP => ?_) (fun k h hP => by cases hP.1)
  obtain ⟨hv, hW⟩ := hP
  cases hv
  show g_Go E X _ h false 0 0 9 _ [.int (q_fit S j s (q_gL S 18 6)).1]
  refine g_pop hX dS_line_9 rfl 10 rfl ?_
  refine g_iload_n hX dS_line_10 rfl rfl 11 rfl ?_
  refine g_if_lt hX dS_line_11 25 14 (by decide) rfl (fun c11 => ?_) (fun c11 => ?_)
  · exact absurd c11 (nI_pos (by omega))
  · refine g_iload_n hX dS_line_14 rfl rfl 15 rfl ?_
    refine g_aload_n hX dS_line_15 rfl rfl (by first | rfl | exact g_rfr _) 16 rfl ?_
    refine g_get hX dS_line_16 fS_33 (w_s hW) rfl 19 rfl ?_
    refine g_get (v := .int (nI (q_fit S j s (q_gL S 18 6)).2.1)) hX dS_line_19 fS_180 (w_c hW 24 0 (by decide) ⟨rfl, by decide⟩) rfl 22 rfl ?_
    refine g_icmp_lt hX dS_line_22 27 25 (by decide) rfl (fun c22 => ?_) (fun c22 => ?_)
    · refine g_iload_n hX dS_line_27 rfl rfl 28 rfl ?_
      refine g_tableIn hX (off := 42) 70 dS_line_28 (by decide) (by decide) (by decide) (by decide) ?_
      refine g_aload_n hX dS_line_70 rfl rfl (by first | rfl | exact g_rfr _) 71 rfl ?_
      refine g_get hX dS_line_71 fS_33 (w_s hW) rfl 74 rfl ?_
      refine g_get hX dS_line_74 fS_186 (w_c hW 24 0 (by decide) ⟨rfl, by decide⟩) rfl 77 rfl ?_
      refine g_iload_n hX dS_line_77 rfl rfl 78 rfl ?_
      refine g_iald hX dS_line_78 (w_c hW 26 0 (by decide) ⟨rfl, by decide⟩) (g_ix.nat (show k < 16 by omega) (by decide)) 79 rfl ?_
      exact g_iret hX rfl rfl dS_line_79 ⟨rfl, hW⟩ rfl (Nat.zero_le _) (Nat.zero_le _)
    · exact absurd (nI_lt hk (by omega)) c22
set_option maxRecDepth 100000 in
set_option maxHeartbeats 4000000 in
theorem c_S_line_02 {l : Launch} (hl : l.stackTraces = false) {E : g_E} {A : w_A} {S Sm : q_S} {h : g_H} (hW : w_W E A S Sm h) (hB : w_B S) {j : Nat} (hj : j < q_ns S) {k : Nat} (hC : w_C S) (hT : w_T S) (hT4 : ∀ t, S.1 4 t ≤ 4) {s : Nat} (hs : q_value S j 6 = nI s) (hs4 : s ≤ 4) (hL : S.1 0 6 ≤ 16) (hk : k < (q_fit S j s (q_gL S 18 6)).2.1) : g_Ct l mS_line 7 100 0 0 [.ref (A 0 0), .int (nI j), .int (nI k), .int 2] E h (false, fun r h' => r = .inr (some (.int ((q_fit S j s (q_gL S 18 6)).2.2.2.2.1 k))) ∧ w_W E A (q_wL S 18 6 (q_fit S j s (q_gL S 18 6)).2) Sm h') := by
  refine g_Ct.of hl (by decide) (by first | rfl | simp [g_rfc, Value.category]) (Nat.le_of_ble_eq_true rfl) ?_
  intro X hX hXl hR
  obtain ⟨hnp, hns, hne, hpar, hhome, hact⟩ := id hB
  obtain ⟨hf1, kf, hf2, hf3⟩ := q_fit_le S j hT4 (hhome j hj).2 s (q_gL S 18 6) hL
  show g_Go E X _ h true 0 0 0 [some (.ref (A 0 0)), some (.int (nI j)), some (.int (nI k)), some (.int 2)] []
  refine g_aload_n hX dS_line_0 rfl rfl (by first | rfl | exact g_rfr _) 1 rfl ?_
  refine g_aload_n hX dS_line_1 rfl rfl (by first | rfl | exact g_rfr _) 2 rfl ?_
  refine g_iload_n hX dS_line_2 rfl rfl 3 rfl ?_
  refine g_cV1r (wt := 1) hX (c_S_findShape hX.tr hW hB hj) dS_line_3 (w_s hW) kS_123 (g_rm.of hR (by decide) (by decide)) (by first | exact Nat.zero_le _ | (rw [hR]; decide)) (by first | exact Nat.zero_le _ | (rw [hR]; decide)) (by first | decide | (simp [Value.category])) 6 rfl ?_
  refine g_cV1 (wt := 0) hX (c_S_fit0 hX.tr hW hB hj hC hT hT4 hs hs4) dS_line_6 (w_s hW) kS_177 (g_rm.of hR (by decide) (by decide)) (by first | exact Nat.zero_le _ | (rw [hR]; decide)) (by first | exact Nat.zero_le _ | (rw [hR]; decide)) (by first | decide | (simp [Value.category])) (fun q => by cases q) 9 rfl (fun v h hP => ?_) (fun k h hP => by cases hP.1)
  obtain ⟨hv, hW⟩ := hP
  cases hv
  show g_Go E X _ h false 0 0 9 _ [.int (q_fit S j s (q_gL S 18 6)).1]
  refine g_pop hX dS_line_9 rfl 10 rfl ?_
  refine g_iload_n hX dS_line_10 rfl rfl 11 rfl ?_
  refine g_if_lt hX dS_line_11 25 14 (by decide) rfl (fun c11 => ?_) (fun c11 => ?_)
  · exact absurd c11 (nI_pos (by omega))
  · refine g_iload_n hX dS_line_14 rfl rfl 15 rfl ?_
    refine g_aload_n hX dS_line_15 rfl rfl (by first | rfl | exact g_rfr _) 16 rfl ?_
    refine g_get hX dS_line_16 fS_33 (w_s hW) rfl 19 rfl ?_
    refine g_get (v := .int (nI (q_fit S j s (q_gL S 18 6)).2.1)) hX dS_line_19 fS_180 (w_c hW 24 0 (by decide) ⟨rfl, by decide⟩) rfl 22 rfl ?_
    refine g_icmp_lt hX dS_line_22 27 25 (by decide) rfl (fun c22 => ?_) (fun c22 => ?_)
    · refine g_iload_n hX dS_line_27 rfl rfl 28 rfl ?_
      refine g_tableIn hX (off := 52) 80 dS_line_28 (by decide) (by decide) (by decide) (by decide) ?_
      refine g_aload_n hX dS_line_80 rfl rfl (by first | rfl | exact g_rfr _) 81 rfl ?_
      refine g_get hX dS_line_81 fS_33 (w_s hW) rfl 84 rfl ?_
      refine g_get hX dS_line_84 fS_189 (w_c hW 24 0 (by decide) ⟨rfl, by decide⟩) rfl 87 rfl ?_
      refine g_iload_n hX dS_line_87 rfl rfl 88 rfl ?_
      refine g_iald hX dS_line_88 (w_c hW 27 0 (by decide) ⟨rfl, by decide⟩) (g_ix.nat (show k < 16 by omega) (by decide)) 89 rfl ?_
      exact g_iret hX rfl rfl dS_line_89 ⟨rfl, hW⟩ rfl (Nat.zero_le _) (Nat.zero_le _)
    · exact absurd (nI_lt hk (by omega)) c22
set_option maxRecDepth 100000 in
set_option maxHeartbeats 4000000 in
theorem c_S_line_03 {l : Launch} (hl : l.stackTraces = false) {E : g_E} {A : w_A} {S Sm : q_S} {h : g_H} (hW : w_W E A S Sm h) (hB : w_B S) {j : Nat} (hj : j < q_ns S) {k : Nat} (hC : w_C S) (hT : w_T S) (hT4 : ∀ t, S.1 4 t ≤ 4) {s : Nat} (hs : q_value S j 6 = nI s) (hs4 : s ≤ 4) (hL : S.1 0 6 ≤ 16) (hk : k < (q_fit S j s (q_gL S 18 6)).2.1) : g_Ct l mS_line 7 100 0 0 [.ref (A 0 0), .int (nI j), .int (nI k), .int 3] E h (false, fun r h' => r = .inr (some (.int ((q_fit S j s (q_gL S 18 6)).2.2.2.2.2 k))) ∧ w_W E A (q_wL S 18 6 (q_fit S j s (q_gL S 18 6)).2) Sm h') := by
  refine g_Ct.of hl (by decide) (by first | rfl | simp [g_rfc, Value.category]) (Nat.le_of_ble_eq_true rfl) ?_
  intro X hX hXl hR
  obtain ⟨hnp, hns, hne, hpar, hhome, hact⟩ := id hB
  obtain ⟨hf1, kf, hf2, hf3⟩ := q_fit_le S j hT4 (hhome j hj).2 s (q_gL S 18 6) hL
  show g_Go E X _ h true 0 0 0 [some (.ref (A 0 0)), some (.int (nI j)), some (.int (nI k)), some (.int 3)] []
  refine g_aload_n hX dS_line_0 rfl rfl (by first | rfl | exact g_rfr _) 1 rfl ?_
  refine g_aload_n hX dS_line_1 rfl rfl (by first | rfl | exact g_rfr _) 2 rfl ?_
  refine g_iload_n hX dS_line_2 rfl rfl 3 rfl ?_
  refine g_cV1r (wt := 1) hX (c_S_findShape hX.tr hW hB hj) dS_line_3 (w_s hW) kS_123 (g_rm.of hR (by decide) (by decide)) (by first | exact Nat.zero_le _ | (rw [hR]; decide)) (by first | exact Nat.zero_le _ | (rw [hR]; decide)) (by first | decide | (simp [Value.category])) 6 rfl ?_
  refine g_cV1 (wt := 0) hX (c_S_fit0 hX.tr hW hB hj hC hT hT4 hs hs4) dS_line_6 (w_s hW) kS_177 (g_rm.of hR (by decide) (by decide)) (by first | exact Nat.zero_le _ | (rw [hR]; decide)) (by first | exact Nat.zero_le _ | (rw [hR]; decide)) (by first | decide | (simp [Value.category])) (fun q => by cases q) 9 rfl (fun v h hP => ?_) (fun k h hP => by cases hP.1)
  obtain ⟨hv, hW⟩ := hP
  cases hv
  show g_Go E X _ h false 0 0 9 _ [.int (q_fit S j s (q_gL S 18 6)).1]
  refine g_pop hX dS_line_9 rfl 10 rfl ?_
  refine g_iload_n hX dS_line_10 rfl rfl 11 rfl ?_
  refine g_if_lt hX dS_line_11 25 14 (by decide) rfl (fun c11 => ?_) (fun c11 => ?_)
  · exact absurd c11 (nI_pos (by omega))
  · refine g_iload_n hX dS_line_14 rfl rfl 15 rfl ?_
    refine g_aload_n hX dS_line_15 rfl rfl (by first | rfl | exact g_rfr _) 16 rfl ?_
    refine g_get hX dS_line_16 fS_33 (w_s hW) rfl 19 rfl ?_
    refine g_get (v := .int (nI (q_fit S j s (q_gL S 18 6)).2.1)) hX dS_line_19 fS_180 (w_c hW 24 0 (by decide) ⟨rfl, by decide⟩) rfl 22 rfl ?_
    refine g_icmp_lt hX dS_line_22 27 25 (by decide) rfl (fun c22 => ?_) (fun c22 => ?_)
    · refine g_iload_n hX dS_line_27 rfl rfl 28 rfl ?_
      refine g_tableIn hX (off := 62) 90 dS_line_28 (by decide) (by decide) (by decide) (by decide) ?_
      refine g_aload_n hX dS_line_90 rfl rfl (by first | rfl | exact g_rfr _) 91 rfl ?_
      refine g_get hX dS_line_91 fS_33 (w_s hW) rfl 94 rfl ?_
      refine g_get hX dS_line_94 fS_192 (w_c hW 24 0 (by decide) ⟨rfl, by decide⟩) rfl 97 rfl ?_
      refine g_iload_n hX dS_line_97 rfl rfl 98 rfl ?_
      refine g_iald hX dS_line_98 (w_c hW 28 0 (by decide) ⟨rfl, by decide⟩) (g_ix.nat (show k < 16 by omega) (by decide)) 99 rfl ?_
      exact g_iret hX rfl rfl dS_line_99 ⟨rfl, hW⟩ rfl (Nat.zero_le _) (Nat.zero_le _)
    · exact absurd (nI_lt hk (by omega)) c22
set_option maxRecDepth 100000 in
set_option maxHeartbeats 4000000 in
theorem c_S_line_04 {l : Launch} (hl : l.stackTraces = false) {E : g_E} {A : w_A} {S Sm : q_S} {h : g_H} (hW : w_W E A S Sm h) (hB : w_B S) {j : Nat} (hj : j < q_ns S) {k : Nat} {what : Int32} (hC : w_C S) (hT : w_T S) (hT4 : ∀ t, S.1 4 t ≤ 4) {s : Nat} (hs : q_value S j 6 = nI s) (hs4 : s ≤ 4) (hL : S.1 0 6 ≤ 16) (hk : k < (q_fit S j s (q_gL S 18 6)).2.1) (hw : what.toInt < 0 ∨ 3 < what.toInt) : g_Ct l mS_line 7 100 0 0 [.ref (A 0 0), .int (nI j), .int (nI k), .int what] E h (false, fun r h' => r = .inr (some (.int (-1))) ∧ w_W E A (q_wL S 18 6 (q_fit S j s (q_gL S 18 6)).2) Sm h') := by
  refine g_Ct.of hl (by decide) (by first | rfl | simp [g_rfc, Value.category]) (Nat.le_of_ble_eq_true rfl) ?_
  intro X hX hXl hR
  obtain ⟨hnp, hns, hne, hpar, hhome, hact⟩ := id hB
  obtain ⟨hf1, kf, hf2, hf3⟩ := q_fit_le S j hT4 (hhome j hj).2 s (q_gL S 18 6) hL
  show g_Go E X _ h true 0 0 0 [some (.ref (A 0 0)), some (.int (nI j)), some (.int (nI k)), some (.int what)] []
  refine g_aload_n hX dS_line_0 rfl rfl (by first | rfl | exact g_rfr _) 1 rfl ?_
  refine g_aload_n hX dS_line_1 rfl rfl (by first | rfl | exact g_rfr _) 2 rfl ?_
  refine g_iload_n hX dS_line_2 rfl rfl 3 rfl ?_
  refine g_cV1r (wt := 1) hX (c_S_findShape hX.tr hW hB hj) dS_line_3 (w_s hW) kS_123 (g_rm.of hR (by decide) (by decide)) (by first | exact Nat.zero_le _ | (rw [hR]; decide)) (by first | exact Nat.zero_le _ | (rw [hR]; decide)) (by first | decide | (simp [Value.category])) 6 rfl ?_
  refine g_cV1 (wt := 0) hX (c_S_fit0 hX.tr hW hB hj hC hT hT4 hs hs4) dS_line_6 (w_s hW) kS_177 (g_rm.of hR (by decide) (by decide)) (by first | exact Nat.zero_le _ | (rw [hR]; decide)) (by first | exact Nat.zero_le _ | (rw [hR]; decide)) (by first | decide | (simp [Value.category])) (fun q => by cases q) 9 rfl (fun v h hP => ?_) (fun k h hP => by cases hP.1)
  obtain ⟨hv, hW⟩ := hP
  cases hv
  show g_Go E X _ h false 0 0 9 _ [.int (q_fit S j s (q_gL S 18 6)).1]
  refine g_pop hX dS_line_9 rfl 10 rfl ?_
  refine g_iload_n hX dS_line_10 rfl rfl 11 rfl ?_
  refine g_if_lt hX dS_line_11 25 14 (by decide) rfl (fun c11 => ?_) (fun c11 => ?_)
  · exact absurd c11 (nI_pos (by omega))
  · refine g_iload_n hX dS_line_14 rfl rfl 15 rfl ?_
    refine g_aload_n hX dS_line_15 rfl rfl (by first | rfl | exact g_rfr _) 16 rfl ?_
    refine g_get hX dS_line_16 fS_33 (w_s hW) rfl 19 rfl ?_
    refine g_get (v := .int (nI (q_fit S j s (q_gL S 18 6)).2.1)) hX dS_line_19 fS_180 (w_c hW 24 0 (by decide) ⟨rfl, by decide⟩) rfl 22 rfl ?_
    refine g_icmp_lt hX dS_line_22 27 25 (by decide) rfl (fun c22 => ?_) (fun c22 => ?_)
    · refine g_iload_n hX dS_line_27 rfl rfl 28 rfl ?_
      refine g_tableOut hX 100 dS_line_28 hw (by decide) ?_
      refine g_iconst hX dS_line_100 (v := (-1)) (by decide) 101 rfl ?_
      exact g_iret hX rfl rfl dS_line_101 ⟨rfl, hW⟩ rfl (Nat.zero_le _) (Nat.zero_le _)
    · exact absurd (nI_lt hk (by omega)) c22
set_option maxRecDepth 100000 in
set_option maxHeartbeats 4000000 in
theorem c_S_number_1 {l : Launch} (hl : l.stackTraces = false) {E : g_E} {A : w_A} {S Sm : q_S} {h : g_H} (hW : w_W E A S Sm h) (hB : w_B S) {s : Int32} (p : Int32) (hs : r_noShape S s = 1) : g_Ct l mS_number 7 95 1 6 [.ref (A 0 0), .int s, .int p] E h (false, fun r h' => r = .inl 1 ∧ h' = h) := by
  refine g_Ct.of hl (by decide) (by first | rfl | simp [g_rfc, Value.category]) (Nat.le_of_ble_eq_true rfl) ?_
  intro X hX hXl hR
  obtain ⟨hnp, hns, hne, hpar, hhome, hact⟩ := id hB
  show g_Go E X _ h true 0 0 0 [some (.ref (A 0 0)), some (.int s), some (.int p), none, none, none, none] []
  refine g_aload_n hX dS_number_0 rfl rfl (by first | rfl | exact g_rfr _) 1 rfl ?_
  refine g_iload_n hX dS_number_1 rfl rfl 2 rfl ?_
  refine g_cV1 (wt := 0) hX (c_S_findShape_1 hX.tr hW hB hs) dS_number_2 (w_s hW) kS_123 (g_rm.of hR (by decide) (by decide)) (by first | exact Nat.zero_le _ | (rw [hR]; decide)) (by first | exact Nat.zero_le _ | (rw [hR]; decide)) (by first | decide | (simp [Value.category])) (fun q => by cases q) 5 rfl (fun v h' hP => by cases hP.1) (fun k h' hP => ?_)
  obtain ⟨hk9, hh9⟩ := hP
  cases hk9
  subst hh9
  exact g_Th.out hX rfl ⟨rfl, rfl⟩ rfl (by rw [hR]; decide) (by rw [hR]; decide)
set_option maxRecDepth 100000 in
set_option maxHeartbeats 4000000 in
theorem c_S_number_0n {l : Launch} (hl : l.stackTraces = false) {E : g_E} {A : w_A} {S Sm : q_S} {h : g_H} (hW : w_W E A S Sm h) (hB : w_B S) {j : Nat} (hj : j < q_ns S) {p : Int32} (hp : p < 0 ∨ ¬ p < nI (S.1 3 j)) : g_Rd l mS_number 7 95 [.ref (A 0 0), .int (nI j), .int p] E h (some (.int (-1))) := by
  refine g_Rd.of hl (by decide) (by first | rfl | simp [g_rfc, Value.category]) (Nat.le_of_ble_eq_true rfl) ?_
  intro X hX hXl hR
  obtain ⟨hnp, hns, hne, hpar, hhome, hact⟩ := id hB
  show g_Go E X _ h true 0 0 0 [some (.ref (A 0 0)), some (.int (nI j)), some (.int p), none, none, none, none] []
  refine g_aload_n hX dS_number_0 rfl rfl (by first | rfl | exact g_rfr _) 1 rfl ?_
  refine g_iload_n hX dS_number_1 rfl rfl 2 rfl ?_
  refine g_cV1r (wt := 0) hX (c_S_findShape hX.tr hW hB hj) dS_number_2 (w_s hW) kS_123 (g_rm.of hR (by decide) (by decide)) (by first | exact Nat.zero_le _ | (rw [hR]; decide)) (by first | exact Nat.zero_le _ | (rw [hR]; decide)) (by first | decide | (simp [Value.category])) 5 rfl ?_
  refine g_get hX dS_number_5 fS_168 (w_c hW 7 j (by decide) hj) rfl 8 rfl ?_
  refine g_astore_n hX (L' := [_, _, _, _, _, _, _]) dS_number_8 rfl (by decide) (by first | rfl | exact g_rfr _) rfl 9 rfl ?_
  refine g_iload_n hX dS_number_9 rfl rfl 10 rfl ?_
  refine g_if_lt hX dS_number_10 23 13 (by decide) rfl (fun c10 => ?_) (fun c10 => ?_)
  · refine g_iconst hX dS_number_23 (v := (-1)) (by decide) 24 rfl ?_
    exact g_iret hX rfl rfl dS_number_24 ⟨rfl, rfl⟩ rfl (Nat.zero_le _) (Nat.zero_le _)
  · refine g_iload_n hX dS_number_13 rfl rfl 14 rfl ?_
    refine g_aload_n hX dS_number_14 rfl rfl (by first | rfl | exact g_rfr _) 15 rfl ?_
    refine g_cF0r (wt := 1) hX (c_spar hX.tr hW hB hj) dS_number_15 (w_l10 hW hB hj).1 kS_71 (g_rm.of hR (by decide) (by decide)) (by first | exact Nat.zero_le _ | (rw [hR]; decide)) (by first | exact Nat.zero_le _ | (rw [hR]; decide)) (by first | decide | (simp [Value.category])) 20 rfl ?_
    refine g_icmp_lt hX dS_number_20 25 23 (by decide) rfl (fun c20 => ?_) (fun c20 => ?_)
    · exact absurd hp (fun q => q.elim c10 (fun q => q c20))
    · refine g_iconst hX dS_number_23 (v := (-1)) (by decide) 24 rfl ?_
      exact g_iret hX rfl rfl dS_number_24 ⟨rfl, rfl⟩ rfl (Nat.zero_le _) (Nat.zero_le _)
set_option maxRecDepth 100000 in
set_option maxHeartbeats 4000000 in
theorem lp_number {E : g_E} {A : w_A} {S Sm : q_S} {h : g_H} (hW : w_W E A S Sm h) (hB : w_B S) {X : g_X} (hX : g_ok E X mS_number) (hR : X.R = { frames := 7, cells := 0, slots := 0, locals := 95 }) {j : Nat} (hj : j < q_ns S) {p : Nat} (hp : p < S.1 3 j) :
    ∀ (k c : Nat), k ≤ p + 1 → c + q_nm (fun i => S.2 5 (4 * j + i)) (S.2 5 (4 * j + p)) k = q_number S j p → g_Go E X (true, fun r' h' => r' = .inr (some (.int (nI (q_number S j p)))) ∧ h' = h) h true 0 0 46 [some (.ref (A 0 0)), some (.int (nI j)), some (.int (nI p)), some (.ref (A 10 j)), some (.int (S.2 5 (4 * j + p))), some (.int (nI c)), some (.int (nI k - 1))] [] := by
  have h34 : S.1 3 j ≤ 4 := (hB.2.2.2.2.1 j hj).2
  intro k
  induction k with
  | zero =>
    intro c hk hc
    rw [q_nm] at hc
    refine g_iload hX dS_number_46 rfl 48 rfl ?_
    refine g_if_lt hX dS_number_48 98 51 (by decide) rfl (fun c48 => ?_) (fun c48 => ?_)
    · refine g_iload hX dS_number_98 rfl 100 rfl ?_
      exact g_iret hX rfl rfl dS_number_100 ⟨by rw [← hc]; rfl, rfl⟩ rfl (Nat.zero_le _) (Nat.zero_le _)
    · exact absurd (show nI 0 - 1 < 0 by decide) c48
  | succ k ih =>
    intro c hk hc
    rw [nI_pred]
    have hk3 : k < S.1 3 j := by omega
    rw [q_nm] at hc
    refine g_iload hX dS_number_46 rfl 48 rfl ?_
    refine g_if_lt hX dS_number_48 98 51 (by decide) rfl (fun c48 => ?_) (fun c48 => ?_)
    · exact absurd c48 (nI_pos (by omega))
    · refine g_aload_n hX dS_number_51 rfl rfl (by first | rfl | exact g_rfr _) 52 rfl ?_
      refine g_iload hX dS_number_52 rfl 54 rfl ?_
      refine g_cF1r (wt := 0) hX (c_gpar hX.tr hW hB hj (k := k) hk3) dS_number_54 (w_l10 hW hB hj).1 kS_195 (g_rm.of hR (by decide) (by decide)) (by first | exact Nat.zero_le _ | (rw [hR]; decide)) (by first | exact Nat.zero_le _ | (rw [hR]; decide)) (by first | decide | (simp [Value.category])) 59 rfl ?_
      refine g_cast (ci := 3) hX dS_number_59 rfl cS_173 (w_c14 hW hj hk3 (by omega)) 62 rfl ?_
      refine g_get (v := .int (S.2 5 (4 * j + k))) hX dS_number_62 fS_199 (w_c14 hW hj hk3 (by omega)) rfl 65 rfl ?_
      refine g_iload hX dS_number_65 rfl 67 rfl ?_
      refine g_icmp_lt hX dS_number_67 98 70 (by decide) rfl (fun c67 => ?_) (fun c67 => ?_)
      · refine g_iload hX dS_number_98 rfl 100 rfl ?_
        rw [if_pos (show S.2 5 (4 * j + k) < S.2 5 (4 * j + p) from c67)] at hc
        exact g_iret hX rfl rfl dS_number_100 ⟨by rw [← hc]; rfl, rfl⟩ rfl (Nat.zero_le _) (Nat.zero_le _)
      · refine g_aload_n hX dS_number_70 rfl rfl (by first | rfl | exact g_rfr _) 71 rfl ?_
        refine g_iload hX dS_number_71 rfl 73 rfl ?_
        refine g_cF1r (wt := 0) hX (c_gpar hX.tr hW hB hj (k := k) hk3) dS_number_73 (w_l10 hW hB hj).1 kS_195 (g_rm.of hR (by decide) (by decide)) (by first | exact Nat.zero_le _ | (rw [hR]; decide)) (by first | exact Nat.zero_le _ | (rw [hR]; decide)) (by first | decide | (simp [Value.category])) 78 rfl ?_
        refine g_cast (ci := 3) hX dS_number_78 rfl cS_173 (w_c14 hW hj hk3 (by omega)) 81 rfl ?_
        refine g_get (v := .int (S.2 5 (4 * j + k))) hX dS_number_81 fS_199 (w_c14 hW hj hk3 (by omega)) rfl 84 rfl ?_
        refine g_iload hX dS_number_84 rfl 86 rfl ?_
        refine g_icmp_ne hX dS_number_86 92 89 (by decide) rfl (fun c86 => ?_) (fun c86 => ?_)
        · refine g_iinc hX (L' := [_, _, _, _, _, _, _]) dS_number_92 rfl (q_dec2 _) rfl 95 rfl ?_
          refine g_goto hX dS_number_95 46 (by decide) ?_
          rw [if_neg (show ¬ S.2 5 (4 * j + k) < S.2 5 (4 * j + p) from c67), if_neg (show ¬ S.2 5 (4 * j + k) = S.2 5 (4 * j + p) from c86)] at hc
          exact ih c (by omega) hc
        · refine g_iinc hX (L' := [_, _, _, _, _, _, _]) dS_number_89 rfl (q_inc _) rfl 92 rfl ?_
          refine g_iinc hX (L' := [_, _, _, _, _, _, _]) dS_number_92 rfl (q_dec2 _) rfl 95 rfl ?_
          refine g_goto hX dS_number_95 46 (by decide) ?_
          rw [if_neg (show ¬ S.2 5 (4 * j + k) < S.2 5 (4 * j + p) from c67), if_pos (show S.2 5 (4 * j + k) = S.2 5 (4 * j + p) from c86)] at hc
          exact ih (c + 1) (by omega) (by omega)
set_option maxRecDepth 100000 in
set_option maxHeartbeats 4000000 in
theorem c_S_number_0 {l : Launch} (hl : l.stackTraces = false) {E : g_E} {A : w_A} {S Sm : q_S} {h : g_H} (hW : w_W E A S Sm h) (hB : w_B S) {j : Nat} (hj : j < q_ns S) {p : Nat} (hp : p < S.1 3 j)  : g_Rd l mS_number 7 95 [.ref (A 0 0), .int (nI j), .int (nI p)] E h (some (.int (nI (q_number S j p)))) := by
  refine g_Rd.of hl (by decide) (by first | rfl | simp [g_rfc, Value.category]) (Nat.le_of_ble_eq_true rfl) ?_
  intro X hX hXl hR
  obtain ⟨hnp, hns, hne, hpar, hhome, hact⟩ := id hB
  have h34 : S.1 3 j ≤ 4 := (hhome j hj).2
  show g_Go E X _ h true 0 0 0 [some (.ref (A 0 0)), some (.int (nI j)), some (.int (nI p)), none, none, none, none] []
  refine g_aload_n hX dS_number_0 rfl rfl (by first | rfl | exact g_rfr _) 1 rfl ?_
  refine g_iload_n hX dS_number_1 rfl rfl 2 rfl ?_
  refine g_cV1r (wt := 0) hX (c_S_findShape hX.tr hW hB hj) dS_number_2 (w_s hW) kS_123 (g_rm.of hR (by decide) (by decide)) (by first | exact Nat.zero_le _ | (rw [hR]; decide)) (by first | exact Nat.zero_le _ | (rw [hR]; decide)) (by first | decide | (simp [Value.category])) 5 rfl ?_
  refine g_get hX dS_number_5 fS_168 (w_c hW 7 j (by decide) hj) rfl 8 rfl ?_
  refine g_astore_n hX (L' := [_, _, _, _, _, _, _]) dS_number_8 rfl (by decide) (by first | rfl | exact g_rfr _) rfl 9 rfl ?_
  refine g_iload_n hX dS_number_9 rfl rfl 10 rfl ?_
  refine g_if_lt hX dS_number_10 23 13 (by decide) rfl (fun c10 => ?_) (fun c10 => ?_)
  · exact absurd c10 (nI_pos (by omega))
  · refine g_iload_n hX dS_number_13 rfl rfl 14 rfl ?_
    refine g_aload_n hX dS_number_14 rfl rfl (by first | rfl | exact g_rfr _) 15 rfl ?_
    refine g_cF0r (wt := 1) hX (c_spar hX.tr hW hB hj) dS_number_15 (w_l10 hW hB hj).1 kS_71 (g_rm.of hR (by decide) (by decide)) (by first | exact Nat.zero_le _ | (rw [hR]; decide)) (by first | exact Nat.zero_le _ | (rw [hR]; decide)) (by first | decide | (simp [Value.category])) 20 rfl ?_
    refine g_icmp_lt hX dS_number_20 25 23 (by decide) rfl (fun c20 => ?_) (fun c20 => ?_)
    · refine g_aload_n hX dS_number_25 rfl rfl (by first | rfl | exact g_rfr _) 26 rfl ?_
      refine g_iload_n hX dS_number_26 rfl rfl 27 rfl ?_
      refine g_cF1r (wt := 0) hX (c_gpar hX.tr hW hB hj (k := p) hp) dS_number_27 (w_l10 hW hB hj).1 kS_195 (g_rm.of hR (by decide) (by decide)) (by first | exact Nat.zero_le _ | (rw [hR]; decide)) (by first | exact Nat.zero_le _ | (rw [hR]; decide)) (by first | decide | (simp [Value.category])) 32 rfl ?_
      refine g_cast (ci := 3) hX dS_number_32 rfl cS_173 (w_c14 hW hj hp (by omega)) 35 rfl ?_
      refine g_get (v := .int (S.2 5 (4 * j + p))) hX dS_number_35 fS_199 (w_c14 hW hj hp (by omega)) rfl 38 rfl ?_
      refine g_istore hX (L' := [_, _, _, _, _, _, _]) dS_number_38 (by decide) rfl 40 rfl ?_
      refine g_iconst hX dS_number_40 (v := 0) (by decide) 41 rfl ?_
      refine g_istore hX (L' := [_, _, _, _, _, _, _]) dS_number_41 (by decide) rfl 43 rfl ?_
      refine g_iload_n hX dS_number_43 rfl rfl 44 rfl ?_
      refine g_istore hX (L' := [_, _, _, _, _, _, _]) dS_number_44 (by decide) rfl 46 rfl ?_
      have hlp := lp_number hW hB hX hR hj hp (p + 1) 0 (Nat.le_refl _) (Nat.zero_add _)
      rw [nI_pred] at hlp
      exact hlp
    · exact absurd (nI_lt hp (by omega)) c20
