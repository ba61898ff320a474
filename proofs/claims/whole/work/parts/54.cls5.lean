theorem r_in_0 {v a b : Int32} (h : v < a ∨ ¬ v ≤ b) : r_in v a b = 0 := by
  unfold r_in
  by_cases h1 : v < a
  · rw [if_pos h1]
  · rw [if_neg h1, if_pos (q_nle_lt (h.resolve_left h1))]
theorem r_in_1 {v a b : Int32} (h1 : ¬ v < a) (h2 : v ≤ b) : r_in v a b = 1 := by
  unfold r_in
  rw [if_neg h1, if_neg (fun q => q_lt_nle q h2)]
theorem r_noP_1 {p : Int32} (h : r_noProperty p = 1) : p < 0 ∨ ¬ p ≤ 6 := by
  unfold r_noProperty at h
  by_cases h1 : p < 0
  · exact Or.inl h1
  · rw [if_neg h1] at h
    by_cases h2 : p ≤ 6
    · rw [if_pos h2] at h
      exact absurd h (by decide)
    · exact Or.inr h2
theorem r_noS_1 {S : q_S} {p : Int32} (h : r_noShape S p = 1) : p < 0 ∨ ¬ p < nI (q_ns S) := by
  unfold r_noShape at h
  by_cases h1 : p < 0
  · exact Or.inl h1
  · rw [if_neg h1] at h
    by_cases h2 : p < nI (q_ns S)
    · rw [if_pos h2] at h
      exact absurd h (by decide)
    · exact Or.inr h2
theorem r_noE_1 {S : q_S} {p : Int32} (h : r_noEffect S p = 1) : p < 0 ∨ ¬ p < nI (q_ne S) := by
  unfold r_noEffect at h
  by_cases h1 : p < 0
  · exact Or.inl h1
  · rw [if_neg h1] at h
    by_cases h2 : p < nI (q_ne S)
    · rw [if_pos h2] at h
      exact absurd h (by decide)
    · exact Or.inr h2
theorem q_p6 {p : Nat} (h : p < 7) : ¬ nI p < 0 ∧ nI p ≤ 6 := ⟨nI_pos (by omega), nI_le (a := p) (b := 6) (by omega) (by decide)⟩
set_option maxRecDepth 100000 in
set_option maxHeartbeats 4000000 in
theorem c_S_cp_1 {l : Launch} (hl : l.stackTraces = false) (E : g_E) (h : g_H) {p : Int32} (hp : r_noProperty p = 1) : g_Ct l mS_checkProperty 6 82 1 6 [.int p] E h (false, fun r h' => r = .inl 0 ∧ h' = h) := by
  refine g_Ct.of hl (by decide) (by first | rfl | simp [g_rfc, Value.category]) (Nat.le_of_ble_eq_true rfl) ?_
  intro X hX hXl hR
  show g_Go E X _ h true 0 0 0 [some (.int p)] []
  refine g_iload_n hX dS_checkProperty_0 rfl rfl 1 rfl ?_
  refine g_iconst hX dS_checkProperty_1 (v := 0) (by decide) 2 rfl ?_
  refine g_bipush hX dS_checkProperty_2 (v := 6) (by decide) 4 rfl ?_
  refine g_cS3r (wt := 0) hX (c_S_isWithin hX.tr E h _ _ _) dS_checkProperty_4 kS_47 (g_rm.of hR (by decide) (by decide)) (by first | exact Nat.zero_le _ | (rw [hR]; decide)) (by first | exact Nat.zero_le _ | (rw [hR]; decide)) (by first | decide | (simp [Value.category])) 7 rfl ?_
  refine g_if_ne hX dS_checkProperty_7 21 10 (by decide) rfl (fun c7 => ?_) (fun c7 => ?_)
  · exact absurd (r_in_0 (r_noP_1 hp)) c7
  · exact g_throwW (wt := 0) hX rfl dS_checkProperty_10 dS_checkProperty_13 dS_checkProperty_14 dS_checkProperty_17 dS_checkProperty_20 rfl rfl rfl rfl (tx := "no such property") (by simp [g_strs]) x_0 rfl ⟨rfl, rfl⟩ rfl (by rw [hR]; decide) (by rw [hR]; decide) (by rw [hR]; decide) (by decide) (by rw [hR]; decide)
set_option maxRecDepth 100000 in
set_option maxHeartbeats 4000000 in
theorem c_S_cp_0 {l : Launch} (hl : l.stackTraces = false) (E : g_E) (h : g_H) {p : Nat} (hp : p < 7)  : g_Rd l mS_checkProperty 6 82 [.int (nI p)] E h none := by
  refine g_Rd.of hl (by decide) (by first | rfl | simp [g_rfc, Value.category]) (Nat.le_of_ble_eq_true rfl) ?_
  intro X hX hXl hR
  show g_Go E X _ h true 0 0 0 [some (.int (nI p))] []
  refine g_iload_n hX dS_checkProperty_0 rfl rfl 1 rfl ?_
  refine g_iconst hX dS_checkProperty_1 (v := 0) (by decide) 2 rfl ?_
  refine g_bipush hX dS_checkProperty_2 (v := 6) (by decide) 4 rfl ?_
  refine g_cS3r (wt := 0) hX (c_S_isWithin hX.tr E h _ _ _) dS_checkProperty_4 kS_47 (g_rm.of hR (by decide) (by decide)) (by first | exact Nat.zero_le _ | (rw [hR]; decide)) (by first | exact Nat.zero_le _ | (rw [hR]; decide)) (by first | decide | (simp [Value.category])) 7 rfl ?_
  refine g_if_ne hX dS_checkProperty_7 21 10 (by decide) rfl (fun c7 => ?_) (fun c7 => ?_)
  · exact g_vret hX rfl dS_checkProperty_21 ⟨by simp_all, rfl⟩ rfl (Nat.zero_le _) (Nat.zero_le _)
  · exact absurd (c7.symm.trans (r_in_1 (q_p6 hp).1 (q_p6 hp).2)) (by decide)
set_option maxRecDepth 100000 in
set_option maxHeartbeats 4000000 in
theorem c_S_cv_1 {l : Launch} (hl : l.stackTraces = false) (E : g_E) (h : g_H) {p : Int32} (v : Int32) (hp : r_noProperty p = 1) : g_Ct l mS_checkValue 7 94 1 6 [.int p, .int v] E h (false, fun r h' => r = .inl 0 ∧ h' = h) := by
  refine g_Ct.of hl (by decide) (by first | rfl | simp [g_rfc, Value.category]) (Nat.le_of_ble_eq_true rfl) ?_
  intro X hX hXl hR
  show g_Go E X _ h true 0 0 0 [some (.int p), some (.int v)] []
  refine g_iload_n hX dS_checkValue_0 rfl rfl 1 rfl ?_
  refine g_cS1 (wt := 0) hX (c_S_cp_1 hX.tr E h hp) dS_checkValue_1 kS_134 (g_rm.of hR (by decide) (by decide)) (by first | exact Nat.zero_le _ | (rw [hR]; decide)) (by first | exact Nat.zero_le _ | (rw [hR]; decide)) (by first | decide | (simp [Value.category])) (fun q => by cases q) 4 rfl (fun v h' hP => by cases hP.1) (fun k h' hP => ?_)
  obtain ⟨hk9, hh9⟩ := hP
  cases hk9
  subst hh9
  exact g_Th.out hX rfl ⟨rfl, rfl⟩ rfl (by rw [hR]; decide) (by rw [hR]; decide)
theorem r_lim_1 {p : Nat} {v : Int32} (h : r_lim p v = 1) : v < g_least p ∨ ¬ v ≤ g_great p := by
  unfold r_lim at h
  by_cases h1 : v < q_lo p
  · exact Or.inl h1
  · rw [if_neg h1] at h
    by_cases h2 : v ≤ q_hi p
    · rw [if_pos h2] at h
      exact absurd h (by decide)
    · exact Or.inr h2
theorem r_lim_0 {p : Nat} {v : Int32} (h : r_lim p v = 0) : ¬ v < g_least p ∧ v ≤ g_great p := by
  unfold r_lim at h
  by_cases h1 : v < q_lo p
  · rw [if_pos h1] at h
    exact absurd h (by decide)
  · rw [if_neg h1] at h
    by_cases h2 : v ≤ q_hi p
    · exact ⟨h1, h2⟩
    · rw [if_neg h2] at h
      exact absurd h (by decide)
set_option maxRecDepth 100000 in
set_option maxHeartbeats 4000000 in
theorem c_S_cv_2 {l : Launch} (hl : l.stackTraces = false) (E : g_E) (h : g_H) {p : Nat} (hp : p < 7) {v : Int32} (hv : r_lim p v = 1) : g_Ct l mS_checkValue 7 94 1 6 [.int (nI p), .int v] E h (false, fun r h' => r = .inl 0 ∧ h' = h) := by
  refine g_Ct.of hl (by decide) (by first | rfl | simp [g_rfc, Value.category]) (Nat.le_of_ble_eq_true rfl) ?_
  intro X hX hXl hR
  show g_Go E X _ h true 0 0 0 [some (.int (nI p)), some (.int v)] []
  refine g_iload_n hX dS_checkValue_0 rfl rfl 1 rfl ?_
  refine g_cS1v (wt := 0) hX (c_S_cp_0 hX.tr E h hp) dS_checkValue_1 kS_134 (g_rm.of hR (by decide) (by decide)) (by first | exact Nat.zero_le _ | (rw [hR]; decide)) (by first | exact Nat.zero_le _ | (rw [hR]; decide)) (by first | decide | (simp [Value.category])) 4 rfl ?_
  refine g_iload_n hX dS_checkValue_4 rfl rfl 5 rfl ?_
  refine g_gets hX dS_checkValue_5 sS_303 hX.K.2.2.1 8 rfl ?_
  refine g_iload_n hX dS_checkValue_8 rfl rfl 9 rfl ?_
  refine g_ialdT hX dS_checkValue_9 hX.K.2.2.2.2.2.2.2.1.1 (g_ix.nat hp (by decide)) 10 rfl ?_
  refine g_gets hX dS_checkValue_10 sS_306 hX.K.2.2.2.1 13 rfl ?_
  refine g_iload_n hX dS_checkValue_13 rfl rfl 14 rfl ?_
  refine g_ialdT hX dS_checkValue_14 hX.K.2.2.2.2.2.2.2.1.2.1 (g_ix.nat hp (by decide)) 15 rfl ?_
  refine g_cS3r (wt := 0) hX (c_S_isWithin hX.tr E h _ _ _) dS_checkValue_15 kS_47 (g_rm.of hR (by decide) (by decide)) (by first | exact Nat.zero_le _ | (rw [hR]; decide)) (by first | exact Nat.zero_le _ | (rw [hR]; decide)) (by first | decide | (simp [Value.category])) 18 rfl ?_
  refine g_if_ne hX dS_checkValue_18 32 21 (by decide) rfl (fun c18 => ?_) (fun c18 => ?_)
  · exact absurd (r_in_0 (r_lim_1 hv)) c18
  · exact g_throwW (wt := 0) hX rfl dS_checkValue_21 dS_checkValue_24 dS_checkValue_25 dS_checkValue_28 dS_checkValue_31 rfl rfl rfl rfl (tx := "no such value for the property") (by simp [g_strs]) x_0 rfl ⟨rfl, rfl⟩ rfl (by rw [hR]; decide) (by rw [hR]; decide) (by rw [hR]; decide) (by decide) (by rw [hR]; decide)
set_option maxRecDepth 100000 in
set_option maxHeartbeats 4000000 in
theorem c_S_cv_0 {l : Launch} (hl : l.stackTraces = false) (E : g_E) (h : g_H) {p : Nat} (hp : p < 7) {v : Int32} (hv : r_lim p v = 0) : g_Rd l mS_checkValue 7 94 [.int (nI p), .int v] E h none := by
  refine g_Rd.of hl (by decide) (by first | rfl | simp [g_rfc, Value.category]) (Nat.le_of_ble_eq_true rfl) ?_
  intro X hX hXl hR
  show g_Go E X _ h true 0 0 0 [some (.int (nI p)), some (.int v)] []
  refine g_iload_n hX dS_checkValue_0 rfl rfl 1 rfl ?_
  refine g_cS1v (wt := 0) hX (c_S_cp_0 hX.tr E h hp) dS_checkValue_1 kS_134 (g_rm.of hR (by decide) (by decide)) (by first | exact Nat.zero_le _ | (rw [hR]; decide)) (by first | exact Nat.zero_le _ | (rw [hR]; decide)) (by first | decide | (simp [Value.category])) 4 rfl ?_
  refine g_iload_n hX dS_checkValue_4 rfl rfl 5 rfl ?_
  refine g_gets hX dS_checkValue_5 sS_303 hX.K.2.2.1 8 rfl ?_
  refine g_iload_n hX dS_checkValue_8 rfl rfl 9 rfl ?_
  refine g_ialdT hX dS_checkValue_9 hX.K.2.2.2.2.2.2.2.1.1 (g_ix.nat hp (by decide)) 10 rfl ?_
  refine g_gets hX dS_checkValue_10 sS_306 hX.K.2.2.2.1 13 rfl ?_
  refine g_iload_n hX dS_checkValue_13 rfl rfl 14 rfl ?_
  refine g_ialdT hX dS_checkValue_14 hX.K.2.2.2.2.2.2.2.1.2.1 (g_ix.nat hp (by decide)) 15 rfl ?_
  refine g_cS3r (wt := 0) hX (c_S_isWithin hX.tr E h _ _ _) dS_checkValue_15 kS_47 (g_rm.of hR (by decide) (by decide)) (by first | exact Nat.zero_le _ | (rw [hR]; decide)) (by first | exact Nat.zero_le _ | (rw [hR]; decide)) (by first | decide | (simp [Value.category])) 18 rfl ?_
  refine g_if_ne hX dS_checkValue_18 32 21 (by decide) rfl (fun c18 => ?_) (fun c18 => ?_)
  · exact g_vret hX rfl dS_checkValue_32 ⟨by simp_all, rfl⟩ rfl (Nat.zero_le _) (Nat.zero_le _)
  · exact absurd (c18.symm.trans (r_in_1 (r_lim_0 hv).1 (r_lim_0 hv).2)) (by decide)
set_option maxRecDepth 100000 in
set_option maxHeartbeats 4000000 in
theorem c_S_findShape_1 {l : Launch} (hl : l.stackTraces = false) {E : g_E} {A : w_A} {S Sm : q_S} {h : g_H} (hW : w_W E A S Sm h) (hB : w_B S) {s : Int32} (hs : r_noShape S s = 1) : g_Ct l mS_findShape 6 82 1 6 [.ref (A 0 0), .int s] E h (false, fun r h' => r = .inl 1 ∧ h' = h) := by
  refine g_Ct.of hl (by decide) (by first | rfl | simp [g_rfc, Value.category]) (Nat.le_of_ble_eq_true rfl) ?_
  intro X hX hXl hR
  obtain ⟨hnp, hns, hne, hpar, hhome, hact⟩ := id hB
  show g_Go E X _ h true 0 0 0 [some (.ref (A 0 0)), some (.int s)] []
  refine g_iload_n hX dS_findShape_0 rfl rfl 1 rfl ?_
  refine g_if_lt hX dS_findShape_1 17 4 (by decide) rfl (fun c1 => ?_) (fun c1 => ?_)
  · exact g_throwW (wt := 0) hX rfl dS_findShape_17 dS_findShape_20 dS_findShape_21 dS_findShape_24 dS_findShape_27 rfl rfl rfl rfl (tx := "no such shape") (by simp [g_strs]) x_1 rfl ⟨rfl, rfl⟩ rfl (by rw [hR]; decide) (by rw [hR]; decide) (by rw [hR]; decide) (by decide) (by rw [hR]; decide)
  · refine g_iload_n hX dS_findShape_4 rfl rfl 5 rfl ?_
    refine g_aload_n hX dS_findShape_5 rfl rfl (by first | rfl | exact g_rfr _) 6 rfl ?_
    refine g_get hX dS_findShape_6 fS_24 (w_s hW) rfl 9 rfl ?_
    refine g_cF0r (wt := 1) hX (c_sizen hX.tr (w_l20 hW hB)) dS_findShape_9 (w_l20 hW hB).1 kS_71 (g_rm.of hR (by decide) (by decide)) (by first | exact Nat.zero_le _ | (rw [hR]; decide)) (by first | exact Nat.zero_le _ | (rw [hR]; decide)) (by first | decide | (simp [Value.category])) 14 rfl ?_
    refine g_icmp_lt hX dS_findShape_14 28 17 (by decide) rfl (fun c14 => ?_) (fun c14 => ?_)
    · exact absurd (r_noS_1 hs) (fun q => q.elim c1 (fun q => q c14))
    · exact g_throwW (wt := 0) hX rfl dS_findShape_17 dS_findShape_20 dS_findShape_21 dS_findShape_24 dS_findShape_27 rfl rfl rfl rfl (tx := "no such shape") (by simp [g_strs]) x_1 rfl ⟨rfl, rfl⟩ rfl (by rw [hR]; decide) (by rw [hR]; decide) (by rw [hR]; decide) (by decide) (by rw [hR]; decide)
set_option maxRecDepth 100000 in
set_option maxHeartbeats 4000000 in
theorem c_S_findShape {l : Launch} (hl : l.stackTraces = false) {E : g_E} {A : w_A} {S Sm : q_S} {h : g_H} (hW : w_W E A S Sm h) (hB : w_B S) {j : Nat} (hj : j < q_ns S)  : g_Rd l mS_findShape 6 82 [.ref (A 0 0), .int (nI j)] E h (some (.ref (A 7 j))) := by
  refine g_Rd.of hl (by decide) (by first | rfl | simp [g_rfc, Value.category]) (Nat.le_of_ble_eq_true rfl) ?_
  intro X hX hXl hR
  obtain ⟨hnp, hns, hne, hpar, hhome, hact⟩ := id hB
  show g_Go E X _ h true 0 0 0 [some (.ref (A 0 0)), some (.int (nI j))] []
  refine g_iload_n hX dS_findShape_0 rfl rfl 1 rfl ?_
  refine g_if_lt hX dS_findShape_1 17 4 (by decide) rfl (fun c1 => ?_) (fun c1 => ?_)
  · exact absurd c1 (nI_pos (by omega))
  · refine g_iload_n hX dS_findShape_4 rfl rfl 5 rfl ?_
    refine g_aload_n hX dS_findShape_5 rfl rfl (by first | rfl | exact g_rfr _) 6 rfl ?_
    refine g_get hX dS_findShape_6 fS_24 (w_s hW) rfl 9 rfl ?_
    refine g_cF0r (wt := 1) hX (c_sizen hX.tr (w_l20 hW hB)) dS_findShape_9 (w_l20 hW hB).1 kS_71 (g_rm.of hR (by decide) (by decide)) (by first | exact Nat.zero_le _ | (rw [hR]; decide)) (by first | exact Nat.zero_le _ | (rw [hR]; decide)) (by first | decide | (simp [Value.category])) 14 rfl ?_
    refine g_icmp_lt hX dS_findShape_14 28 17 (by decide) rfl (fun c14 => ?_) (fun c14 => ?_)
    · refine g_aload_n hX dS_findShape_28 rfl rfl (by first | rfl | exact g_rfr _) 29 rfl ?_
      refine g_get hX dS_findShape_29 fS_24 (w_s hW) rfl 32 rfl ?_
      refine g_iload_n hX dS_findShape_32 rfl rfl 33 rfl ?_
      refine g_cF1r (wt := 0) hX (c_getn hX.tr (w_l20 hW hB) hj) dS_findShape_33 (w_l20 hW hB).1 kS_195 (g_rm.of hR (by decide) (by decide)) (by first | exact Nat.zero_le _ | (rw [hR]; decide)) (by first | exact Nat.zero_le _ | (rw [hR]; decide)) (by first | decide | (simp [Value.category])) 38 rfl ?_
      refine g_cast (ci := 2) hX dS_findShape_38 rfl cS_110 (w_c hW 7 j (by decide) hj) 41 rfl ?_
      exact g_aret hX rfl (Or.inl ⟨_, rfl⟩) (by first | rfl | exact g_rfr _) dS_findShape_41 ⟨rfl, rfl⟩ rfl (Nat.zero_le _) (Nat.zero_le _)
    · exact absurd (nI_lt hj (by omega)) c14
set_option maxRecDepth 100000 in
set_option maxHeartbeats 4000000 in
theorem c_S_findEffect_1 {l : Launch} (hl : l.stackTraces = false) {E : g_E} {A : w_A} {S Sm : q_S} {h : g_H} (hW : w_W E A S Sm h) (hB : w_B S) {s : Int32} (hs : r_noEffect S s = 1) : g_Ct l mS_findEffect 6 82 1 6 [.ref (A 0 0), .int s] E h (false, fun r h' => r = .inl 1 ∧ h' = h) := by
  refine g_Ct.of hl (by decide) (by first | rfl | simp [g_rfc, Value.category]) (Nat.le_of_ble_eq_true rfl) ?_
  intro X hX hXl hR
  obtain ⟨hnp, hns, hne, hpar, hhome, hact⟩ := id hB
  show g_Go E X _ h true 0 0 0 [some (.ref (A 0 0)), some (.int s)] []
  refine g_iload_n hX dS_findEffect_0 rfl rfl 1 rfl ?_
  refine g_if_lt hX dS_findEffect_1 17 4 (by decide) rfl (fun c1 => ?_) (fun c1 => ?_)
  · exact g_throwW (wt := 0) hX rfl dS_findEffect_17 dS_findEffect_20 dS_findEffect_21 dS_findEffect_24 dS_findEffect_27 rfl rfl rfl rfl (tx := "no such effect") (by simp [g_strs]) x_1 rfl ⟨rfl, rfl⟩ rfl (by rw [hR]; decide) (by rw [hR]; decide) (by rw [hR]; decide) (by decide) (by rw [hR]; decide)
  · refine g_iload_n hX dS_findEffect_4 rfl rfl 5 rfl ?_
    refine g_aload_n hX dS_findEffect_5 rfl rfl (by first | rfl | exact g_rfr _) 6 rfl ?_
    refine g_get hX dS_findEffect_6 fS_27 (w_s hW) rfl 9 rfl ?_
    refine g_cF0r (wt := 1) hX (c_sizen hX.tr (w_l22 hW hB)) dS_findEffect_9 (w_l22 hW hB).1 kS_71 (g_rm.of hR (by decide) (by decide)) (by first | exact Nat.zero_le _ | (rw [hR]; decide)) (by first | exact Nat.zero_le _ | (rw [hR]; decide)) (by first | decide | (simp [Value.category])) 14 rfl ?_
    refine g_icmp_lt hX dS_findEffect_14 28 17 (by decide) rfl (fun c14 => ?_) (fun c14 => ?_)
    · exact absurd (r_noE_1 hs) (fun q => q.elim c1 (fun q => q c14))
    · exact g_throwW (wt := 0) hX rfl dS_findEffect_17 dS_findEffect_20 dS_findEffect_21 dS_findEffect_24 dS_findEffect_27 rfl rfl rfl rfl (tx := "no such effect") (by simp [g_strs]) x_1 rfl ⟨rfl, rfl⟩ rfl (by rw [hR]; decide) (by rw [hR]; decide) (by rw [hR]; decide) (by decide) (by rw [hR]; decide)
set_option maxRecDepth 100000 in
set_option maxHeartbeats 4000000 in
theorem c_S_findEffect {l : Launch} (hl : l.stackTraces = false) {E : g_E} {A : w_A} {S Sm : q_S} {h : g_H} (hW : w_W E A S Sm h) (hB : w_B S) {j : Nat} (hj : j < q_ne S)  : g_Rd l mS_findEffect 6 82 [.ref (A 0 0), .int (nI j)] E h (some (.ref (A 15 j))) := by
  refine g_Rd.of hl (by decide) (by first | rfl | simp [g_rfc, Value.category]) (Nat.le_of_ble_eq_true rfl) ?_
  intro X hX hXl hR
  obtain ⟨hnp, hns, hne, hpar, hhome, hact⟩ := id hB
  show g_Go E X _ h true 0 0 0 [some (.ref (A 0 0)), some (.int (nI j))] []
  refine g_iload_n hX dS_findEffect_0 rfl rfl 1 rfl ?_
  refine g_if_lt hX dS_findEffect_1 17 4 (by decide) rfl (fun c1 => ?_) (fun c1 => ?_)
  · exact absurd c1 (nI_pos (by omega))
  · refine g_iload_n hX dS_findEffect_4 rfl rfl 5 rfl ?_
    refine g_aload_n hX dS_findEffect_5 rfl rfl (by first | rfl | exact g_rfr _) 6 rfl ?_
    refine g_get hX dS_findEffect_6 fS_27 (w_s hW) rfl 9 rfl ?_
    refine g_cF0r (wt := 1) hX (c_sizen hX.tr (w_l22 hW hB)) dS_findEffect_9 (w_l22 hW hB).1 kS_71 (g_rm.of hR (by decide) (by decide)) (by first | exact Nat.zero_le _ | (rw [hR]; decide)) (by first | exact Nat.zero_le _ | (rw [hR]; decide)) (by first | decide | (simp [Value.category])) 14 rfl ?_
    refine g_icmp_lt hX dS_findEffect_14 28 17 (by decide) rfl (fun c14 => ?_) (fun c14 => ?_)
    · refine g_aload_n hX dS_findEffect_28 rfl rfl (by first | rfl | exact g_rfr _) 29 rfl ?_
      refine g_get hX dS_findEffect_29 fS_27 (w_s hW) rfl 32 rfl ?_
      refine g_iload_n hX dS_findEffect_32 rfl rfl 33 rfl ?_
      refine g_cF1r (wt := 0) hX (c_getn hX.tr (w_l22 hW hB) hj) dS_findEffect_33 (w_l22 hW hB).1 kS_195 (g_rm.of hR (by decide) (by decide)) (by first | exact Nat.zero_le _ | (rw [hR]; decide)) (by first | exact Nat.zero_le _ | (rw [hR]; decide)) (by first | decide | (simp [Value.category])) 38 rfl ?_
      refine g_cast (ci := 4) hX dS_findEffect_38 rfl cS_224 (w_c hW 15 j (by decide) hj) 41 rfl ?_
      exact g_aret hX rfl (Or.inl ⟨_, rfl⟩) (by first | rfl | exact g_rfr _) dS_findEffect_41 ⟨rfl, rfl⟩ rfl (Nat.zero_le _) (Nat.zero_le _)
    · exact absurd (nI_lt hj (by omega)) c14
set_option maxRecDepth 100000 in
set_option maxHeartbeats 4000000 in
theorem c_S_resolved_1 {l : Launch} (hl : l.stackTraces = false) {E : g_E} {A : w_A} {S Sm : q_S} {h : g_H} (hW : w_W E A S Sm h) (hB : w_B S) {s : Int32} (p : Int32) (hs : r_noShape S s = 1) : g_Ct l mS_resolved 7 95 1 6 [.ref (A 0 0), .int s, .int p] E h (false, fun r h' => r = .inl 1 ∧ h' = h) := by
  refine g_Ct.of hl (by decide) (by first | rfl | simp [g_rfc, Value.category]) (Nat.le_of_ble_eq_true rfl) ?_
  intro X hX hXl hR
  obtain ⟨hnp, hns, hne, hpar, hhome, hact⟩ := id hB
  show g_Go E X _ h true 0 0 0 [some (.ref (A 0 0)), some (.int s), some (.int p), none] []
  refine g_aload_n hX dS_resolved_0 rfl rfl (by first | rfl | exact g_rfr _) 1 rfl ?_
  refine g_iload_n hX dS_resolved_1 rfl rfl 2 rfl ?_
  refine g_cV1 (wt := 0) hX (c_S_findShape_1 hX.tr hW hB hs) dS_resolved_2 (w_s hW) kS_123 (g_rm.of hR (by decide) (by decide)) (by first | exact Nat.zero_le _ | (rw [hR]; decide)) (by first | exact Nat.zero_le _ | (rw [hR]; decide)) (by first | decide | (simp [Value.category])) (fun q => by cases q) 5 rfl (fun v h' hP => by cases hP.1) (fun k h' hP => ?_)
  obtain ⟨hk9, hh9⟩ := hP
  cases hk9
  subst hh9
  exact g_Th.out hX rfl ⟨rfl, rfl⟩ rfl (by rw [hR]; decide) (by rw [hR]; decide)
set_option maxRecDepth 100000 in
set_option maxHeartbeats 4000000 in
theorem c_S_resolved_2 {l : Launch} (hl : l.stackTraces = false) {E : g_E} {A : w_A} {S Sm : q_S} {h : g_H} (hW : w_W E A S Sm h) (hB : w_B S) {j : Nat} (hj : j < q_ns S) {p : Int32} (hp : r_noProperty p = 1) : g_Ct l mS_resolved 7 95 1 6 [.ref (A 0 0), .int (nI j), .int p] E h (false, fun r h' => r = .inl 0 ∧ h' = h) := by
  refine g_Ct.of hl (by decide) (by first | rfl | simp [g_rfc, Value.category]) (Nat.le_of_ble_eq_true rfl) ?_
  intro X hX hXl hR
  obtain ⟨hnp, hns, hne, hpar, hhome, hact⟩ := id hB
  show g_Go E X _ h true 0 0 0 [some (.ref (A 0 0)), some (.int (nI j)), some (.int p), none] []
  refine g_aload_n hX dS_resolved_0 rfl rfl (by first | rfl | exact g_rfr _) 1 rfl ?_
  refine g_iload_n hX dS_resolved_1 rfl rfl 2 rfl ?_
  refine g_cV1r (wt := 0) hX (c_S_findShape hX.tr hW hB hj) dS_resolved_2 (w_s hW) kS_123 (g_rm.of hR (by decide) (by decide)) (by first | exact Nat.zero_le _ | (rw [hR]; decide)) (by first | exact Nat.zero_le _ | (rw [hR]; decide)) (by first | decide | (simp [Value.category])) 5 rfl ?_
  refine g_astore_n hX (L' := [_, _, _, _]) dS_resolved_5 rfl (by decide) (by first | rfl | exact g_rfr _) rfl 6 rfl ?_
  refine g_iload_n hX dS_resolved_6 rfl rfl 7 rfl ?_
  refine g_cS1 (wt := 0) hX (c_S_cp_1 hX.tr E h hp) dS_resolved_7 kS_134 (g_rm.of hR (by decide) (by decide)) (by first | exact Nat.zero_le _ | (rw [hR]; decide)) (by first | exact Nat.zero_le _ | (rw [hR]; decide)) (by first | decide | (simp [Value.category])) (fun q => by cases q) 10 rfl (fun v h' hP => by cases hP.1) (fun k h' hP => ?_)
  obtain ⟨hk9, hh9⟩ := hP
  cases hk9
  subst hh9
  exact g_Th.out hX rfl ⟨rfl, rfl⟩ rfl (by rw [hR]; decide) (by rw [hR]; decide)
set_option maxRecDepth 100000 in
set_option maxHeartbeats 4000000 in
theorem c_S_resolved_0 {l : Launch} (hl : l.stackTraces = false) {E : g_E} {A : w_A} {S Sm : q_S} {h : g_H} (hW : w_W E A S Sm h) (hB : w_B S) {j : Nat} (hj : j < q_ns S) {pr : Nat} (hpr : pr < 7) (hC : w_C S) : g_Rd l mS_resolved 7 95 [.ref (A 0 0), .int (nI j), .int (nI pr)] E h (some (.int (q_value S j pr))) := by
  refine g_Rd.of hl (by decide) (by first | rfl | simp [g_rfc, Value.category]) (Nat.le_of_ble_eq_true rfl) ?_
  intro X hX hXl hR
  obtain ⟨hnp, hns, hne, hpar, hhome, hact⟩ := id hB
  show g_Go E X _ h true 0 0 0 [some (.ref (A 0 0)), some (.int (nI j)), some (.int (nI pr)), none] []
  refine g_aload_n hX dS_resolved_0 rfl rfl (by first | rfl | exact g_rfr _) 1 rfl ?_
  refine g_iload_n hX dS_resolved_1 rfl rfl 2 rfl ?_
  refine g_cV1r (wt := 0) hX (c_S_findShape hX.tr hW hB hj) dS_resolved_2 (w_s hW) kS_123 (g_rm.of hR (by decide) (by decide)) (by first | exact Nat.zero_le _ | (rw [hR]; decide)) (by first | exact Nat.zero_le _ | (rw [hR]; decide)) (by first | decide | (simp [Value.category])) 5 rfl ?_
  refine g_astore_n hX (L' := [_, _, _, _]) dS_resolved_5 rfl (by decide) (by first | rfl | exact g_rfr _) rfl 6 rfl ?_
  refine g_iload_n hX dS_resolved_6 rfl rfl 7 rfl ?_
  refine g_cS1v (wt := 0) hX (c_S_cp_0 hX.tr E h hpr) dS_resolved_7 kS_134 (g_rm.of hR (by decide) (by decide)) (by first | exact Nat.zero_le _ | (rw [hR]; decide)) (by first | exact Nat.zero_le _ | (rw [hR]; decide)) (by first | decide | (simp [Value.category])) 10 rfl ?_
  refine g_aload_n hX dS_resolved_10 rfl rfl (by first | rfl | exact g_rfr _) 11 rfl ?_
  refine g_aload_n hX dS_resolved_11 rfl rfl (by first | rfl | exact g_rfr _) 12 rfl ?_
  refine g_iload_n hX dS_resolved_12 rfl rfl 13 rfl ?_
  refine g_cV2r (wt := 0) hX (c_S_resolve hX.tr hW hB hC hj hpr) dS_resolved_13 (w_s hW) kS_138 (g_rm.of hR (by decide) (by decide)) (by first | exact Nat.zero_le _ | (rw [hR]; decide)) (by first | exact Nat.zero_le _ | (rw [hR]; decide)) (by first | decide | (simp [Value.category])) 16 rfl ?_
  exact g_iret hX rfl rfl dS_resolved_16 ⟨rfl, rfl⟩ rfl (Nat.zero_le _) (Nat.zero_le _)
set_option maxRecDepth 100000 in
set_option maxHeartbeats 4000000 in
theorem c_S_origin_1 {l : Launch} (hl : l.stackTraces = false) {E : g_E} {A : w_A} {S Sm : q_S} {h : g_H} (hW : w_W E A S Sm h) (hB : w_B S) {s : Int32} (p : Int32) (hs : r_noShape S s = 1) : g_Ct l mS_origin 7 95 1 6 [.ref (A 0 0), .int s, .int p] E h (false, fun r h' => r = .inl 1 ∧ h' = h) := by
  refine g_Ct.of hl (by decide) (by first | rfl | simp [g_rfc, Value.category]) (Nat.le_of_ble_eq_true rfl) ?_
  intro X hX hXl hR
  obtain ⟨hnp, hns, hne, hpar, hhome, hact⟩ := id hB
  show g_Go E X _ h true 0 0 0 [some (.ref (A 0 0)), some (.int s), some (.int p), none] []
  refine g_aload_n hX dS_origin_0 rfl rfl (by first | rfl | exact g_rfr _) 1 rfl ?_
  refine g_iload_n hX dS_origin_1 rfl rfl 2 rfl ?_
  refine g_cV1 (wt := 0) hX (c_S_findShape_1 hX.tr hW hB hs) dS_origin_2 (w_s hW) kS_123 (g_rm.of hR (by decide) (by decide)) (by first | exact Nat.zero_le _ | (rw [hR]; decide)) (by first | exact Nat.zero_le _ | (rw [hR]; decide)) (by first | decide | (simp [Value.category])) (fun q => by cases q) 5 rfl (fun v h' hP => by cases hP.1) (fun k h' hP => ?_)
  obtain ⟨hk9, hh9⟩ := hP
  cases hk9
  subst hh9
  exact g_Th.out hX rfl ⟨rfl, rfl⟩ rfl (by rw [hR]; decide) (by rw [hR]; decide)
set_option maxRecDepth 100000 in
set_option maxHeartbeats 4000000 in
theorem c_S_origin_2 {l : Launch} (hl : l.stackTraces = false) {E : g_E} {A : w_A} {S Sm : q_S} {h : g_H} (hW : w_W E A S Sm h) (hB : w_B S) {j : Nat} (hj : j < q_ns S) {p : Int32} (hp : r_noProperty p = 1) : g_Ct l mS_origin 7 95 1 6 [.ref (A 0 0), .int (nI j), .int p] E h (false, fun r h' => r = .inl 0 ∧ h' = h) := by
  refine g_Ct.of hl (by decide) (by first | rfl | simp [g_rfc, Value.category]) (Nat.le_of_ble_eq_true rfl) ?_
  intro X hX hXl hR
  obtain ⟨hnp, hns, hne, hpar, hhome, hact⟩ := id hB
  show g_Go E X _ h true 0 0 0 [some (.ref (A 0 0)), some (.int (nI j)), some (.int p), none] []
  refine g_aload_n hX dS_origin_0 rfl rfl (by first | rfl | exact g_rfr _) 1 rfl ?_
  refine g_iload_n hX dS_origin_1 rfl rfl 2 rfl ?_
  refine g_cV1r (wt := 0) hX (c_S_findShape hX.tr hW hB hj) dS_origin_2 (w_s hW) kS_123 (g_rm.of hR (by decide) (by decide)) (by first | exact Nat.zero_le _ | (rw [hR]; decide)) (by first | exact Nat.zero_le _ | (rw [hR]; decide)) (by first | decide | (simp [Value.category])) 5 rfl ?_
  refine g_astore_n hX (L' := [_, _, _, _]) dS_origin_5 rfl (by decide) (by first | rfl | exact g_rfr _) rfl 6 rfl ?_
  refine g_iload_n hX dS_origin_6 rfl rfl 7 rfl ?_
  refine g_cS1 (wt := 0) hX (c_S_cp_1 hX.tr E h hp) dS_origin_7 kS_134 (g_rm.of hR (by decide) (by decide)) (by first | exact Nat.zero_le _ | (rw [hR]; decide)) (by first | exact Nat.zero_le _ | (rw [hR]; decide)) (by first | decide | (simp [Value.category])) (fun q => by cases q) 10 rfl (fun v h' hP => by cases hP.1) (fun k h' hP => ?_)
  obtain ⟨hk9, hh9⟩ := hP
  cases hk9
  subst hh9
  exact g_Th.out hX rfl ⟨rfl, rfl⟩ rfl (by rw [hR]; decide) (by rw [hR]; decide)
set_option maxRecDepth 100000 in
set_option maxHeartbeats 4000000 in
theorem c_S_origin_0 {l : Launch} (hl : l.stackTraces = false) {E : g_E} {A : w_A} {S Sm : q_S} {h : g_H} (hW : w_W E A S Sm h) (hB : w_B S) {j : Nat} (hj : j < q_ns S) {pr : Nat} (hpr : pr < 7) (hC : w_C S) : g_Rd l mS_origin 7 95 [.ref (A 0 0), .int (nI j), .int (nI pr)] E h (some (.int (q_oi (q_source S j pr)))) := by
  refine g_Rd.of hl (by decide) (by first | rfl | simp [g_rfc, Value.category]) (Nat.le_of_ble_eq_true rfl) ?_
  intro X hX hXl hR
  obtain ⟨hnp, hns, hne, hpar, hhome, hact⟩ := id hB
  show g_Go E X _ h true 0 0 0 [some (.ref (A 0 0)), some (.int (nI j)), some (.int (nI pr)), none] []
  refine g_aload_n hX dS_origin_0 rfl rfl (by first | rfl | exact g_rfr _) 1 rfl ?_
  refine g_iload_n hX dS_origin_1 rfl rfl 2 rfl ?_
  refine g_cV1r (wt := 0) hX (c_S_findShape hX.tr hW hB hj) dS_origin_2 (w_s hW) kS_123 (g_rm.of hR (by decide) (by decide)) (by first | exact Nat.zero_le _ | (rw [hR]; decide)) (by first | exact Nat.zero_le _ | (rw [hR]; decide)) (by first | decide | (simp [Value.category])) 5 rfl ?_
  refine g_astore_n hX (L' := [_, _, _, _]) dS_origin_5 rfl (by decide) (by first | rfl | exact g_rfr _) rfl 6 rfl ?_
  refine g_iload_n hX dS_origin_6 rfl rfl 7 rfl ?_
  refine g_cS1v (wt := 0) hX (c_S_cp_0 hX.tr E h hpr) dS_origin_7 kS_134 (g_rm.of hR (by decide) (by decide)) (by first | exact Nat.zero_le _ | (rw [hR]; decide)) (by first | exact Nat.zero_le _ | (rw [hR]; decide)) (by first | decide | (simp [Value.category])) 10 rfl ?_
  refine g_aload_n hX dS_origin_10 rfl rfl (by first | rfl | exact g_rfr _) 11 rfl ?_
  refine g_iload_n hX dS_origin_11 rfl rfl 12 rfl ?_
  refine g_cS2r (wt := 0) hX (c_S_source hX.tr hW hB hj hpr hC) dS_origin_12 kS_142 (g_rm.of hR (by decide) (by decide)) (by first | exact Nat.zero_le _ | (rw [hR]; decide)) (by first | exact Nat.zero_le _ | (rw [hR]; decide)) (by first | decide | (simp [Value.category])) 15 rfl ?_
  refine g_cS1r (wt := 0) hX (c_S_indexOf hX.tr hW hB (fun x q => q_source_lt hj q)) dS_origin_15 kS_146 (g_rm.of hR (by decide) (by decide)) (by first | exact Nat.zero_le _ | (rw [hR]; decide)) (by first | exact Nat.zero_le _ | (rw [hR]; decide)) (by first | decide | (simp [Value.category])) 18 rfl ?_
  exact g_iret hX rfl rfl dS_origin_18 ⟨rfl, rfl⟩ rfl (Nat.zero_le _) (Nat.zero_le _)
set_option maxRecDepth 100000 in
set_option maxHeartbeats 4000000 in
theorem c_S_now_1 {l : Launch} (hl : l.stackTraces = false) {E : g_E} {A : w_A} {S Sm : q_S} {h : g_H} (hW : w_W E A S Sm h) (hB : w_B S) {s : Int32} (p : Int32) (hs : r_noShape S s = 1) : g_Ct l mS_now 7 99 1 6 [.ref (A 0 0), .int s, .int p] E h (false, fun r h' => r = .inl 1 ∧ h' = h) := by
  refine g_Ct.of hl (by decide) (by first | rfl | simp [g_rfc, Value.category]) (Nat.le_of_ble_eq_true rfl) ?_
  intro X hX hXl hR
  obtain ⟨hnp, hns, hne, hpar, hhome, hact⟩ := id hB
  show g_Go E X _ h true 0 0 0 [some (.ref (A 0 0)), some (.int s), some (.int p), none] []
  refine g_aload_n hX dS_now_0 rfl rfl (by first | rfl | exact g_rfr _) 1 rfl ?_
  refine g_iload_n hX dS_now_1 rfl rfl 2 rfl ?_
  refine g_cV1 (wt := 0) hX (c_S_findShape_1 hX.tr hW hB hs) dS_now_2 (w_s hW) kS_123 (g_rm.of hR (by decide) (by decide)) (by first | exact Nat.zero_le _ | (rw [hR]; decide)) (by first | exact Nat.zero_le _ | (rw [hR]; decide)) (by first | decide | (simp [Value.category])) (fun q => by cases q) 5 rfl (fun v h' hP => by cases hP.1) (fun k h' hP => ?_)
  obtain ⟨hk9, hh9⟩ := hP
  cases hk9
  subst hh9
  exact g_Th.out hX rfl ⟨rfl, rfl⟩ rfl (by rw [hR]; decide) (by rw [hR]; decide)
set_option maxRecDepth 100000 in
set_option maxHeartbeats 4000000 in
theorem c_S_now_2 {l : Launch} (hl : l.stackTraces = false) {E : g_E} {A : w_A} {S Sm : q_S} {h : g_H} (hW : w_W E A S Sm h) (hB : w_B S) {j : Nat} (hj : j < q_ns S) {p : Int32} (hp : r_noProperty p = 1) : g_Ct l mS_now 7 99 1 6 [.ref (A 0 0), .int (nI j), .int p] E h (false, fun r h' => r = .inl 0 ∧ h' = h) := by
  refine g_Ct.of hl (by decide) (by first | rfl | simp [g_rfc, Value.category]) (Nat.le_of_ble_eq_true rfl) ?_
  intro X hX hXl hR
  obtain ⟨hnp, hns, hne, hpar, hhome, hact⟩ := id hB
  show g_Go E X _ h true 0 0 0 [some (.ref (A 0 0)), some (.int (nI j)), some (.int p), none] []
  refine g_aload_n hX dS_now_0 rfl rfl (by first | rfl | exact g_rfr _) 1 rfl ?_
  refine g_iload_n hX dS_now_1 rfl rfl 2 rfl ?_
  refine g_cV1r (wt := 0) hX (c_S_findShape hX.tr hW hB hj) dS_now_2 (w_s hW) kS_123 (g_rm.of hR (by decide) (by decide)) (by first | exact Nat.zero_le _ | (rw [hR]; decide)) (by first | exact Nat.zero_le _ | (rw [hR]; decide)) (by first | decide | (simp [Value.category])) 5 rfl ?_
  refine g_astore_n hX (L' := [_, _, _, _]) dS_now_5 rfl (by decide) (by first | rfl | exact g_rfr _) rfl 6 rfl ?_
  refine g_iload_n hX dS_now_6 rfl rfl 7 rfl ?_
  refine g_cS1 (wt := 0) hX (c_S_cp_1 hX.tr E h hp) dS_now_7 kS_134 (g_rm.of hR (by decide) (by decide)) (by first | exact Nat.zero_le _ | (rw [hR]; decide)) (by first | exact Nat.zero_le _ | (rw [hR]; decide)) (by first | decide | (simp [Value.category])) (fun q => by cases q) 10 rfl (fun v h' hP => by cases hP.1) (fun k h' hP => ?_)
  obtain ⟨hk9, hh9⟩ := hP
  cases hk9
  subst hh9
  exact g_Th.out hX rfl ⟨rfl, rfl⟩ rfl (by rw [hR]; decide) (by rw [hR]; decide)
set_option maxRecDepth 100000 in
set_option maxHeartbeats 4000000 in
theorem c_S_now_0 {l : Launch} (hl : l.stackTraces = false) {E : g_E} {A : w_A} {S Sm : q_S} {h : g_H} (hW : w_W E A S Sm h) (hB : w_B S) {j : Nat} (hj : j < q_ns S) {pr : Nat} (hpr : pr < 7) (hC : w_C S) : g_Rd l mS_now 7 99 [.ref (A 0 0), .int (nI j), .int (nI pr)] E h (some (.int (q_now S j pr))) := by
  refine g_Rd.of hl (by decide) (by first | rfl | simp [g_rfc, Value.category]) (Nat.le_of_ble_eq_true rfl) ?_
  intro X hX hXl hR
  obtain ⟨hnp, hns, hne, hpar, hhome, hact⟩ := id hB
  show g_Go E X _ h true 0 0 0 [some (.ref (A 0 0)), some (.int (nI j)), some (.int (nI pr)), none] []
  refine g_aload_n hX dS_now_0 rfl rfl (by first | rfl | exact g_rfr _) 1 rfl ?_
  refine g_iload_n hX dS_now_1 rfl rfl 2 rfl ?_
  refine g_cV1r (wt := 0) hX (c_S_findShape hX.tr hW hB hj) dS_now_2 (w_s hW) kS_123 (g_rm.of hR (by decide) (by decide)) (by first | exact Nat.zero_le _ | (rw [hR]; decide)) (by first | exact Nat.zero_le _ | (rw [hR]; decide)) (by first | decide | (simp [Value.category])) 5 rfl ?_
  refine g_astore_n hX (L' := [_, _, _, _]) dS_now_5 rfl (by decide) (by first | rfl | exact g_rfr _) rfl 6 rfl ?_
  refine g_iload_n hX dS_now_6 rfl rfl 7 rfl ?_
  refine g_cS1v (wt := 0) hX (c_S_cp_0 hX.tr E h hpr) dS_now_7 kS_134 (g_rm.of hR (by decide) (by decide)) (by first | exact Nat.zero_le _ | (rw [hR]; decide)) (by first | exact Nat.zero_le _ | (rw [hR]; decide)) (by first | decide | (simp [Value.category])) 10 rfl ?_
  refine g_aload_n hX dS_now_10 rfl rfl (by first | rfl | exact g_rfr _) 11 rfl ?_
  refine g_aload_n hX dS_now_11 rfl rfl (by first | rfl | exact g_rfr _) 12 rfl ?_
  refine g_iload_n hX dS_now_12 rfl rfl 13 rfl ?_
  refine g_cV2r (wt := 0) hX (c_S_valueNow hX.tr hW hB hC hj hpr) dS_now_13 (w_s hW) kS_289 (g_rm.of hR (by decide) (by decide)) (by first | exact Nat.zero_le _ | (rw [hR]; decide)) (by first | exact Nat.zero_le _ | (rw [hR]; decide)) (by first | decide | (simp [Value.category])) 16 rfl ?_
  exact g_iret hX rfl rfl dS_now_16 ⟨rfl, rfl⟩ rfl (Nat.zero_le _) (Nat.zero_le _)
set_option maxRecDepth 100000 in
set_option maxHeartbeats 4000000 in
theorem c_S_binding_1 {l : Launch} (hl : l.stackTraces = false) {E : g_E} {A : w_A} {S Sm : q_S} {h : g_H} (hW : w_W E A S Sm h) (hB : w_B S) {s : Int32} (hs : r_noShape S s = 1) : g_Ct l mS_binding 7 95 1 6 [.ref (A 0 0), .int s] E h (false, fun r h' => r = .inl 1 ∧ h' = h) := by
  refine g_Ct.of hl (by decide) (by first | rfl | simp [g_rfc, Value.category]) (Nat.le_of_ble_eq_true rfl) ?_
  intro X hX hXl hR
  obtain ⟨hnp, hns, hne, hpar, hhome, hact⟩ := id hB
  show g_Go E X _ h true 0 0 0 [some (.ref (A 0 0)), some (.int s), none] []
  refine g_aload_n hX dS_binding_0 rfl rfl (by first | rfl | exact g_rfr _) 1 rfl ?_
  refine g_iload_n hX dS_binding_1 rfl rfl 2 rfl ?_
  refine g_cV1 (wt := 0) hX (c_S_findShape_1 hX.tr hW hB hs) dS_binding_2 (w_s hW) kS_123 (g_rm.of hR (by decide) (by decide)) (by first | exact Nat.zero_le _ | (rw [hR]; decide)) (by first | exact Nat.zero_le _ | (rw [hR]; decide)) (by first | decide | (simp [Value.category])) (fun q => by cases q) 5 rfl (fun v h' hP => by cases hP.1) (fun k h' hP => ?_)
  obtain ⟨hk9, hh9⟩ := hP
  cases hk9
  subst hh9
  exact g_Th.out hX rfl ⟨rfl, rfl⟩ rfl (by rw [hR]; decide) (by rw [hR]; decide)
theorem c_S_sisb {l : Launch} (hl : l.stackTraces = false) {E : g_E} {A : w_A} {S Sm : q_S} {h : g_H} (hW : w_W E A S Sm h) (hB : w_B S) (hC : w_C S) {j : Nat} (hj : j < q_ns S) : g_Rd l mS_shapeInSlot 3 40 [va_rf ((q_par S (q_home S j)).map (A 2)), .int (S.2 1 j)] E h (some (va_rf ((q_bind S j).map (A 7)))) := by
  have hpar := hB.2.2.2.1
  have hhm := (hB.2.2.2.2.1 j hj).1
  unfold q_bind
  cases hq : q_par S (q_home S j) with
  | none =>
    have h9 := c_S_sis_n hl hW hB (S.2 1 j)
    split <;> exact h9
  | some p =>
    have hp : p < q_np S := by
      have := q_par_lt (hpar _ hhm) hq
      omega
    rcases hC.2.1 j hj with hs | hs
    · rw [if_pos (show S.2 1 j < 0 by rw [hs]; decide), hs]
      exact c_S_sis_m hl hW hB hp
    · rw [if_neg hs]
      exact c_S_sis hl hW hB hp (fun q => hs (by rw [q]; decide))
theorem q_bind_lt {S : q_S} {j x : Nat} (h : q_bind S j = some x) : x < q_ns S := by
  unfold q_bind at h
  split at h
  · cases h
  · split at h
    · cases h
    · exact q_slotted_lt h
set_option maxRecDepth 100000 in
set_option maxHeartbeats 4000000 in
theorem c_S_binding_0 {l : Launch} (hl : l.stackTraces = false) {E : g_E} {A : w_A} {S Sm : q_S} {h : g_H} (hW : w_W E A S Sm h) (hB : w_B S) {j : Nat} (hj : j < q_ns S) (hC : w_C S) : g_Rd l mS_binding 7 95 [.ref (A 0 0), .int (nI j)] E h (some (.int (q_oi (q_bind S j)))) := by
  refine g_Rd.of hl (by decide) (by first | rfl | simp [g_rfc, Value.category]) (Nat.le_of_ble_eq_true rfl) ?_
  intro X hX hXl hR
  obtain ⟨hnp, hns, hne, hpar, hhome, hact⟩ := id hB
  show g_Go E X _ h true 0 0 0 [some (.ref (A 0 0)), some (.int (nI j)), none] []
  refine g_aload_n hX dS_binding_0 rfl rfl (by first | rfl | exact g_rfr _) 1 rfl ?_
  refine g_iload_n hX dS_binding_1 rfl rfl 2 rfl ?_
  refine g_cV1r (wt := 0) hX (c_S_findShape hX.tr hW hB hj) dS_binding_2 (w_s hW) kS_123 (g_rm.of hR (by decide) (by decide)) (by first | exact Nat.zero_le _ | (rw [hR]; decide)) (by first | exact Nat.zero_le _ | (rw [hR]; decide)) (by first | decide | (simp [Value.category])) 5 rfl ?_
  refine g_astore_n hX (L' := [_, _, _]) dS_binding_5 rfl (by decide) (by first | rfl | exact g_rfr _) rfl 6 rfl ?_
  refine g_aload_n hX dS_binding_6 rfl rfl (by first | rfl | exact g_rfr _) 7 rfl ?_
  refine g_get hX dS_binding_7 fS_150 (w_c hW 7 j (by decide) hj) rfl 10 rfl ?_
  refine g_get hX dS_binding_10 fS_154 (w_c hW 2 (q_home S j) (by decide) (hhome j hj).1) rfl 13 rfl ?_
  refine g_aload_n hX dS_binding_13 rfl rfl (by first | rfl | exact g_rfr _) 14 rfl ?_
  refine g_get hX dS_binding_14 fS_157 (w_c hW 7 j (by decide) hj) rfl 17 rfl ?_
  refine g_cS2r (wt := 0) hX (c_S_sisb hX.tr hW hB hC hj) dS_binding_17 kS_99 (g_rm.of hR (by decide) (by decide)) (by first | exact Nat.zero_le _ | (rw [hR]; decide)) (by first | exact Nat.zero_le _ | (rw [hR]; decide)) (by first | decide | (simp [Value.category])) 20 rfl ?_
  refine g_cS1r (wt := 0) hX (c_S_indexOf hX.tr hW hB (fun x q => q_bind_lt q)) dS_binding_20 kS_146 (g_rm.of hR (by decide) (by decide)) (by first | exact Nat.zero_le _ | (rw [hR]; decide)) (by first | exact Nat.zero_le _ | (rw [hR]; decide)) (by first | decide | (simp [Value.category])) 23 rfl ?_
  exact g_iret hX rfl rfl dS_binding_23 ⟨rfl, rfl⟩ rfl (Nat.zero_le _) (Nat.zero_le _)
set_option maxRecDepth 100000 in
set_option maxHeartbeats 4000000 in
theorem c_S_timing_1 {l : Launch} (hl : l.stackTraces = false) {E : g_E} {A : w_A} {S Sm : q_S} {h : g_H} (hW : w_W E A S Sm h) (hB : w_B S) {s : Int32} (w : Int32) (hs : r_noEffect S s = 1) : g_Ct l mS_timing 7 95 1 6 [.ref (A 0 0), .int s, .int w] E h (false, fun r h' => r = .inl 1 ∧ h' = h) := by
  refine g_Ct.of hl (by decide) (by first | rfl | simp [g_rfc, Value.category]) (Nat.le_of_ble_eq_true rfl) ?_
  intro X hX hXl hR
  obtain ⟨hnp, hns, hne, hpar, hhome, hact⟩ := id hB
  show g_Go E X _ h true 0 0 0 [some (.ref (A 0 0)), some (.int s), some (.int w), none] []
  refine g_aload_n hX dS_timing_0 rfl rfl (by first | rfl | exact g_rfr _) 1 rfl ?_
  refine g_iload_n hX dS_timing_1 rfl rfl 2 rfl ?_
  refine g_cV1 (wt := 0) hX (c_S_findEffect_1 hX.tr hW hB hs) dS_timing_2 (w_s hW) kS_231 (g_rm.of hR (by decide) (by decide)) (by first | exact Nat.zero_le _ | (rw [hR]; decide)) (by first | exact Nat.zero_le _ | (rw [hR]; decide)) (by first | decide | (simp [Value.category])) (fun q => by cases q) 5 rfl (fun v h' hP => by cases hP.1) (fun k h' hP => ?_)
  obtain ⟨hk9, hh9⟩ := hP
  cases hk9
  subst hh9
  exact g_Th.out hX rfl ⟨rfl, rfl⟩ rfl (by rw [hR]; decide) (by rw [hR]; decide)
set_option maxRecDepth 100000 in
set_option maxHeartbeats 4000000 in
theorem c_S_timing_00 {l : Launch} (hl : l.stackTraces = false) {E : g_E} {A : w_A} {S Sm : q_S} {h : g_H} (hW : w_W E A S Sm h) (hB : w_B S) {e : Nat} (he : e < q_ne S)  : g_Rd l mS_timing 7 95 [.ref (A 0 0), .int (nI e), .int 0] E h (some (.int (q_start S e))) := by
  refine g_Rd.of hl (by decide) (by first | rfl | simp [g_rfc, Value.category]) (Nat.le_of_ble_eq_true rfl) ?_
  intro X hX hXl hR
  obtain ⟨hnp, hns, hne, hpar, hhome, hact⟩ := id hB
  show g_Go E X _ h true 0 0 0 [some (.ref (A 0 0)), some (.int (nI e)), some (.int 0), none] []
  refine g_aload_n hX dS_timing_0 rfl rfl (by first | rfl | exact g_rfr _) 1 rfl ?_
  refine g_iload_n hX dS_timing_1 rfl rfl 2 rfl ?_
  refine g_cV1r (wt := 0) hX (c_S_findEffect hX.tr hW hB he) dS_timing_2 (w_s hW) kS_231 (g_rm.of hR (by decide) (by decide)) (by first | exact Nat.zero_le _ | (rw [hR]; decide)) (by first | exact Nat.zero_le _ | (rw [hR]; decide)) (by first | decide | (simp [Value.category])) 5 rfl ?_
  refine g_astore_n hX (L' := [_, _, _, _]) dS_timing_5 rfl (by decide) (by first | rfl | exact g_rfr _) rfl 6 rfl ?_
  refine g_iload_n hX dS_timing_6 rfl rfl 7 rfl ?_
  refine g_tableIn hX (off := 29) 36 dS_timing_7 (by decide) (by decide) (by decide) (by decide) ?_
  refine g_aload_n hX dS_timing_36 rfl rfl (by first | rfl | exact g_rfr _) 37 rfl ?_
  refine g_get hX dS_timing_37 fS_240 (w_c hW 15 e (by decide) he) rfl 40 rfl ?_
  exact g_iret hX rfl rfl dS_timing_40 ⟨rfl, rfl⟩ rfl (Nat.zero_le _) (Nat.zero_le _)
set_option maxRecDepth 100000 in
set_option maxHeartbeats 4000000 in
theorem c_S_timing_01 {l : Launch} (hl : l.stackTraces = false) {E : g_E} {A : w_A} {S Sm : q_S} {h : g_H} (hW : w_W E A S Sm h) (hB : w_B S) {e : Nat} (he : e < q_ne S)  : g_Rd l mS_timing 7 95 [.ref (A 0 0), .int (nI e), .int 1] E h (some (.int (q_end S e))) := by
  refine g_Rd.of hl (by decide) (by first | rfl | simp [g_rfc, Value.category]) (Nat.le_of_ble_eq_true rfl) ?_
  intro X hX hXl hR
  obtain ⟨hnp, hns, hne, hpar, hhome, hact⟩ := id hB
  show g_Go E X _ h true 0 0 0 [some (.ref (A 0 0)), some (.int (nI e)), some (.int 1), none] []
  refine g_aload_n hX dS_timing_0 rfl rfl (by first | rfl | exact g_rfr _) 1 rfl ?_
  refine g_iload_n hX dS_timing_1 rfl rfl 2 rfl ?_
  refine g_cV1r (wt := 0) hX (c_S_findEffect hX.tr hW hB he) dS_timing_2 (w_s hW) kS_231 (g_rm.of hR (by decide) (by decide)) (by first | exact Nat.zero_le _ | (rw [hR]; decide)) (by first | exact Nat.zero_le _ | (rw [hR]; decide)) (by first | decide | (simp [Value.category])) 5 rfl ?_
  refine g_astore_n hX (L' := [_, _, _, _]) dS_timing_5 rfl (by decide) (by first | rfl | exact g_rfr _) rfl 6 rfl ?_
  refine g_iload_n hX dS_timing_6 rfl rfl 7 rfl ?_
  refine g_tableIn hX (off := 34) 41 dS_timing_7 (by decide) (by decide) (by decide) (by decide) ?_
  refine g_aload_n hX dS_timing_41 rfl rfl (by first | rfl | exact g_rfr _) 42 rfl ?_
  refine g_get hX dS_timing_42 fS_243 (w_c hW 15 e (by decide) he) rfl 45 rfl ?_
  exact g_iret hX rfl rfl dS_timing_45 ⟨rfl, rfl⟩ rfl (Nat.zero_le _) (Nat.zero_le _)
set_option maxRecDepth 100000 in
set_option maxHeartbeats 4000000 in
theorem c_S_timing_02 {l : Launch} (hl : l.stackTraces = false) {E : g_E} {A : w_A} {S Sm : q_S} {h : g_H} (hW : w_W E A S Sm h) (hB : w_B S) {e : Nat} (he : e < q_ne S)  : g_Rd l mS_timing 7 95 [.ref (A 0 0), .int (nI e), .int 2] E h (some (.int (nI (q_build S e)))) := by
  refine g_Rd.of hl (by decide) (by first | rfl | simp [g_rfc, Value.category]) (Nat.le_of_ble_eq_true rfl) ?_
  intro X hX hXl hR
  obtain ⟨hnp, hns, hne, hpar, hhome, hact⟩ := id hB
  show g_Go E X _ h true 0 0 0 [some (.ref (A 0 0)), some (.int (nI e)), some (.int 2), none] []
  refine g_aload_n hX dS_timing_0 rfl rfl (by first | rfl | exact g_rfr _) 1 rfl ?_
  refine g_iload_n hX dS_timing_1 rfl rfl 2 rfl ?_
  refine g_cV1r (wt := 0) hX (c_S_findEffect hX.tr hW hB he) dS_timing_2 (w_s hW) kS_231 (g_rm.of hR (by decide) (by decide)) (by first | exact Nat.zero_le _ | (rw [hR]; decide)) (by first | exact Nat.zero_le _ | (rw [hR]; decide)) (by first | decide | (simp [Value.category])) 5 rfl ?_
  refine g_astore_n hX (L' := [_, _, _, _]) dS_timing_5 rfl (by decide) (by first | rfl | exact g_rfr _) rfl 6 rfl ?_
  refine g_iload_n hX dS_timing_6 rfl rfl 7 rfl ?_
  refine g_tableIn hX (off := 39) 46 dS_timing_7 (by decide) (by decide) (by decide) (by decide) ?_
  refine g_aload_n hX dS_timing_46 rfl rfl (by first | rfl | exact g_rfr _) 47 rfl ?_
  refine g_get hX dS_timing_47 fS_246 (w_c hW 15 e (by decide) he) rfl 50 rfl ?_
  exact g_iret hX rfl rfl dS_timing_50 ⟨rfl, rfl⟩ rfl (Nat.zero_le _) (Nat.zero_le _)
set_option maxRecDepth 100000 in
set_option maxHeartbeats 4000000 in
theorem c_S_timing_04 {l : Launch} (hl : l.stackTraces = false) {E : g_E} {A : w_A} {S Sm : q_S} {h : g_H} (hW : w_W E A S Sm h) (hB : w_B S) {e : Nat} (he : e < q_ne S) {w : Int32} (hw : w.toInt < 0 ∨ 3 < w.toInt) : g_Rd l mS_timing 7 95 [.ref (A 0 0), .int (nI e), .int w] E h (some (.int (-1))) := by
  refine g_Rd.of hl (by decide) (by first | rfl | simp [g_rfc, Value.category]) (Nat.le_of_ble_eq_true rfl) ?_
  intro X hX hXl hR
  obtain ⟨hnp, hns, hne, hpar, hhome, hact⟩ := id hB
  show g_Go E X _ h true 0 0 0 [some (.ref (A 0 0)), some (.int (nI e)), some (.int w), none] []
  refine g_aload_n hX dS_timing_0 rfl rfl (by first | rfl | exact g_rfr _) 1 rfl ?_
  refine g_iload_n hX dS_timing_1 rfl rfl 2 rfl ?_
  refine g_cV1r (wt := 0) hX (c_S_findEffect hX.tr hW hB he) dS_timing_2 (w_s hW) kS_231 (g_rm.of hR (by decide) (by decide)) (by first | exact Nat.zero_le _ | (rw [hR]; decide)) (by first | exact Nat.zero_le _ | (rw [hR]; decide)) (by first | decide | (simp [Value.category])) 5 rfl ?_
  refine g_astore_n hX (L' := [_, _, _, _]) dS_timing_5 rfl (by decide) (by first | rfl | exact g_rfr _) rfl 6 rfl ?_
  refine g_iload_n hX dS_timing_6 rfl rfl 7 rfl ?_
  refine g_tableOut hX 72 dS_timing_7 hw (by decide) ?_
  refine g_iconst hX dS_timing_72 (v := (-1)) (by decide) 73 rfl ?_
  exact g_iret hX rfl rfl dS_timing_73 ⟨rfl, rfl⟩ rfl (Nat.zero_le _) (Nat.zero_le _)
set_option maxRecDepth 100000 in
set_option maxHeartbeats 4000000 in
theorem c_S_timing_03 {l : Launch} (hl : l.stackTraces = false) {E : g_E} {A : w_A} {S Sm : q_S} {h : g_H} (hW : w_W E A S Sm h) (hB : w_B S) {e : Nat} (he : e < q_ne S) (hC : w_C S) : g_Rd l mS_timing 7 95 [.ref (A 0 0), .int (nI e), .int 3] E h (some (.int (q_tm S e))) := by
  refine g_Rd.of hl (by decide) (by first | rfl | simp [g_rfc, Value.category]) (Nat.le_of_ble_eq_true rfl) ?_
  intro X hX hXl hR
  obtain ⟨hnp, hns, hne, hpar, hhome, hact⟩ := id hB
  have hep : q_epage S e < q_np S := (hhome _ (hact e he)).1
  show g_Go E X _ h true 0 0 0 [some (.ref (A 0 0)), some (.int (nI e)), some (.int 3), none] []
  refine g_aload_n hX dS_timing_0 rfl rfl (by first | rfl | exact g_rfr _) 1 rfl ?_
  refine g_iload_n hX dS_timing_1 rfl rfl 2 rfl ?_
  refine g_cV1r (wt := 0) hX (c_S_findEffect hX.tr hW hB he) dS_timing_2 (w_s hW) kS_231 (g_rm.of hR (by decide) (by decide)) (by first | exact Nat.zero_le _ | (rw [hR]; decide)) (by first | exact Nat.zero_le _ | (rw [hR]; decide)) (by first | decide | (simp [Value.category])) 5 rfl ?_
  refine g_astore_n hX (L' := [_, _, _, _]) dS_timing_5 rfl (by decide) (by first | rfl | exact g_rfr _) rfl 6 rfl ?_
  refine g_iload_n hX dS_timing_6 rfl rfl 7 rfl ?_
  refine g_tableIn hX (off := 44) 51 dS_timing_7 (by decide) (by decide) (by decide) (by decide) ?_
  refine g_aload_n hX dS_timing_51 rfl rfl (by first | rfl | exact g_rfr _) 52 rfl ?_
  refine g_get hX dS_timing_52 fS_249 (w_c hW 15 e (by decide) he) rfl 55 rfl ?_
  refine g_aload_n hX dS_timing_55 rfl rfl (by first | rfl | exact g_rfr _) 56 rfl ?_
  refine g_cV0r (wt := 1) hX (c_S_slideShown hX.tr hW hB hC) dS_timing_56 (w_s hW) kS_252 (g_rm.of hR (by decide) (by decide)) (by first | exact Nat.zero_le _ | (rw [hR]; decide)) (by first | exact Nat.zero_le _ | (rw [hR]; decide)) (by first | decide | (simp [Value.category])) 59 rfl ?_
  refine g_acmp_ne (rx := some (A 2 (q_epage S e))) (ry := (q_slide S (nI (q_at S))).map (A 2)) hX dS_timing_59 70 62 (by decide) rfl (fun c59 => ?_) (fun c59 => ?_)
  · refine g_iconst hX dS_timing_70 (v := (-1)) (by decide) 71 rfl ?_
    exact g_iret hX rfl rfl dS_timing_71 ⟨by unfold q_tm; rw [if_neg (fun q => c59 ((w_pgeq hW hB hep (fun x q => q_slide_lt q)).mpr q))], rfl⟩ rfl (Nat.zero_le _) (Nat.zero_le _)
  · refine g_aload_n hX dS_timing_62 rfl rfl (by first | rfl | exact g_rfr _) 63 rfl ?_
    refine g_aload_n hX dS_timing_63 rfl rfl (by first | rfl | exact g_rfr _) 64 rfl ?_
    refine g_cV1r (wt := 0) hX (c_S_progress hX.tr hW hB he) dS_timing_64 (w_s hW) kS_256 (g_rm.of hR (by decide) (by decide)) (by first | exact Nat.zero_le _ | (rw [hR]; decide)) (by first | exact Nat.zero_le _ | (rw [hR]; decide)) (by first | decide | (simp [Value.category])) 67 rfl ?_
    refine g_goto hX dS_timing_67 71 (by decide) ?_
    exact g_iret hX rfl rfl dS_timing_71 ⟨by unfold q_tm; rw [if_pos ((w_pgeq hW hB hep (fun x q => q_slide_lt q)).mp c59)], rfl⟩ rfl (Nat.zero_le _) (Nat.zero_le _)
theorem q_sl_none {S : q_S} (hB : w_B S) (hC : w_C S) : q_slide S (nI (q_at S)) = none ↔ q_sl S = [] := by
  rcases hC.2.2.2.2.2 with h8 | h8
  · rw [h8.2.1, q_slide_sl hB (by decide), h8.1]
    simp
  · have h1 := q_sl_len S
    have h2 := hB.1
    rw [q_slide_sl hB (by omega), List.getElem?_eq_none_iff]
    constructor
    · intro q
      omega
    · intro q
      rw [q] at h8
      exact absurd h8 (Nat.not_lt_zero _)
theorem w_sa_n {S : q_S} (hB : w_B S) (hC : w_C S) (hs : q_slide S (nI (q_at S)) = none) : w_slideAt S = -1 := if_pos ((q_sl_none hB hC).mp hs)
theorem w_sa_s {S : q_S} {p : Nat} (hB : w_B S) (hC : w_C S) (hs : q_slide S (nI (q_at S)) = some p) : w_slideAt S = nI (q_at S) := if_neg (fun q => by rw [(q_sl_none hB hC).mpr q] at hs; cases hs)
set_option maxRecDepth 100000 in
set_option maxHeartbeats 4000000 in
theorem c_S_state_0n {l : Launch} (hl : l.stackTraces = false) {E : g_E} {A : w_A} {S Sm : q_S} {h : g_H} (hW : w_W E A S Sm h) (hB : w_B S)  (hC : w_C S) (hs : q_slide S (nI (q_at S)) = none) : g_Rd l mS_state 5 65 [.ref (A 0 0), .int 0] E h (some (.int (-1))) := by
  refine g_Rd.of hl (by decide) (by first | rfl | simp [g_rfc, Value.category]) (Nat.le_of_ble_eq_true rfl) ?_
  intro X hX hXl hR
  obtain ⟨hnp, hns, hne, hpar, hhome, hact⟩ := id hB
  show g_Go E X _ h true 0 0 0 [some (.ref (A 0 0)), some (.int 0)] []
  refine g_iload_n hX dS_state_0 rfl rfl 1 rfl ?_
  refine g_tableIn hX (off := 35) 36 dS_state_1 (by decide) (by decide) (by decide) (by decide) ?_
  refine g_aload_n hX dS_state_36 rfl rfl (by first | rfl | exact g_rfr _) 37 rfl ?_
  refine g_get hX dS_state_37 fS_37 (w_s hW) rfl 40 rfl ?_
  exact g_iret hX rfl rfl dS_state_40 ⟨by rw [w_sa_n hB hC hs], rfl⟩ rfl (Nat.zero_le _) (Nat.zero_le _)
set_option maxRecDepth 100000 in
set_option maxHeartbeats 4000000 in
theorem c_S_state_0s {l : Launch} (hl : l.stackTraces = false) {E : g_E} {A : w_A} {S Sm : q_S} {h : g_H} (hW : w_W E A S Sm h) (hB : w_B S) {p : Nat} (hC : w_C S) (hs : q_slide S (nI (q_at S)) = some p) : g_Rd l mS_state 5 65 [.ref (A 0 0), .int 0] E h (some (.int (nI (q_at S)))) := by
  refine g_Rd.of hl (by decide) (by first | rfl | simp [g_rfc, Value.category]) (Nat.le_of_ble_eq_true rfl) ?_
  intro X hX hXl hR
  obtain ⟨hnp, hns, hne, hpar, hhome, hact⟩ := id hB
  show g_Go E X _ h true 0 0 0 [some (.ref (A 0 0)), some (.int 0)] []
  refine g_iload_n hX dS_state_0 rfl rfl 1 rfl ?_
  refine g_tableIn hX (off := 35) 36 dS_state_1 (by decide) (by decide) (by decide) (by decide) ?_
  refine g_aload_n hX dS_state_36 rfl rfl (by first | rfl | exact g_rfr _) 37 rfl ?_
  refine g_get hX dS_state_37 fS_37 (w_s hW) rfl 40 rfl ?_
  exact g_iret hX rfl rfl dS_state_40 ⟨by rw [w_sa_s hB hC hs], rfl⟩ rfl (Nat.zero_le _) (Nat.zero_le _)
set_option maxRecDepth 100000 in
set_option maxHeartbeats 4000000 in
theorem c_S_state_1 {l : Launch} (hl : l.stackTraces = false) {E : g_E} {A : w_A} {S Sm : q_S} {h : g_H} (hW : w_W E A S Sm h) (hB : w_B S)   : g_Rd l mS_state 5 65 [.ref (A 0 0), .int 1] E h (some (.int (nI (q_clicks S)))) := by
  refine g_Rd.of hl (by decide) (by first | rfl | simp [g_rfc, Value.category]) (Nat.le_of_ble_eq_true rfl) ?_
  intro X hX hXl hR
  obtain ⟨hnp, hns, hne, hpar, hhome, hact⟩ := id hB
  show g_Go E X _ h true 0 0 0 [some (.ref (A 0 0)), some (.int 1)] []
  refine g_iload_n hX dS_state_0 rfl rfl 1 rfl ?_
  refine g_tableIn hX (off := 40) 41 dS_state_1 (by decide) (by decide) (by decide) (by decide) ?_
  refine g_aload_n hX dS_state_41 rfl rfl (by first | rfl | exact g_rfr _) 42 rfl ?_
  refine g_get hX dS_state_42 fS_41 (w_s hW) rfl 45 rfl ?_
  exact g_iret hX rfl rfl dS_state_45 ⟨rfl, rfl⟩ rfl (Nat.zero_le _) (Nat.zero_le _)
set_option maxRecDepth 100000 in
set_option maxHeartbeats 4000000 in
theorem c_S_state_2 {l : Launch} (hl : l.stackTraces = false) {E : g_E} {A : w_A} {S Sm : q_S} {h : g_H} (hW : w_W E A S Sm h) (hB : w_B S)   : g_Rd l mS_state 5 65 [.ref (A 0 0), .int 2] E h (some (.int (q_time S))) := by
  refine g_Rd.of hl (by decide) (by first | rfl | simp [g_rfc, Value.category]) (Nat.le_of_ble_eq_true rfl) ?_
  intro X hX hXl hR
  obtain ⟨hnp, hns, hne, hpar, hhome, hact⟩ := id hB
  show g_Go E X _ h true 0 0 0 [some (.ref (A 0 0)), some (.int 2)] []
  refine g_iload_n hX dS_state_0 rfl rfl 1 rfl ?_
  refine g_tableIn hX (off := 45) 46 dS_state_1 (by decide) (by decide) (by decide) (by decide) ?_
  refine g_aload_n hX dS_state_46 rfl rfl (by first | rfl | exact g_rfr _) 47 rfl ?_
  refine g_get hX dS_state_47 fS_44 (w_s hW) rfl 50 rfl ?_
  exact g_iret hX rfl rfl dS_state_50 ⟨rfl, rfl⟩ rfl (Nat.zero_le _) (Nat.zero_le _)
set_option maxRecDepth 100000 in
set_option maxHeartbeats 4000000 in
theorem c_S_state_3n {l : Launch} (hl : l.stackTraces = false) {E : g_E} {A : w_A} {S Sm : q_S} {h : g_H} (hW : w_W E A S Sm h) (hB : w_B S)  (hC : w_C S) (hs : q_slide S (nI (q_at S)) = none) : g_Rd l mS_state 5 65 [.ref (A 0 0), .int 3] E h (some (.int 0)) := by
  refine g_Rd.of hl (by decide) (by first | rfl | simp [g_rfc, Value.category]) (Nat.le_of_ble_eq_true rfl) ?_
  intro X hX hXl hR
  obtain ⟨hnp, hns, hne, hpar, hhome, hact⟩ := id hB
  show g_Go E X _ h true 0 0 0 [some (.ref (A 0 0)), some (.int 3)] []
  refine g_iload_n hX dS_state_0 rfl rfl 1 rfl ?_
  refine g_tableIn hX (off := 50) 51 dS_state_1 (by decide) (by decide) (by decide) (by decide) ?_
  refine g_aload_n hX dS_state_51 rfl rfl (by first | rfl | exact g_rfr _) 52 rfl ?_
  refine g_cV0r (wt := 0) hX ((show g_Rd X.l mS_slideShown 4 53 [.ref (A 0 0)] E h (some .null) by have h9 := c_S_slideShown hX.tr hW hB hC; rw [hs] at h9; exact h9)) dS_state_52 (w_s hW) kS_252 (g_rm.of hR (by decide) (by decide)) (by first | exact Nat.zero_le _ | (rw [hR]; decide)) (by first | exact Nat.zero_le _ | (rw [hR]; decide)) (by first | decide | (simp [Value.category])) 55 rfl ?_
  refine g_cS1r (wt := 0) hX (c_S_lastBuild_n hX.tr hW hB) dS_state_55 kS_260 (g_rm.of hR (by decide) (by decide)) (by first | exact Nat.zero_le _ | (rw [hR]; decide)) (by first | exact Nat.zero_le _ | (rw [hR]; decide)) (by first | decide | (simp [Value.category])) 58 rfl ?_
  exact g_iret hX rfl rfl dS_state_58 ⟨rfl, rfl⟩ rfl (Nat.zero_le _) (Nat.zero_le _)
set_option maxRecDepth 100000 in
set_option maxHeartbeats 4000000 in
theorem c_S_state_3s {l : Launch} (hl : l.stackTraces = false) {E : g_E} {A : w_A} {S Sm : q_S} {h : g_H} (hW : w_W E A S Sm h) (hB : w_B S) {p : Nat} (hC : w_C S) (hs : q_slide S (nI (q_at S)) = some p) : g_Rd l mS_state 5 65 [.ref (A 0 0), .int 3] E h (some (.int (nI (q_last S p)))) := by
  refine g_Rd.of hl (by decide) (by first | rfl | simp [g_rfc, Value.category]) (Nat.le_of_ble_eq_true rfl) ?_
  intro X hX hXl hR
  obtain ⟨hnp, hns, hne, hpar, hhome, hact⟩ := id hB
  show g_Go E X _ h true 0 0 0 [some (.ref (A 0 0)), some (.int 3)] []
  refine g_iload_n hX dS_state_0 rfl rfl 1 rfl ?_
  refine g_tableIn hX (off := 50) 51 dS_state_1 (by decide) (by decide) (by decide) (by decide) ?_
  refine g_aload_n hX dS_state_51 rfl rfl (by first | rfl | exact g_rfr _) 52 rfl ?_
  refine g_cV0r (wt := 0) hX ((show g_Rd X.l mS_slideShown 4 53 [.ref (A 0 0)] E h (some (.ref (A 2 p))) by have h9 := c_S_slideShown hX.tr hW hB hC; rw [hs] at h9; exact h9)) dS_state_52 (w_s hW) kS_252 (g_rm.of hR (by decide) (by decide)) (by first | exact Nat.zero_le _ | (rw [hR]; decide)) (by first | exact Nat.zero_le _ | (rw [hR]; decide)) (by first | decide | (simp [Value.category])) 55 rfl ?_
  refine g_cS1r (wt := 0) hX (c_S_lastBuild hX.tr hW hB (q_slide_lt hs)) dS_state_55 kS_260 (g_rm.of hR (by decide) (by decide)) (by first | exact Nat.zero_le _ | (rw [hR]; decide)) (by first | exact Nat.zero_le _ | (rw [hR]; decide)) (by first | decide | (simp [Value.category])) 58 rfl ?_
  exact g_iret hX rfl rfl dS_state_58 ⟨rfl, rfl⟩ rfl (Nat.zero_le _) (Nat.zero_le _)
set_option maxRecDepth 100000 in
set_option maxHeartbeats 4000000 in
theorem c_S_state_4n {l : Launch} (hl : l.stackTraces = false) {E : g_E} {A : w_A} {S Sm : q_S} {h : g_H} (hW : w_W E A S Sm h) (hB : w_B S)  (hC : w_C S) (hs : q_slide S (nI (q_at S)) = none) : g_Rd l mS_state 5 65 [.ref (A 0 0), .int 4] E h (some (.int 0)) := by
  refine g_Rd.of hl (by decide) (by first | rfl | simp [g_rfc, Value.category]) (Nat.le_of_ble_eq_true rfl) ?_
  intro X hX hXl hR
  obtain ⟨hnp, hns, hne, hpar, hhome, hact⟩ := id hB
  show g_Go E X _ h true 0 0 0 [some (.ref (A 0 0)), some (.int 4)] []
  refine g_iload_n hX dS_state_0 rfl rfl 1 rfl ?_
  refine g_tableIn hX (off := 58) 59 dS_state_1 (by decide) (by decide) (by decide) (by decide) ?_
  refine g_aload_n hX dS_state_59 rfl rfl (by first | rfl | exact g_rfr _) 60 rfl ?_
  refine g_cV0r (wt := 0) hX ((show g_Rd X.l mS_slideShown 4 53 [.ref (A 0 0)] E h (some .null) by have h9 := c_S_slideShown hX.tr hW hB hC; rw [hs] at h9; exact h9)) dS_state_60 (w_s hW) kS_252 (g_rm.of hR (by decide) (by decide)) (by first | exact Nat.zero_le _ | (rw [hR]; decide)) (by first | exact Nat.zero_le _ | (rw [hR]; decide)) (by first | decide | (simp [Value.category])) 63 rfl ?_
  refine g_aload_n hX dS_state_63 rfl rfl (by first | rfl | exact g_rfr _) 64 rfl ?_
  refine g_get hX dS_state_64 fS_41 (w_s hW) rfl 67 rfl ?_
  refine g_cS2r (wt := 0) hX (c_S_lob_n hX.tr hW hB _) dS_state_67 kS_285 (g_rm.of hR (by decide) (by decide)) (by first | exact Nat.zero_le _ | (rw [hR]; decide)) (by first | exact Nat.zero_le _ | (rw [hR]; decide)) (by first | decide | (simp [Value.category])) 70 rfl ?_
  exact g_iret hX rfl rfl dS_state_70 ⟨rfl, rfl⟩ rfl (Nat.zero_le _) (Nat.zero_le _)
set_option maxRecDepth 100000 in
set_option maxHeartbeats 4000000 in
theorem c_S_state_4s {l : Launch} (hl : l.stackTraces = false) {E : g_E} {A : w_A} {S Sm : q_S} {h : g_H} (hW : w_W E A S Sm h) (hB : w_B S) {p : Nat} (hC : w_C S) (hs : q_slide S (nI (q_at S)) = some p) : g_Rd l mS_state 5 65 [.ref (A 0 0), .int 4] E h (some (.int (q_len S p (nI (q_clicks S)) (q_ne S)))) := by
  refine g_Rd.of hl (by decide) (by first | rfl | simp [g_rfc, Value.category]) (Nat.le_of_ble_eq_true rfl) ?_
  intro X hX hXl hR
  obtain ⟨hnp, hns, hne, hpar, hhome, hact⟩ := id hB
  show g_Go E X _ h true 0 0 0 [some (.ref (A 0 0)), some (.int 4)] []
  refine g_iload_n hX dS_state_0 rfl rfl 1 rfl ?_
  refine g_tableIn hX (off := 58) 59 dS_state_1 (by decide) (by decide) (by decide) (by decide) ?_
  refine g_aload_n hX dS_state_59 rfl rfl (by first | rfl | exact g_rfr _) 60 rfl ?_
  refine g_cV0r (wt := 0) hX ((show g_Rd X.l mS_slideShown 4 53 [.ref (A 0 0)] E h (some (.ref (A 2 p))) by have h9 := c_S_slideShown hX.tr hW hB hC; rw [hs] at h9; exact h9)) dS_state_60 (w_s hW) kS_252 (g_rm.of hR (by decide) (by decide)) (by first | exact Nat.zero_le _ | (rw [hR]; decide)) (by first | exact Nat.zero_le _ | (rw [hR]; decide)) (by first | decide | (simp [Value.category])) 63 rfl ?_
  refine g_aload_n hX dS_state_63 rfl rfl (by first | rfl | exact g_rfr _) 64 rfl ?_
  refine g_get hX dS_state_64 fS_41 (w_s hW) rfl 67 rfl ?_
  refine g_cS2r (wt := 0) hX (c_S_lob hX.tr hW hB (q_slide_lt hs) _) dS_state_67 kS_285 (g_rm.of hR (by decide) (by decide)) (by first | exact Nat.zero_le _ | (rw [hR]; decide)) (by first | exact Nat.zero_le _ | (rw [hR]; decide)) (by first | decide | (simp [Value.category])) 70 rfl ?_
  exact g_iret hX rfl rfl dS_state_70 ⟨rfl, rfl⟩ rfl (Nat.zero_le _) (Nat.zero_le _)
set_option maxRecDepth 100000 in
set_option maxHeartbeats 4000000 in
theorem c_S_state_5 {l : Launch} (hl : l.stackTraces = false) {E : g_E} {A : w_A} {S Sm : q_S} {h : g_H} (hW : w_W E A S Sm h) (hB : w_B S) {w : Int32} (hw : w.toInt < 0 ∨ 4 < w.toInt) : g_Rd l mS_state 5 65 [.ref (A 0 0), .int w] E h (some (.int (-1))) := by
  refine g_Rd.of hl (by decide) (by first | rfl | simp [g_rfc, Value.category]) (Nat.le_of_ble_eq_true rfl) ?_
  intro X hX hXl hR
  obtain ⟨hnp, hns, hne, hpar, hhome, hact⟩ := id hB
  show g_Go E X _ h true 0 0 0 [some (.ref (A 0 0)), some (.int w)] []
  refine g_iload_n hX dS_state_0 rfl rfl 1 rfl ?_
  refine g_tableOut hX 71 dS_state_1 hw (by decide) ?_
  refine g_iconst hX dS_state_71 (v := (-1)) (by decide) 72 rfl ?_
  exact g_iret hX rfl rfl dS_state_72 ⟨rfl, rfl⟩ rfl (Nat.zero_le _) (Nat.zero_le _)
