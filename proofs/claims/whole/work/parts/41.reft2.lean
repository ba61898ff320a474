theorem q_nle_lt {a b : Int32} (h : ¬ b ≤ a) : a < b := by
  rw [Int32.lt_iff_toInt_lt]
  rw [Int32.le_iff_toInt_le] at h
  omega
theorem q_ta0 (S : q_S) (c : Int32) : q_ta (q_up2 S 13 1 c) S := ⟨⟨rfl, rfl, rfl, rfl, rfl, rfl, rfl⟩, rfl, rfl, rfl, rfl⟩
theorem c_M_fit0 {l : Launch} (hl : l.stackTraces = false) {E : g_E} {A : w_A} {Sc S : q_S} {h : g_H} (hW : w_W E A Sc (q_up2 S 13 1 0) h) (hB : w_B S) (hT : ∀ t, S.1 4 t ≤ 4) {j : Nat} (hj : j < q_ns S) {s : Nat} (hs : q_value S j 6 = nI s) (hs31 : s < 2 ^ 31) : g_Ct l mM_fit 4 67 0 0 [.ref (A 30 0), .int (nI j)] E h (false, fun r' h' => r' = .inr (some (.int (q_fit S j s (q_gL S 14 5)).1)) ∧ w_W E A Sc (q_wL (q_up2 S 13 1 0) 14 5 (q_fit S j s (q_gL S 14 5)).2) h') := by
  have h1 := c_M_fit (S := q_up2 S 13 1 0) (L := q_gL S 14 5) hl (by rw [show q_gL S 14 5 = q_gL (q_up2 S 13 1 0) 14 5 from rfl, q_wL_g]; exact hW) hB hT hj ((q_value_va (q_ta0 S 0).1 j 6).trans hs) hs31
  rw [q_fit_ta (q_ta0 S 0)] at h1
  exact h1
set_option maxRecDepth 100000 in
set_option maxHeartbeats 4000000 in
theorem c_M_scale_1 {l : Launch} (hl : l.stackTraces = false) {E : g_E} {A : w_A} {Sc S : q_S} {h : g_H} (hW : w_W E A Sc S h) (hB : w_B S) {s : Int32} (hs : r_noShape S s = 1) : g_Ct l mM_scale 5 81 0 0 [.ref (A 30 0), .int s] E h (false, fun r h' => r = .inr (some (.int 0)) ∧ w_W E A Sc (q_up2 S 13 1 1) h') := by
  refine g_Ct.of hl (by decide) rfl (Nat.le_of_ble_eq_true rfl) ?_
  intro X hX hXl hR
  obtain ⟨hnp, hns, hne, hpar, hhome, hact⟩ := id hB
  show g_Go E X _ h true 0 0 0 [some (.ref (A 30 0)), some (.int s)] []
  refine g_aload_n hX dM_scale_0 rfl rfl (by first | rfl | exact g_rfr _) 1 rfl ?_
  refine g_aload_n hX dM_scale_1 rfl rfl (by first | rfl | exact g_rfr _) 2 rfl ?_
  refine g_iload_n hX dM_scale_2 rfl rfl 3 rfl ?_
  refine g_cV1r (wt := 1) hX (c_M_noShape hX.tr hW.r hB _) dM_scale_3 (w_m hW.r) kM_98 (g_rm.of hR (by decide) (by decide)) (by first | exact Nat.zero_le _ | (rw [hR]; decide)) (by first | exact Nat.zero_le _ | (rw [hR]; decide)) (by first | decide | (simp [Value.category])) 6 rfl ?_
  refine g_if_eq hX dM_scale_6 13 9 (by decide) rfl (fun c6 => ?_) (fun c6 => ?_)
  · exact absurd (c6.symm.trans hs) (by decide)
  · refine g_iconst hX dM_scale_9 (v := 1) (by decide) 10 rfl ?_
    refine g_goto hX dM_scale_10 14 (by decide) ?_
    refine g_put0 hX dM_scale_14 fM_75 (w_m hW.r) (w_baseM hW 30 (by decide) (by decide)) rfl rfl (Nat.le_of_ble_eq_true rfl) 17 rfl ?_
    refine g_stepM hW 30 (q_up2 S 13 1 _) (by decide) (by decide) w_hc13 rfl (fun h hW => ?_)
    refine g_aload_n hX dM_scale_17 rfl rfl (by first | rfl | exact g_rfr _) 18 rfl ?_
    refine g_get hX dM_scale_18 fM_75 (w_m hW.r) rfl 21 rfl ?_
    refine g_if_le hX dM_scale_21 28 24 (by decide) rfl (fun c21 => ?_) (fun c21 => ?_)
    · exact absurd c21 (show ¬ (1 : Int32) ≤ 0 by decide)
    · refine g_iconst hX dM_scale_24 (v := 0) (by decide) 25 rfl ?_
      refine g_goto hX dM_scale_25 33 (by decide) ?_
      exact g_iret hX rfl rfl dM_scale_33 ⟨rfl, hW⟩ rfl (Nat.zero_le _) (Nat.zero_le _)
set_option maxRecDepth 100000 in
set_option maxHeartbeats 4000000 in
theorem c_M_lines_1 {l : Launch} (hl : l.stackTraces = false) {E : g_E} {A : w_A} {Sc S : q_S} {h : g_H} (hW : w_W E A Sc S h) (hB : w_B S) {s : Int32} (hs : r_noShape S s = 1) : g_Ct l mM_lines 5 81 0 0 [.ref (A 30 0), .int s] E h (false, fun r h' => r = .inr (some (.int 0)) ∧ w_W E A Sc (q_up2 S 13 1 1) h') := by
  refine g_Ct.of hl (by decide) rfl (Nat.le_of_ble_eq_true rfl) ?_
  intro X hX hXl hR
  obtain ⟨hnp, hns, hne, hpar, hhome, hact⟩ := id hB
  show g_Go E X _ h true 0 0 0 [some (.ref (A 30 0)), some (.int s), none] []
  refine g_aload_n hX dM_lines_0 rfl rfl (by first | rfl | exact g_rfr _) 1 rfl ?_
  refine g_aload_n hX dM_lines_1 rfl rfl (by first | rfl | exact g_rfr _) 2 rfl ?_
  refine g_iload_n hX dM_lines_2 rfl rfl 3 rfl ?_
  refine g_cV1r (wt := 1) hX (c_M_noShape hX.tr hW.r hB _) dM_lines_3 (w_m hW.r) kM_98 (g_rm.of hR (by decide) (by decide)) (by first | exact Nat.zero_le _ | (rw [hR]; decide)) (by first | exact Nat.zero_le _ | (rw [hR]; decide)) (by first | decide | (simp [Value.category])) 6 rfl ?_
  refine g_if_eq hX dM_lines_6 13 9 (by decide) rfl (fun c6 => ?_) (fun c6 => ?_)
  · exact absurd (c6.symm.trans hs) (by decide)
  · refine g_iconst hX dM_lines_9 (v := 1) (by decide) 10 rfl ?_
    refine g_goto hX dM_lines_10 14 (by decide) ?_
    refine g_put0 hX dM_lines_14 fM_75 (w_m hW.r) (w_baseM hW 30 (by decide) (by decide)) rfl rfl (Nat.le_of_ble_eq_true rfl) 17 rfl ?_
    refine g_stepM hW 30 (q_up2 S 13 1 _) (by decide) (by decide) w_hc13 rfl (fun h hW => ?_)
    refine g_aload_n hX dM_lines_17 rfl rfl (by first | rfl | exact g_rfr _) 18 rfl ?_
    refine g_get hX dM_lines_18 fM_75 (w_m hW.r) rfl 21 rfl ?_
    refine g_if_le hX dM_lines_21 26 24 (by decide) rfl (fun c21 => ?_) (fun c21 => ?_)
    · exact absurd c21 (show ¬ (1 : Int32) ≤ 0 by decide)
    · refine g_iconst hX dM_lines_24 (v := 0) (by decide) 25 rfl ?_
      exact g_iret hX rfl rfl dM_lines_25 ⟨rfl, hW⟩ rfl (Nat.zero_le _) (Nat.zero_le _)
set_option maxRecDepth 100000 in
set_option maxHeartbeats 4000000 in
theorem c_M_line_1 {l : Launch} (hl : l.stackTraces = false) {E : g_E} {A : w_A} {Sc S : q_S} {h : g_H} (hW : w_W E A Sc S h) (hB : w_B S) {s : Int32} (k : Int32) (what : Int32) (hs : r_noShape S s = 1) : g_Ct l mM_line 5 81 0 0 [.ref (A 30 0), .int s, .int k, .int what] E h (false, fun r h' => r = .inr (some (.int 0)) ∧ w_W E A Sc (q_up2 S 13 1 1) h') := by
  refine g_Ct.of hl (by decide) rfl (Nat.le_of_ble_eq_true rfl) ?_
  intro X hX hXl hR
  obtain ⟨hnp, hns, hne, hpar, hhome, hact⟩ := id hB
  show g_Go E X _ h true 0 0 0 [some (.ref (A 30 0)), some (.int s), some (.int k), some (.int what), none] []
  refine g_aload_n hX dM_line_0 rfl rfl (by first | rfl | exact g_rfr _) 1 rfl ?_
  refine g_aload_n hX dM_line_1 rfl rfl (by first | rfl | exact g_rfr _) 2 rfl ?_
  refine g_iload_n hX dM_line_2 rfl rfl 3 rfl ?_
  refine g_cV1r (wt := 1) hX (c_M_noShape hX.tr hW.r hB _) dM_line_3 (w_m hW.r) kM_98 (g_rm.of hR (by decide) (by decide)) (by first | exact Nat.zero_le _ | (rw [hR]; decide)) (by first | exact Nat.zero_le _ | (rw [hR]; decide)) (by first | decide | (simp [Value.category])) 6 rfl ?_
  refine g_if_eq hX dM_line_6 13 9 (by decide) rfl (fun c6 => ?_) (fun c6 => ?_)
  · exact absurd (c6.symm.trans hs) (by decide)
  · refine g_iconst hX dM_line_9 (v := 1) (by decide) 10 rfl ?_
    refine g_goto hX dM_line_10 14 (by decide) ?_
    refine g_put0 hX dM_line_14 fM_75 (w_m hW.r) (w_baseM hW 30 (by decide) (by decide)) rfl rfl (Nat.le_of_ble_eq_true rfl) 17 rfl ?_
    refine g_stepM hW 30 (q_up2 S 13 1 _) (by decide) (by decide) w_hc13 rfl (fun h hW => ?_)
    refine g_aload_n hX dM_line_17 rfl rfl (by first | rfl | exact g_rfr _) 18 rfl ?_
    refine g_get hX dM_line_18 fM_75 (w_m hW.r) rfl 21 rfl ?_
    refine g_if_le hX dM_line_21 26 24 (by decide) rfl (fun c21 => ?_) (fun c21 => ?_)
    · exact absurd c21 (show ¬ (1 : Int32) ≤ 0 by decide)
    · refine g_iconst hX dM_line_24 (v := 0) (by decide) 25 rfl ?_
      exact g_iret hX rfl rfl dM_line_25 ⟨rfl, hW⟩ rfl (Nat.zero_le _) (Nat.zero_le _)
set_option maxRecDepth 100000 in
set_option maxHeartbeats 4000000 in
theorem c_M_scale_0 {l : Launch} (hl : l.stackTraces = false) {E : g_E} {A : w_A} {Sc S : q_S} {h : g_H} (hW : w_W E A Sc S h) (hB : w_B S) {j : Nat} (hj : j < q_ns S) (hT : ∀ t, S.1 4 t ≤ 4) {s : Nat} (hs : q_value S j 6 = nI s) (hs31 : s < 2 ^ 31)  : g_Ct l mM_scale 5 81 0 0 [.ref (A 30 0), .int (nI j)] E h (false, fun r h' => r = .inr (some (.int ((q_fit S j s (q_gL S 14 5)).1))) ∧ w_W E A Sc (q_wL (q_up2 S 13 1 0) 14 5 (q_fit S j s (q_gL S 14 5)).2) h') := by
  refine g_Ct.of hl (by decide) rfl (Nat.le_of_ble_eq_true rfl) ?_
  intro X hX hXl hR
  obtain ⟨hnp, hns, hne, hpar, hhome, hact⟩ := id hB
  show g_Go E X _ h true 0 0 0 [some (.ref (A 30 0)), some (.int (nI j))] []
  refine g_aload_n hX dM_scale_0 rfl rfl (by first | rfl | exact g_rfr _) 1 rfl ?_
  refine g_aload_n hX dM_scale_1 rfl rfl (by first | rfl | exact g_rfr _) 2 rfl ?_
  refine g_iload_n hX dM_scale_2 rfl rfl 3 rfl ?_
  refine g_cV1r (wt := 1) hX (c_M_noShape hX.tr hW.r hB _) dM_scale_3 (w_m hW.r) kM_98 (g_rm.of hR (by decide) (by decide)) (by first | exact Nat.zero_le _ | (rw [hR]; decide)) (by first | exact Nat.zero_le _ | (rw [hR]; decide)) (by first | decide | (simp [Value.category])) 6 rfl ?_
  refine g_if_eq hX dM_scale_6 13 9 (by decide) rfl (fun c6 => ?_) (fun c6 => ?_)
  · refine g_iconst hX dM_scale_13 (v := 0) (by decide) 14 rfl ?_
    refine g_put0 hX dM_scale_14 fM_75 (w_m hW.r) (w_baseM hW 30 (by decide) (by decide)) rfl rfl (Nat.le_of_ble_eq_true rfl) 17 rfl ?_
    refine g_stepM hW 30 (q_up2 S 13 1 _) (by decide) (by decide) w_hc13 rfl (fun h hW => ?_)
    refine g_aload_n hX dM_scale_17 rfl rfl (by first | rfl | exact g_rfr _) 18 rfl ?_
    refine g_get hX dM_scale_18 fM_75 (w_m hW.r) rfl 21 rfl ?_
    refine g_if_le hX dM_scale_21 28 24 (by decide) rfl (fun c21 => ?_) (fun c21 => ?_)
    · refine g_aload_n hX dM_scale_28 rfl rfl (by first | rfl | exact g_rfr _) 29 rfl ?_
      refine g_iload_n hX dM_scale_29 rfl rfl 30 rfl ?_
      refine g_cV1 (wt := 0) hX (c_M_fit0 hX.tr hW hB hT hj hs hs31) dM_scale_30 (w_m hW.r) kM_117 (g_rm.of hR (by decide) (by decide)) (by first | exact Nat.zero_le _ | (rw [hR]; decide)) (by first | exact Nat.zero_le _ | (rw [hR]; decide)) (by first | decide | (simp [Value.category])) (fun q => by cases q) 33 rfl (fun v h hP => ?_) (fun k h hP => by cases hP.1)
      obtain ⟨hv, hW⟩ := hP
      cases hv
      show g_Go E X _ h false 0 0 33 _ [.int (q_fit S j s (q_gL S 14 5)).1]
      exact g_iret hX rfl rfl dM_scale_33 ⟨rfl, hW⟩ rfl (Nat.zero_le _) (Nat.zero_le _)
    · exact absurd (show (0 : Int32) ≤ 0 by decide) c21
  · exact absurd (r_noShape_ok hB hj) c6
set_option maxRecDepth 100000 in
set_option maxHeartbeats 4000000 in
theorem c_M_lines_0 {l : Launch} (hl : l.stackTraces = false) {E : g_E} {A : w_A} {Sc S : q_S} {h : g_H} (hW : w_W E A Sc S h) (hB : w_B S) {j : Nat} (hj : j < q_ns S) (hT : ∀ t, S.1 4 t ≤ 4) {s : Nat} (hs : q_value S j 6 = nI s) (hs31 : s < 2 ^ 31) (hL : S.1 0 5 ≤ 16)  : g_Ct l mM_lines 5 81 0 0 [.ref (A 30 0), .int (nI j)] E h (false, fun r h' => r = .inr (some (.int (nI (q_fit S j s (q_gL S 14 5)).2.1))) ∧ w_W E A Sc (q_wL (q_up2 S 13 1 0) 14 5 (q_fit S j s (q_gL S 14 5)).2) h') := by
  refine g_Ct.of hl (by decide) rfl (Nat.le_of_ble_eq_true rfl) ?_
  intro X hX hXl hR
  obtain ⟨hnp, hns, hne, hpar, hhome, hact⟩ := id hB
  obtain ⟨hf1, kf, hf2, hf3⟩ := q_fit_le S j hT (hhome j hj).2 s (q_gL S 14 5) hL
  have hf4 : ¬ (q_fit S j s (q_gL S 14 5)).1 < 0 := by rw [hf3]; exact nI_pos (by omega)
  show g_Go E X _ h true 0 0 0 [some (.ref (A 30 0)), some (.int (nI j)), none] []
  refine g_aload_n hX dM_lines_0 rfl rfl (by first | rfl | exact g_rfr _) 1 rfl ?_
  refine g_aload_n hX dM_lines_1 rfl rfl (by first | rfl | exact g_rfr _) 2 rfl ?_
  refine g_iload_n hX dM_lines_2 rfl rfl 3 rfl ?_
  refine g_cV1r (wt := 1) hX (c_M_noShape hX.tr hW.r hB _) dM_lines_3 (w_m hW.r) kM_98 (g_rm.of hR (by decide) (by decide)) (by first | exact Nat.zero_le _ | (rw [hR]; decide)) (by first | exact Nat.zero_le _ | (rw [hR]; decide)) (by first | decide | (simp [Value.category])) 6 rfl ?_
  refine g_if_eq hX dM_lines_6 13 9 (by decide) rfl (fun c6 => ?_) (fun c6 => ?_)
  · refine g_iconst hX dM_lines_13 (v := 0) (by decide) 14 rfl ?_
    refine g_put0 hX dM_lines_14 fM_75 (w_m hW.r) (w_baseM hW 30 (by decide) (by decide)) rfl rfl (Nat.le_of_ble_eq_true rfl) 17 rfl ?_
    refine g_stepM hW 30 (q_up2 S 13 1 _) (by decide) (by decide) w_hc13 rfl (fun h hW => ?_)
    refine g_aload_n hX dM_lines_17 rfl rfl (by first | rfl | exact g_rfr _) 18 rfl ?_
    refine g_get hX dM_lines_18 fM_75 (w_m hW.r) rfl 21 rfl ?_
    refine g_if_le hX dM_lines_21 26 24 (by decide) rfl (fun c21 => ?_) (fun c21 => ?_)
    · refine g_aload_n hX dM_lines_26 rfl rfl (by first | rfl | exact g_rfr _) 27 rfl ?_
      refine g_iload_n hX dM_lines_27 rfl rfl 28 rfl ?_
      refine g_cV1 (wt := 0) hX (c_M_fit0 hX.tr hW hB hT hj hs hs31) dM_lines_28 (w_m hW.r) kM_117 (g_rm.of hR (by decide) (by decide)) (by first | exact Nat.zero_le _ | (rw [hR]; decide)) (by first | exact Nat.zero_le _ | (rw [hR]; decide)) (by first | decide | (simp [Value.category])) (fun q => by cases q) 31 rfl (fun v h hP => ?_) (fun k h hP => by cases hP.1)
      obtain ⟨hv, hW⟩ := hP
      cases hv
      show g_Go E X _ h false 0 0 31 _ [.int (q_fit S j s (q_gL S 14 5)).1]
      refine g_istore_n hX (L' := [_, _, _]) dM_lines_31 rfl (by decide) rfl 32 rfl ?_
      refine g_iload_n hX dM_lines_32 rfl rfl 33 rfl ?_
      refine g_if_ge hX dM_lines_33 40 36 (by decide) rfl (fun c33 => ?_) (fun c33 => ?_)
      · refine g_aload_n hX dM_lines_40 rfl rfl (by first | rfl | exact g_rfr _) 41 rfl ?_
        refine g_get hX dM_lines_41 fM_110 (w_m hW.r) rfl 44 rfl ?_
        exact g_iret hX rfl rfl dM_lines_44 ⟨rfl, hW⟩ rfl (Nat.zero_le _) (Nat.zero_le _)
      · exact absurd (q_nlt0 hf4) c33
    · exact absurd (show (0 : Int32) ≤ 0 by decide) c21
  · exact absurd (r_noShape_ok hB hj) c6
set_option maxRecDepth 100000 in
set_option maxHeartbeats 4000000 in
theorem c_M_line_0n {l : Launch} (hl : l.stackTraces = false) {E : g_E} {A : w_A} {Sc S : q_S} {h : g_H} (hW : w_W E A Sc S h) (hB : w_B S) {j : Nat} (hj : j < q_ns S) {k : Int32} (what : Int32) (hT : ∀ t, S.1 4 t ≤ 4) {s : Nat} (hs : q_value S j 6 = nI s) (hs31 : s < 2 ^ 31) (hL : S.1 0 5 ≤ 16) (hk : k < 0 ∨ ¬ k < nI (q_fit S j s (q_gL S 14 5)).2.1) : g_Ct l mM_line 5 81 0 0 [.ref (A 30 0), .int (nI j), .int k, .int what] E h (false, fun r h' => r = .inr (some (.int (-1))) ∧ w_W E A Sc (q_wL (q_up2 S 13 1 0) 14 5 (q_fit S j s (q_gL S 14 5)).2) h') := by
  refine g_Ct.of hl (by decide) rfl (Nat.le_of_ble_eq_true rfl) ?_
  intro X hX hXl hR
  obtain ⟨hnp, hns, hne, hpar, hhome, hact⟩ := id hB
  obtain ⟨hf1, kf, hf2, hf3⟩ := q_fit_le S j hT (hhome j hj).2 s (q_gL S 14 5) hL
  have hf4 : ¬ (q_fit S j s (q_gL S 14 5)).1 < 0 := by rw [hf3]; exact nI_pos (by omega)
  show g_Go E X _ h true 0 0 0 [some (.ref (A 30 0)), some (.int (nI j)), some (.int k), some (.int what), none] []
  refine g_aload_n hX dM_line_0 rfl rfl (by first | rfl | exact g_rfr _) 1 rfl ?_
  refine g_aload_n hX dM_line_1 rfl rfl (by first | rfl | exact g_rfr _) 2 rfl ?_
  refine g_iload_n hX dM_line_2 rfl rfl 3 rfl ?_
  refine g_cV1r (wt := 1) hX (c_M_noShape hX.tr hW.r hB _) dM_line_3 (w_m hW.r) kM_98 (g_rm.of hR (by decide) (by decide)) (by first | exact Nat.zero_le _ | (rw [hR]; decide)) (by first | exact Nat.zero_le _ | (rw [hR]; decide)) (by first | decide | (simp [Value.category])) 6 rfl ?_
  refine g_if_eq hX dM_line_6 13 9 (by decide) rfl (fun c6 => ?_) (fun c6 => ?_)
  · refine g_iconst hX dM_line_13 (v := 0) (by decide) 14 rfl ?_
    refine g_put0 hX dM_line_14 fM_75 (w_m hW.r) (w_baseM hW 30 (by decide) (by decide)) rfl rfl (Nat.le_of_ble_eq_true rfl) 17 rfl ?_
    refine g_stepM hW 30 (q_up2 S 13 1 _) (by decide) (by decide) w_hc13 rfl (fun h hW => ?_)
    refine g_aload_n hX dM_line_17 rfl rfl (by first | rfl | exact g_rfr _) 18 rfl ?_
    refine g_get hX dM_line_18 fM_75 (w_m hW.r) rfl 21 rfl ?_
    refine g_if_le hX dM_line_21 26 24 (by decide) rfl (fun c21 => ?_) (fun c21 => ?_)
    · refine g_aload_n hX dM_line_26 rfl rfl (by first | rfl | exact g_rfr _) 27 rfl ?_
      refine g_iload_n hX dM_line_27 rfl rfl 28 rfl ?_
      refine g_cV1 (wt := 0) hX (c_M_fit0 hX.tr hW hB hT hj hs hs31) dM_line_28 (w_m hW.r) kM_117 (g_rm.of hR (by decide) (by decide)) (by first | exact Nat.zero_le _ | (rw [hR]; decide)) (by first | exact Nat.zero_le _ | (rw [hR]; decide)) (by first | decide | (simp [Value.category])) (fun q => by cases q) 31 rfl (fun v h hP => ?_) (fun k h hP => by cases hP.1)
      obtain ⟨hv, hW⟩ := hP
      cases hv
      show g_Go E X _ h false 0 0 31 _ [.int (q_fit S j s (q_gL S 14 5)).1]
      refine g_istore hX (L' := [_, _, _, _, _]) dM_line_31 (by decide) rfl 33 rfl ?_
      refine g_iload hX dM_line_33 rfl 35 rfl ?_
      refine g_if_lt hX dM_line_35 50 38 (by decide) rfl (fun c35 => ?_) (fun c35 => ?_)
      · exact absurd c35 hf4
      · refine g_iload_n hX dM_line_38 rfl rfl 39 rfl ?_
        refine g_if_lt hX dM_line_39 50 42 (by decide) rfl (fun c39 => ?_) (fun c39 => ?_)
        · refine g_iconst hX dM_line_50 (v := (-1)) (by decide) 51 rfl ?_
          exact g_iret hX rfl rfl dM_line_51 ⟨rfl, hW⟩ rfl (Nat.zero_le _) (Nat.zero_le _)
        · refine g_iload_n hX dM_line_42 rfl rfl 43 rfl ?_
          refine g_aload_n hX dM_line_43 rfl rfl (by first | rfl | exact g_rfr _) 44 rfl ?_
          refine g_get hX dM_line_44 fM_110 (w_m hW.r) rfl 47 rfl ?_
          refine g_icmp_lt hX dM_line_47 52 50 (by decide) rfl (fun c47 => ?_) (fun c47 => ?_)
          · exact absurd hk (fun q => q.elim c39 (fun q => q c47))
          · refine g_iconst hX dM_line_50 (v := (-1)) (by decide) 51 rfl ?_
            exact g_iret hX rfl rfl dM_line_51 ⟨rfl, hW⟩ rfl (Nat.zero_le _) (Nat.zero_le _)
    · exact absurd (show (0 : Int32) ≤ 0 by decide) c21
  · exact absurd (r_noShape_ok hB hj) c6
set_option maxRecDepth 100000 in
set_option maxHeartbeats 4000000 in
theorem c_M_line_00 {l : Launch} (hl : l.stackTraces = false) {E : g_E} {A : w_A} {Sc S : q_S} {h : g_H} (hW : w_W E A Sc S h) (hB : w_B S) {j : Nat} (hj : j < q_ns S) {k : Nat} (hT : ∀ t, S.1 4 t ≤ 4) {s : Nat} (hs : q_value S j 6 = nI s) (hs31 : s < 2 ^ 31) (hL : S.1 0 5 ≤ 16) (hk : k < (q_fit S j s (q_gL S 14 5)).2.1) : g_Ct l mM_line 5 81 0 0 [.ref (A 30 0), .int (nI j), .int (nI k), .int 0] E h (false, fun r h' => r = .inr (some (.int ((q_fit S j s (q_gL S 14 5)).2.2.1 k))) ∧ w_W E A Sc (q_wL (q_up2 S 13 1 0) 14 5 (q_fit S j s (q_gL S 14 5)).2) h') := by
  refine g_Ct.of hl (by decide) rfl (Nat.le_of_ble_eq_true rfl) ?_
  intro X hX hXl hR
  obtain ⟨hnp, hns, hne, hpar, hhome, hact⟩ := id hB
  obtain ⟨hf1, kf, hf2, hf3⟩ := q_fit_le S j hT (hhome j hj).2 s (q_gL S 14 5) hL
  have hf4 : ¬ (q_fit S j s (q_gL S 14 5)).1 < 0 := by rw [hf3]; exact nI_pos (by omega)
  show g_Go E X _ h true 0 0 0 [some (.ref (A 30 0)), some (.int (nI j)), some (.int (nI k)), some (.int 0), none] []
  refine g_aload_n hX dM_line_0 rfl rfl (by first | rfl | exact g_rfr _) 1 rfl ?_
  refine g_aload_n hX dM_line_1 rfl rfl (by first | rfl | exact g_rfr _) 2 rfl ?_
  refine g_iload_n hX dM_line_2 rfl rfl 3 rfl ?_
  refine g_cV1r (wt := 1) hX (c_M_noShape hX.tr hW.r hB _) dM_line_3 (w_m hW.r) kM_98 (g_rm.of hR (by decide) (by decide)) (by first | exact Nat.zero_le _ | (rw [hR]; decide)) (by first | exact Nat.zero_le _ | (rw [hR]; decide)) (by first | decide | (simp [Value.category])) 6 rfl ?_
  refine g_if_eq hX dM_line_6 13 9 (by decide) rfl (fun c6 => ?_) (fun c6 => ?_)
  · refine g_iconst hX dM_line_13 (v := 0) (by decide) 14 rfl ?_
    refine g_put0 hX dM_line_14 fM_75 (w_m hW.r) (w_baseM hW 30 (by decide) (by decide)) rfl rfl (Nat.le_of_ble_eq_true rfl) 17 rfl ?_
    refine g_stepM hW 30 (q_up2 S 13 1 _) (by decide) (by decide) w_hc13 rfl (fun h hW => ?_)
    refine g_aload_n hX dM_line_17 rfl rfl (by first | rfl | exact g_rfr _) 18 rfl ?_
    refine g_get hX dM_line_18 fM_75 (w_m hW.r) rfl 21 rfl ?_
    refine g_if_le hX dM_line_21 26 24 (by decide) rfl (fun c21 => ?_) (fun c21 => ?_)
    · refine g_aload_n hX dM_line_26 rfl rfl (by first | rfl | exact g_rfr _) 27 rfl ?_
      refine g_iload_n hX dM_line_27 rfl rfl 28 rfl ?_
      refine g_cV1 (wt := 0) hX (c_M_fit0 hX.tr hW hB hT hj hs hs31) dM_line_28 (w_m hW.r) kM_117 (g_rm.of hR (by decide) (by decide)) (by first | exact Nat.zero_le _ | (rw [hR]; decide)) (by first | exact Nat.zero_le _ | (rw [hR]; decide)) (by first | decide | (simp [Value.category])) (fun q => by cases q) 31 rfl (fun v h hP => ?_) (fun k h hP => by cases hP.1)
      obtain ⟨hv, hW⟩ := hP
      cases hv
      show g_Go E X _ h false 0 0 31 _ [.int (q_fit S j s (q_gL S 14 5)).1]
      refine g_istore hX (L' := [_, _, _, _, _]) dM_line_31 (by decide) rfl 33 rfl ?_
      refine g_iload hX dM_line_33 rfl 35 rfl ?_
      refine g_if_lt hX dM_line_35 50 38 (by decide) rfl (fun c35 => ?_) (fun c35 => ?_)
      · exact absurd c35 hf4
      · refine g_iload_n hX dM_line_38 rfl rfl 39 rfl ?_
        refine g_if_lt hX dM_line_39 50 42 (by decide) rfl (fun c39 => ?_) (fun c39 => ?_)
        · exact absurd c39 (nI_pos (by omega))
        · refine g_iload_n hX dM_line_42 rfl rfl 43 rfl ?_
          refine g_aload_n hX dM_line_43 rfl rfl (by first | rfl | exact g_rfr _) 44 rfl ?_
          refine g_get hX dM_line_44 fM_110 (w_m hW.r) rfl 47 rfl ?_
          refine g_icmp_lt hX dM_line_47 52 50 (by decide) rfl (fun c47 => ?_) (fun c47 => ?_)
          · refine g_iload_n hX dM_line_52 rfl rfl 53 rfl ?_
            refine g_tableIn hX (off := 31) 84 dM_line_53 (by decide) (by decide) (by decide) (by decide) ?_
            refine g_aload_n hX dM_line_84 rfl rfl (by first | rfl | exact g_rfr _) 85 rfl ?_
            refine g_get hX dM_line_85 fM_63 (w_m hW.r) rfl 88 rfl ?_
            refine g_iload_n hX dM_line_88 rfl rfl 89 rfl ?_
            refine g_iald hX dM_line_89 (w_ar hW.r _ (by decide)) (g_ix.nat (show k < 16 by omega) (by decide)) 90 rfl ?_
            exact g_iret hX rfl rfl dM_line_90 ⟨rfl, hW⟩ rfl (Nat.zero_le _) (Nat.zero_le _)
          · exact absurd (nI_lt hk (by omega)) c47
    · exact absurd (show (0 : Int32) ≤ 0 by decide) c21
  · exact absurd (r_noShape_ok hB hj) c6
set_option maxRecDepth 100000 in
set_option maxHeartbeats 4000000 in
theorem c_M_line_01 {l : Launch} (hl : l.stackTraces = false) {E : g_E} {A : w_A} {Sc S : q_S} {h : g_H} (hW : w_W E A Sc S h) (hB : w_B S) {j : Nat} (hj : j < q_ns S) {k : Nat} (hT : ∀ t, S.1 4 t ≤ 4) {s : Nat} (hs : q_value S j 6 = nI s) (hs31 : s < 2 ^ 31) (hL : S.1 0 5 ≤ 16) (hk : k < (q_fit S j s (q_gL S 14 5)).2.1) : g_Ct l mM_line 5 81 0 0 [.ref (A 30 0), .int (nI j), .int (nI k), .int 1] E h (false, fun r h' => r = .inr (some (.int ((q_fit S j s (q_gL S 14 5)).2.2.2.1 k))) ∧ w_W E A Sc (q_wL (q_up2 S 13 1 0) 14 5 (q_fit S j s (q_gL S 14 5)).2) h') := by
  refine g_Ct.of hl (by decide) rfl (Nat.le_of_ble_eq_true rfl) ?_
  intro X hX hXl hR
  obtain ⟨hnp, hns, hne, hpar, hhome, hact⟩ := id hB
  obtain ⟨hf1, kf, hf2, hf3⟩ := q_fit_le S j hT (hhome j hj).2 s (q_gL S 14 5) hL
  have hf4 : ¬ (q_fit S j s (q_gL S 14 5)).1 < 0 := by rw [hf3]; exact nI_pos (by omega)
  show g_Go E X _ h true 0 0 0 [some (.ref (A 30 0)), some (.int (nI j)), some (.int (nI k)), some (.int 1), none] []
  refine g_aload_n hX dM_line_0 rfl rfl (by first | rfl | exact g_rfr _) 1 rfl ?_
  refine g_aload_n hX dM_line_1 rfl rfl (by first | rfl | exact g_rfr _) 2 rfl ?_
  refine g_iload_n hX dM_line_2 rfl rfl 3 rfl ?_
  refine g_cV1r (wt := 1) hX (c_M_noShape hX.tr hW.r hB _) dM_line_3 (w_m hW.r) kM_98 (g_rm.of hR (by decide) (by decide)) (by first | exact Nat.zero_le _ | (rw [hR]; decide)) (by first | exact Nat.zero_le _ | (rw [hR]; decide)) (by first | decide | (simp [Value.category])) 6 rfl ?_
  refine g_if_eq hX dM_line_6 13 9 (by decide) rfl (fun c6 => ?_) (fun c6 => ?_)
  · refine g_iconst hX dM_line_13 (v := 0) (by decide) 14 rfl ?_
    refine g_put0 hX dM_line_14 fM_75 (w_m hW.r) (w_baseM hW 30 (by decide) (by decide)) rfl rfl (Nat.le_of_ble_eq_true rfl) 17 rfl ?_
    refine g_stepM hW 30 (q_up2 S 13 1 _) (by decide) (by decide) w_hc13 rfl (fun h hW => ?_)
    refine g_aload_n hX dM_line_17 rfl rfl (by first | rfl | exact g_rfr _) 18 rfl ?_
    refine g_get hX dM_line_18 fM_75 (w_m hW.r) rfl 21 rfl ?_
    refine g_if_le hX dM_line_21 26 24 (by decide) rfl (fun c21 => ?_) (fun c21 => ?_)
    · refine g_aload_n hX dM_line_26 rfl rfl (by first | rfl | exact g_rfr _) 27 rfl ?_
      refine g_iload_n hX dM_line_27 rfl rfl 28 rfl ?_
      refine g_cV1 (wt := 0) hX (c_M_fit0 hX.tr hW hB hT hj hs hs31) dM_line_28 (w_m hW.r) kM_117 (g_rm.of hR (by decide) (by decide)) (by first | exact Nat.zero_le _ | (rw [hR]; decide)) (by first | exact Nat.zero_le _ | (rw [hR]; decide)) (by first | decide | (simp [Value.category])) (fun q => by cases q) 31 rfl (fun v h hP => ?_) (fun k h hP => by cases hP.1)
      obtain ⟨hv, hW⟩ := hP
      cases hv
      show g_Go E X _ h false 0 0 31 _ [.int (q_fit S j s (q_gL S 14 5)).1]
      refine g_istore hX (L' := [_, _, _, _, _]) dM_line_31 (by decide) rfl 33 rfl ?_
      refine g_iload hX dM_line_33 rfl 35 rfl ?_
      refine g_if_lt hX dM_line_35 50 38 (by decide) rfl (fun c35 => ?_) (fun c35 => ?_)
      · exact absurd c35 hf4
      · refine g_iload_n hX dM_line_38 rfl rfl 39 rfl ?_
        refine g_if_lt hX dM_line_39 50 42 (by decide) rfl (fun c39 => ?_) (fun c39 => ?_)
        · exact absurd c39 (nI_pos (by omega))
        · refine g_iload_n hX dM_line_42 rfl rfl 43 rfl ?_
          refine g_aload_n hX dM_line_43 rfl rfl (by first | rfl | exact g_rfr _) 44 rfl ?_
          refine g_get hX dM_line_44 fM_110 (w_m hW.r) rfl 47 rfl ?_
          refine g_icmp_lt hX dM_line_47 52 50 (by decide) rfl (fun c47 => ?_) (fun c47 => ?_)
          · refine g_iload_n hX dM_line_52 rfl rfl 53 rfl ?_
            refine g_tableIn hX (off := 38) 91 dM_line_53 (by decide) (by decide) (by decide) (by decide) ?_
            refine g_aload_n hX dM_line_91 rfl rfl (by first | rfl | exact g_rfr _) 92 rfl ?_
            refine g_get hX dM_line_92 fM_66 (w_m hW.r) rfl 95 rfl ?_
            refine g_iload_n hX dM_line_95 rfl rfl 96 rfl ?_
            refine g_iald hX dM_line_96 (w_ar hW.r _ (by decide)) (g_ix.nat (show k < 16 by omega) (by decide)) 97 rfl ?_
            exact g_iret hX rfl rfl dM_line_97 ⟨rfl, hW⟩ rfl (Nat.zero_le _) (Nat.zero_le _)
          · exact absurd (nI_lt hk (by omega)) c47
    · exact absurd (show (0 : Int32) ≤ 0 by decide) c21
  · exact absurd (r_noShape_ok hB hj) c6
set_option maxRecDepth 100000 in
set_option maxHeartbeats 4000000 in
theorem c_M_line_02 {l : Launch} (hl : l.stackTraces = false) {E : g_E} {A : w_A} {Sc S : q_S} {h : g_H} (hW : w_W E A Sc S h) (hB : w_B S) {j : Nat} (hj : j < q_ns S) {k : Nat} (hT : ∀ t, S.1 4 t ≤ 4) {s : Nat} (hs : q_value S j 6 = nI s) (hs31 : s < 2 ^ 31) (hL : S.1 0 5 ≤ 16) (hk : k < (q_fit S j s (q_gL S 14 5)).2.1) : g_Ct l mM_line 5 81 0 0 [.ref (A 30 0), .int (nI j), .int (nI k), .int 2] E h (false, fun r h' => r = .inr (some (.int ((q_fit S j s (q_gL S 14 5)).2.2.2.2.1 k))) ∧ w_W E A Sc (q_wL (q_up2 S 13 1 0) 14 5 (q_fit S j s (q_gL S 14 5)).2) h') := by
  refine g_Ct.of hl (by decide) rfl (Nat.le_of_ble_eq_true rfl) ?_
  intro X hX hXl hR
  obtain ⟨hnp, hns, hne, hpar, hhome, hact⟩ := id hB
  obtain ⟨hf1, kf, hf2, hf3⟩ := q_fit_le S j hT (hhome j hj).2 s (q_gL S 14 5) hL
  have hf4 : ¬ (q_fit S j s (q_gL S 14 5)).1 < 0 := by rw [hf3]; exact nI_pos (by omega)
  show g_Go E X _ h true 0 0 0 [some (.ref (A 30 0)), some (.int (nI j)), some (.int (nI k)), some (.int 2), none] []
  refine g_aload_n hX dM_line_0 rfl rfl (by first | rfl | exact g_rfr _) 1 rfl ?_
  refine g_aload_n hX dM_line_1 rfl rfl (by first | rfl | exact g_rfr _) 2 rfl ?_
  refine g_iload_n hX dM_line_2 rfl rfl 3 rfl ?_
  refine g_cV1r (wt := 1) hX (c_M_noShape hX.tr hW.r hB _) dM_line_3 (w_m hW.r) kM_98 (g_rm.of hR (by decide) (by decide)) (by first | exact Nat.zero_le _ | (rw [hR]; decide)) (by first | exact Nat.zero_le _ | (rw [hR]; decide)) (by first | decide | (simp [Value.category])) 6 rfl ?_
  refine g_if_eq hX dM_line_6 13 9 (by decide) rfl (fun c6 => ?_) (fun c6 => ?_)
  · refine g_iconst hX dM_line_13 (v := 0) (by decide) 14 rfl ?_
    refine g_put0 hX dM_line_14 fM_75 (w_m hW.r) (w_baseM hW 30 (by decide) (by decide)) rfl rfl (Nat.le_of_ble_eq_true rfl) 17 rfl ?_
    refine g_stepM hW 30 (q_up2 S 13 1 _) (by decide) (by decide) w_hc13 rfl (fun h hW => ?_)
    refine g_aload_n hX dM_line_17 rfl rfl (by first | rfl | exact g_rfr _) 18 rfl ?_
    refine g_get hX dM_line_18 fM_75 (w_m hW.r) rfl 21 rfl ?_
    refine g_if_le hX dM_line_21 26 24 (by decide) rfl (fun c21 => ?_) (fun c21 => ?_)
    · refine g_aload_n hX dM_line_26 rfl rfl (by first | rfl | exact g_rfr _) 27 rfl ?_
      refine g_iload_n hX dM_line_27 rfl rfl 28 rfl ?_
      refine g_cV1 (wt := 0) hX (c_M_fit0 hX.tr hW hB hT hj hs hs31) dM_line_28 (w_m hW.r) kM_117 (g_rm.of hR (by decide) (by decide)) (by first | exact Nat.zero_le _ | (rw [hR]; decide)) (by first | exact Nat.zero_le _ | (rw [hR]; decide)) (by first | decide | (simp [Value.category])) (fun q => by cases q) 31 rfl (fun v h hP => ?_) (fun k h hP => by cases hP.1)
      obtain ⟨hv, hW⟩ := hP
      cases hv
      show g_Go E X _ h false 0 0 31 _ [.int (q_fit S j s (q_gL S 14 5)).1]
      refine g_istore hX (L' := [_, _, _, _, _]) dM_line_31 (by decide) rfl 33 rfl ?_
      refine g_iload hX dM_line_33 rfl 35 rfl ?_
      refine g_if_lt hX dM_line_35 50 38 (by decide) rfl (fun c35 => ?_) (fun c35 => ?_)
      · exact absurd c35 hf4
      · refine g_iload_n hX dM_line_38 rfl rfl 39 rfl ?_
        refine g_if_lt hX dM_line_39 50 42 (by decide) rfl (fun c39 => ?_) (fun c39 => ?_)
        · exact absurd c39 (nI_pos (by omega))
        · refine g_iload_n hX dM_line_42 rfl rfl 43 rfl ?_
          refine g_aload_n hX dM_line_43 rfl rfl (by first | rfl | exact g_rfr _) 44 rfl ?_
          refine g_get hX dM_line_44 fM_110 (w_m hW.r) rfl 47 rfl ?_
          refine g_icmp_lt hX dM_line_47 52 50 (by decide) rfl (fun c47 => ?_) (fun c47 => ?_)
          · refine g_iload_n hX dM_line_52 rfl rfl 53 rfl ?_
            refine g_tableIn hX (off := 45) 98 dM_line_53 (by decide) (by decide) (by decide) (by decide) ?_
            refine g_aload_n hX dM_line_98 rfl rfl (by first | rfl | exact g_rfr _) 99 rfl ?_
            refine g_get hX dM_line_99 fM_69 (w_m hW.r) rfl 102 rfl ?_
            refine g_iload_n hX dM_line_102 rfl rfl 103 rfl ?_
            refine g_iald hX dM_line_103 (w_ar hW.r _ (by decide)) (g_ix.nat (show k < 16 by omega) (by decide)) 104 rfl ?_
            exact g_iret hX rfl rfl dM_line_104 ⟨rfl, hW⟩ rfl (Nat.zero_le _) (Nat.zero_le _)
          · exact absurd (nI_lt hk (by omega)) c47
    · exact absurd (show (0 : Int32) ≤ 0 by decide) c21
  · exact absurd (r_noShape_ok hB hj) c6
set_option maxRecDepth 100000 in
set_option maxHeartbeats 4000000 in
theorem c_M_line_03 {l : Launch} (hl : l.stackTraces = false) {E : g_E} {A : w_A} {Sc S : q_S} {h : g_H} (hW : w_W E A Sc S h) (hB : w_B S) {j : Nat} (hj : j < q_ns S) {k : Nat} (hT : ∀ t, S.1 4 t ≤ 4) {s : Nat} (hs : q_value S j 6 = nI s) (hs31 : s < 2 ^ 31) (hL : S.1 0 5 ≤ 16) (hk : k < (q_fit S j s (q_gL S 14 5)).2.1) : g_Ct l mM_line 5 81 0 0 [.ref (A 30 0), .int (nI j), .int (nI k), .int 3] E h (false, fun r h' => r = .inr (some (.int ((q_fit S j s (q_gL S 14 5)).2.2.2.2.2 k))) ∧ w_W E A Sc (q_wL (q_up2 S 13 1 0) 14 5 (q_fit S j s (q_gL S 14 5)).2) h') := by
  refine g_Ct.of hl (by decide) rfl (Nat.le_of_ble_eq_true rfl) ?_
  intro X hX hXl hR
  obtain ⟨hnp, hns, hne, hpar, hhome, hact⟩ := id hB
  obtain ⟨hf1, kf, hf2, hf3⟩ := q_fit_le S j hT (hhome j hj).2 s (q_gL S 14 5) hL
  have hf4 : ¬ (q_fit S j s (q_gL S 14 5)).1 < 0 := by rw [hf3]; exact nI_pos (by omega)
  show g_Go E X _ h true 0 0 0 [some (.ref (A 30 0)), some (.int (nI j)), some (.int (nI k)), some (.int 3), none] []
  refine g_aload_n hX dM_line_0 rfl rfl (by first | rfl | exact g_rfr _) 1 rfl ?_
  refine g_aload_n hX dM_line_1 rfl rfl (by first | rfl | exact g_rfr _) 2 rfl ?_
  refine g_iload_n hX dM_line_2 rfl rfl 3 rfl ?_
  refine g_cV1r (wt := 1) hX (c_M_noShape hX.tr hW.r hB _) dM_line_3 (w_m hW.r) kM_98 (g_rm.of hR (by decide) (by decide)) (by first | exact Nat.zero_le _ | (rw [hR]; decide)) (by first | exact Nat.zero_le _ | (rw [hR]; decide)) (by first | decide | (simp [Value.category])) 6 rfl ?_
  refine g_if_eq hX dM_line_6 13 9 (by decide) rfl (fun c6 => ?_) (fun c6 => ?_)
  · refine g_iconst hX dM_line_13 (v := 0) (by decide) 14 rfl ?_
    refine g_put0 hX dM_line_14 fM_75 (w_m hW.r) (w_baseM hW 30 (by decide) (by decide)) rfl rfl (Nat.le_of_ble_eq_true rfl) 17 rfl ?_
    refine g_stepM hW 30 (q_up2 S 13 1 _) (by decide) (by decide) w_hc13 rfl (fun h hW => ?_)
    refine g_aload_n hX dM_line_17 rfl rfl (by first | rfl | exact g_rfr _) 18 rfl ?_
    refine g_get hX dM_line_18 fM_75 (w_m hW.r) rfl 21 rfl ?_
    refine g_if_le hX dM_line_21 26 24 (by decide) rfl (fun c21 => ?_) (fun c21 => ?_)
    · refine g_aload_n hX dM_line_26 rfl rfl (by first | rfl | exact g_rfr _) 27 rfl ?_
      refine g_iload_n hX dM_line_27 rfl rfl 28 rfl ?_
      refine g_cV1 (wt := 0) hX (c_M_fit0 hX.tr hW hB hT hj hs hs31) dM_line_28 (w_m hW.r) kM_117 (g_rm.of hR (by decide) (by decide)) (by first | exact Nat.zero_le _ | (rw [hR]; decide)) (by first | exact Nat.zero_le _ | (rw [hR]; decide)) (by first | decide | (simp [Value.category])) (fun q => by cases q) 31 rfl (fun v h hP => ?_) (fun k h hP => by cases hP.1)
      obtain ⟨hv, hW⟩ := hP
      cases hv
      show g_Go E X _ h false 0 0 31 _ [.int (q_fit S j s (q_gL S 14 5)).1]
      refine g_istore hX (L' := [_, _, _, _, _]) dM_line_31 (by decide) rfl 33 rfl ?_
      refine g_iload hX dM_line_33 rfl 35 rfl ?_
      refine g_if_lt hX dM_line_35 50 38 (by decide) rfl (fun c35 => ?_) (fun c35 => ?_)
      · exact absurd c35 hf4
      · refine g_iload_n hX dM_line_38 rfl rfl 39 rfl ?_
        refine g_if_lt hX dM_line_39 50 42 (by decide) rfl (fun c39 => ?_) (fun c39 => ?_)
        · exact absurd c39 (nI_pos (by omega))
        · refine g_iload_n hX dM_line_42 rfl rfl 43 rfl ?_
          refine g_aload_n hX dM_line_43 rfl rfl (by first | rfl | exact g_rfr _) 44 rfl ?_
          refine g_get hX dM_line_44 fM_110 (w_m hW.r) rfl 47 rfl ?_
          refine g_icmp_lt hX dM_line_47 52 50 (by decide) rfl (fun c47 => ?_) (fun c47 => ?_)
          · refine g_iload_n hX dM_line_52 rfl rfl 53 rfl ?_
            refine g_tableIn hX (off := 52) 105 dM_line_53 (by decide) (by decide) (by decide) (by decide) ?_
            refine g_aload_n hX dM_line_105 rfl rfl (by first | rfl | exact g_rfr _) 106 rfl ?_
            refine g_get hX dM_line_106 fM_72 (w_m hW.r) rfl 109 rfl ?_
            refine g_iload_n hX dM_line_109 rfl rfl 110 rfl ?_
            refine g_iald hX dM_line_110 (w_ar hW.r _ (by decide)) (g_ix.nat (show k < 16 by omega) (by decide)) 111 rfl ?_
            exact g_iret hX rfl rfl dM_line_111 ⟨rfl, hW⟩ rfl (Nat.zero_le _) (Nat.zero_le _)
          · exact absurd (nI_lt hk (by omega)) c47
    · exact absurd (show (0 : Int32) ≤ 0 by decide) c21
  · exact absurd (r_noShape_ok hB hj) c6
set_option maxRecDepth 100000 in
set_option maxHeartbeats 4000000 in
theorem c_M_line_04 {l : Launch} (hl : l.stackTraces = false) {E : g_E} {A : w_A} {Sc S : q_S} {h : g_H} (hW : w_W E A Sc S h) (hB : w_B S) {j : Nat} (hj : j < q_ns S) {k : Nat} {what : Int32} (hT : ∀ t, S.1 4 t ≤ 4) {s : Nat} (hs : q_value S j 6 = nI s) (hs31 : s < 2 ^ 31) (hL : S.1 0 5 ≤ 16) (hk : k < (q_fit S j s (q_gL S 14 5)).2.1) (hw : what.toInt < 0 ∨ 3 < what.toInt) : g_Ct l mM_line 5 81 0 0 [.ref (A 30 0), .int (nI j), .int (nI k), .int what] E h (false, fun r h' => r = .inr (some (.int (-1))) ∧ w_W E A Sc (q_wL (q_up2 S 13 1 0) 14 5 (q_fit S j s (q_gL S 14 5)).2) h') := by
  refine g_Ct.of hl (by decide) rfl (Nat.le_of_ble_eq_true rfl) ?_
  intro X hX hXl hR
  obtain ⟨hnp, hns, hne, hpar, hhome, hact⟩ := id hB
  obtain ⟨hf1, kf, hf2, hf3⟩ := q_fit_le S j hT (hhome j hj).2 s (q_gL S 14 5) hL
  have hf4 : ¬ (q_fit S j s (q_gL S 14 5)).1 < 0 := by rw [hf3]; exact nI_pos (by omega)
  show g_Go E X _ h true 0 0 0 [some (.ref (A 30 0)), some (.int (nI j)), some (.int (nI k)), some (.int what), none] []
  refine g_aload_n hX dM_line_0 rfl rfl (by first | rfl | exact g_rfr _) 1 rfl ?_
  refine g_aload_n hX dM_line_1 rfl rfl (by first | rfl | exact g_rfr _) 2 rfl ?_
  refine g_iload_n hX dM_line_2 rfl rfl 3 rfl ?_
  refine g_cV1r (wt := 1) hX (c_M_noShape hX.tr hW.r hB _) dM_line_3 (w_m hW.r) kM_98 (g_rm.of hR (by decide) (by decide)) (by first | exact Nat.zero_le _ | (rw [hR]; decide)) (by first | exact Nat.zero_le _ | (rw [hR]; decide)) (by first | decide | (simp [Value.category])) 6 rfl ?_
  refine g_if_eq hX dM_line_6 13 9 (by decide) rfl (fun c6 => ?_) (fun c6 => ?_)
  · refine g_iconst hX dM_line_13 (v := 0) (by decide) 14 rfl ?_
    refine g_put0 hX dM_line_14 fM_75 (w_m hW.r) (w_baseM hW 30 (by decide) (by decide)) rfl rfl (Nat.le_of_ble_eq_true rfl) 17 rfl ?_
    refine g_stepM hW 30 (q_up2 S 13 1 _) (by decide) (by decide) w_hc13 rfl (fun h hW => ?_)
    refine g_aload_n hX dM_line_17 rfl rfl (by first | rfl | exact g_rfr _) 18 rfl ?_
    refine g_get hX dM_line_18 fM_75 (w_m hW.r) rfl 21 rfl ?_
    refine g_if_le hX dM_line_21 26 24 (by decide) rfl (fun c21 => ?_) (fun c21 => ?_)
    · refine g_aload_n hX dM_line_26 rfl rfl (by first | rfl | exact g_rfr _) 27 rfl ?_
      refine g_iload_n hX dM_line_27 rfl rfl 28 rfl ?_
      refine g_cV1 (wt := 0) hX (c_M_fit0 hX.tr hW hB hT hj hs hs31) dM_line_28 (w_m hW.r) kM_117 (g_rm.of hR (by decide) (by decide)) (by first | exact Nat.zero_le _ | (rw [hR]; decide)) (by first | exact Nat.zero_le _ | (rw [hR]; decide)) (by first | decide | (simp [Value.category])) (fun q => by cases q) 31 rfl (fun v h hP => ?_) (fun k h hP => by cases hP.1)
      obtain ⟨hv, hW⟩ := hP
      cases hv
      show g_Go E X _ h false 0 0 31 _ [.int (q_fit S j s (q_gL S 14 5)).1]
      refine g_istore hX (L' := [_, _, _, _, _]) dM_line_31 (by decide) rfl 33 rfl ?_
      refine g_iload hX dM_line_33 rfl 35 rfl ?_
      refine g_if_lt hX dM_line_35 50 38 (by decide) rfl (fun c35 => ?_) (fun c35 => ?_)
      · exact absurd c35 hf4
      · refine g_iload_n hX dM_line_38 rfl rfl 39 rfl ?_
        refine g_if_lt hX dM_line_39 50 42 (by decide) rfl (fun c39 => ?_) (fun c39 => ?_)
        · exact absurd c39 (nI_pos (by omega))
        · refine g_iload_n hX dM_line_42 rfl rfl 43 rfl ?_
          refine g_aload_n hX dM_line_43 rfl rfl (by first | rfl | exact g_rfr _) 44 rfl ?_
          refine g_get hX dM_line_44 fM_110 (w_m hW.r) rfl 47 rfl ?_
          refine g_icmp_lt hX dM_line_47 52 50 (by decide) rfl (fun c47 => ?_) (fun c47 => ?_)
          · refine g_iload_n hX dM_line_52 rfl rfl 53 rfl ?_
            refine g_tableOut hX 112 dM_line_53 hw (by decide) ?_
            refine g_iconst hX dM_line_112 (v := (-1)) (by decide) 113 rfl ?_
            exact g_iret hX rfl rfl dM_line_113 ⟨rfl, hW⟩ rfl (Nat.zero_le _) (Nat.zero_le _)
          · exact absurd (nI_lt hk (by omega)) c47
    · exact absurd (show (0 : Int32) ≤ 0 by decide) c21
  · exact absurd (r_noShape_ok hB hj) c6
def q_nm (f : Nat → Int32) (l : Int32) : Nat → Nat
  | 0 => 0
  | k + 1 => if f k < l then 0 else if f k = l then q_nm f l k + 1 else q_nm f l k
def q_number (S : q_S) (j p : Nat) : Nat := q_nm (fun k => S.2 5 (4 * j + k)) (S.2 5 (4 * j + p)) (p + 1)
set_option maxRecDepth 100000 in
set_option maxHeartbeats 4000000 in
theorem lp_M_number {E : g_E} {A : w_A} {Sc S : q_S} (hB : w_B S) {X : g_X} (hX : g_ok E X mM_number) {j p : Nat} (hj : j < 24) (hp : p < 4) {h : g_H} (hW : w_W E A Sc (q_up2 S 13 1 0) h) :
    ∀ (r k : Nat), k + r = p + 1 → g_Go E X (false, fun r' h' => r' = .inr (some (.int (nI (q_number S j p)))) ∧ w_W E A Sc (q_up2 S 13 1 0) h') h false 0 0 59 [some (.ref (A 30 0)), some (.int (nI j)), some (.int (nI p)), some (.int (S.2 5 (4 * j + p))), some (.int (nI (q_nm (fun k => S.2 5 (4 * j + k)) (S.2 5 (4 * j + p)) k))), some (.int (nI k)), none] [] := by
  intro r
  induction r with
  | zero =>
    intro k hk
    have hk2 : k = p + 1 := by omega
    subst hk2
    refine g_iload hX dM_number_59 rfl 61 rfl ?_
    refine g_iload_n hX dM_number_61 rfl rfl 62 rfl ?_
    refine g_icmp_gt hX dM_number_62 111 65 (by decide) rfl (fun c62 => ?_) (fun c62 => ?_)
    · refine g_iload hX dM_number_111 rfl 113 rfl ?_
      exact g_iret hX rfl rfl dM_number_113 ⟨rfl, hW⟩ rfl (Nat.zero_le _) (Nat.zero_le _)
    · exact absurd (nI_lt (by omega) (by omega)) c62
  | succ r ih =>
    intro k hk
    have hst : q_nm (fun k => S.2 5 (4 * j + k)) (S.2 5 (4 * j + p)) (k + 1) = if S.2 5 (4 * j + k) < S.2 5 (4 * j + p) then 0 else if S.2 5 (4 * j + k) = S.2 5 (4 * j + p) then q_nm (fun k => S.2 5 (4 * j + k)) (S.2 5 (4 * j + p)) k + 1 else q_nm (fun k => S.2 5 (4 * j + k)) (S.2 5 (4 * j + p)) k := by rw [q_nm]
    have h5 := ih (k + 1) (by omega)
    rw [hst] at h5
    refine g_iload hX dM_number_59 rfl 61 rfl ?_
    refine g_iload_n hX dM_number_61 rfl rfl 62 rfl ?_
    refine g_icmp_gt hX dM_number_62 111 65 (by decide) rfl (fun c62 => ?_) (fun c62 => ?_)
    · exact absurd c62 (nI_nlt (by omega) (by omega))
    · refine g_aload_n hX dM_number_65 rfl rfl (by first | rfl | exact g_rfr _) 66 rfl ?_
      refine g_get hX dM_number_66 fM_36 (w_m hW.r) rfl 69 rfl ?_
      refine g_iconst hX dM_number_69 (v := 4) (by decide) 70 rfl ?_
      refine g_iload_n hX dM_number_70 rfl rfl 71 rfl ?_
      refine g_imul hX dM_number_71 72 rfl ?_
      refine g_iload hX dM_number_72 rfl 74 rfl ?_
      refine g_iadd hX dM_number_74 75 rfl ?_
      refine g_iald hX dM_number_75 (w_ar hW.r _ (by decide)) (g_ix.eq (q_4 j k) (show 4 * j + k < 96 by omega) (by decide)) 76 rfl ?_
      refine g_istore hX (L' := [_, _, _, _, _, _, _]) dM_number_76 (by decide) rfl 78 rfl ?_
      refine g_iload hX dM_number_78 rfl 80 rfl ?_
      refine g_iload_n hX dM_number_80 rfl rfl 81 rfl ?_
      refine g_icmp_ge hX dM_number_81 88 84 (by decide) rfl (fun c81 => ?_) (fun c81 => ?_)
      · refine g_iload hX dM_number_88 rfl 90 rfl ?_
        refine g_iload_n hX dM_number_90 rfl rfl 91 rfl ?_
        refine g_icmp_ne hX dM_number_91 101 94 (by decide) rfl (fun c91 => ?_) (fun c91 => ?_)
        · refine g_iload hX dM_number_101 rfl 103 rfl ?_
          refine g_istore hX (L' := [_, _, _, _, _, _, _]) dM_number_103 (by decide) rfl 105 rfl ?_
          refine g_iinc hX (L' := [_, _, _, _, _, _, _]) dM_number_105 rfl (q_inc _) rfl 108 rfl ?_
          refine g_goto hX dM_number_108 59 (by decide) ?_
          rw [if_neg (show ¬ S.2 5 (4 * j + k) < S.2 5 (4 * j + p) from fun q => q_lt_nle q c81), if_neg (show ¬ S.2 5 (4 * j + k) = S.2 5 (4 * j + p) from c91)] at h5
          refine g_drop (L' := [_, _, _, _, _, _, none]) 6 rfl ?_
          exact h5
        · refine g_iload hX dM_number_94 rfl 96 rfl ?_
          refine g_iconst hX dM_number_96 (v := 1) (by decide) 97 rfl ?_
          refine g_iadd hX dM_number_97 98 rfl ?_
          refine g_goto hX dM_number_98 103 (by decide) ?_
          refine g_istore hX (L' := [_, _, _, _, _, _, _]) dM_number_103 (by decide) rfl 105 rfl ?_
          refine g_iinc hX (L' := [_, _, _, _, _, _, _]) dM_number_105 rfl (q_inc _) rfl 108 rfl ?_
          refine g_goto hX dM_number_108 59 (by decide) ?_
          rw [if_neg (show ¬ S.2 5 (4 * j + k) < S.2 5 (4 * j + p) from fun q => q_lt_nle q c81), if_pos (show S.2 5 (4 * j + k) = S.2 5 (4 * j + p) from c91), ← nI_1] at h5
          refine g_drop (L' := [_, _, _, _, _, _, none]) 6 rfl ?_
          exact h5
      · refine g_iconst hX dM_number_84 (v := 0) (by decide) 85 rfl ?_
        refine g_goto hX dM_number_85 103 (by decide) ?_
        refine g_istore hX (L' := [_, _, _, _, _, _, _]) dM_number_103 (by decide) rfl 105 rfl ?_
        refine g_iinc hX (L' := [_, _, _, _, _, _, _]) dM_number_105 rfl (q_inc _) rfl 108 rfl ?_
        refine g_goto hX dM_number_108 59 (by decide) ?_
        rw [if_pos (show S.2 5 (4 * j + k) < S.2 5 (4 * j + p) from q_nle_lt c81)] at h5
        refine g_drop (L' := [_, _, _, _, _, _, none]) 6 rfl ?_
        rw [nI_0] at h5
        exact h5
set_option maxRecDepth 100000 in
set_option maxHeartbeats 4000000 in
theorem c_M_number_1 {l : Launch} (hl : l.stackTraces = false) {E : g_E} {A : w_A} {Sc S : q_S} {h : g_H} (hW : w_W E A Sc S h) (hB : w_B S) {s : Int32} (p : Int32) (hs : r_noShape S s = 1) : g_Ct l mM_number 1 14 0 0 [.ref (A 30 0), .int s, .int p] E h (false, fun r h' => r = .inr (some (.int 0)) ∧ w_W E A Sc (q_up2 S 13 1 1) h') := by
  refine g_Ct.of hl (by decide) rfl (Nat.le_of_ble_eq_true rfl) ?_
  intro X hX hXl hR
  obtain ⟨hnp, hns, hne, hpar, hhome, hact⟩ := id hB
  show g_Go E X _ h true 0 0 0 [some (.ref (A 30 0)), some (.int s), some (.int p), none, none, none, none] []
  refine g_aload_n hX dM_number_0 rfl rfl (by first | rfl | exact g_rfr _) 1 rfl ?_
  refine g_aload_n hX dM_number_1 rfl rfl (by first | rfl | exact g_rfr _) 2 rfl ?_
  refine g_iload_n hX dM_number_2 rfl rfl 3 rfl ?_
  refine g_cV1r (wt := 1) hX (c_M_noShape hX.tr hW.r hB _) dM_number_3 (w_m hW.r) kM_98 (g_rm.of hR (by decide) (by decide)) (by first | exact Nat.zero_le _ | (rw [hR]; decide)) (by first | exact Nat.zero_le _ | (rw [hR]; decide)) (by first | decide | (simp [Value.category])) 6 rfl ?_
  refine g_if_eq hX dM_number_6 13 9 (by decide) rfl (fun c6 => ?_) (fun c6 => ?_)
  · exact absurd (c6.symm.trans hs) (by decide)
  · refine g_iconst hX dM_number_9 (v := 1) (by decide) 10 rfl ?_
    refine g_goto hX dM_number_10 14 (by decide) ?_
    refine g_put0 hX dM_number_14 fM_75 (w_m hW.r) (w_baseM hW 30 (by decide) (by decide)) rfl rfl (Nat.le_of_ble_eq_true rfl) 17 rfl ?_
    refine g_stepM hW 30 (q_up2 S 13 1 _) (by decide) (by decide) w_hc13 rfl (fun h hW => ?_)
    refine g_aload_n hX dM_number_17 rfl rfl (by first | rfl | exact g_rfr _) 18 rfl ?_
    refine g_get hX dM_number_18 fM_75 (w_m hW.r) rfl 21 rfl ?_
    refine g_if_le hX dM_number_21 26 24 (by decide) rfl (fun c21 => ?_) (fun c21 => ?_)
    · exact absurd c21 (show ¬ (1 : Int32) ≤ 0 by decide)
    · refine g_iconst hX dM_number_24 (v := 0) (by decide) 25 rfl ?_
      exact g_iret hX rfl rfl dM_number_25 ⟨rfl, hW⟩ rfl (Nat.zero_le _) (Nat.zero_le _)
set_option maxRecDepth 100000 in
set_option maxHeartbeats 4000000 in
theorem c_M_number_0n {l : Launch} (hl : l.stackTraces = false) {E : g_E} {A : w_A} {Sc S : q_S} {h : g_H} (hW : w_W E A Sc S h) (hB : w_B S) {j : Nat} (hj : j < q_ns S) {p : Int32} (hp : p < 0 ∨ ¬ p < nI (S.1 3 j)) : g_Ct l mM_number 1 14 0 0 [.ref (A 30 0), .int (nI j), .int p] E h (false, fun r h' => r = .inr (some (.int (-1))) ∧ w_W E A Sc (q_up2 S 13 1 0) h') := by
  refine g_Ct.of hl (by decide) rfl (Nat.le_of_ble_eq_true rfl) ?_
  intro X hX hXl hR
  obtain ⟨hnp, hns, hne, hpar, hhome, hact⟩ := id hB
  show g_Go E X _ h true 0 0 0 [some (.ref (A 30 0)), some (.int (nI j)), some (.int p), none, none, none, none] []
  refine g_aload_n hX dM_number_0 rfl rfl (by first | rfl | exact g_rfr _) 1 rfl ?_
  refine g_aload_n hX dM_number_1 rfl rfl (by first | rfl | exact g_rfr _) 2 rfl ?_
  refine g_iload_n hX dM_number_2 rfl rfl 3 rfl ?_
  refine g_cV1r (wt := 1) hX (c_M_noShape hX.tr hW.r hB _) dM_number_3 (w_m hW.r) kM_98 (g_rm.of hR (by decide) (by decide)) (by first | exact Nat.zero_le _ | (rw [hR]; decide)) (by first | exact Nat.zero_le _ | (rw [hR]; decide)) (by first | decide | (simp [Value.category])) 6 rfl ?_
  refine g_if_eq hX dM_number_6 13 9 (by decide) rfl (fun c6 => ?_) (fun c6 => ?_)
  · refine g_iconst hX dM_number_13 (v := 0) (by decide) 14 rfl ?_
    refine g_put0 hX dM_number_14 fM_75 (w_m hW.r) (w_baseM hW 30 (by decide) (by decide)) rfl rfl (Nat.le_of_ble_eq_true rfl) 17 rfl ?_
    refine g_stepM hW 30 (q_up2 S 13 1 _) (by decide) (by decide) w_hc13 rfl (fun h hW => ?_)
    refine g_aload_n hX dM_number_17 rfl rfl (by first | rfl | exact g_rfr _) 18 rfl ?_
    refine g_get hX dM_number_18 fM_75 (w_m hW.r) rfl 21 rfl ?_
    refine g_if_le hX dM_number_21 26 24 (by decide) rfl (fun c21 => ?_) (fun c21 => ?_)
    · refine g_iload_n hX dM_number_26 rfl rfl 27 rfl ?_
      refine g_if_lt hX dM_number_27 40 30 (by decide) rfl (fun c27 => ?_) (fun c27 => ?_)
      · refine g_iconst hX dM_number_40 (v := (-1)) (by decide) 41 rfl ?_
        exact g_iret hX rfl rfl dM_number_41 ⟨rfl, hW⟩ rfl (Nat.zero_le _) (Nat.zero_le _)
      · refine g_iload_n hX dM_number_30 rfl rfl 31 rfl ?_
        refine g_aload_n hX dM_number_31 rfl rfl (by first | rfl | exact g_rfr _) 32 rfl ?_
        refine g_get hX dM_number_32 fM_33 (w_m hW.r) rfl 35 rfl ?_
        refine g_iload_n hX dM_number_35 rfl rfl 36 rfl ?_
        refine g_iald hX dM_number_36 (w_ar hW.r _ (by decide)) (g_ix.nat (show j < 24 by omega) (by decide)) 37 rfl ?_
        refine g_icmp_lt hX dM_number_37 42 40 (by decide) rfl (fun c37 => ?_) (fun c37 => ?_)
        · exact absurd hp (fun q => q.elim c27 (fun q => q c37))
        · refine g_iconst hX dM_number_40 (v := (-1)) (by decide) 41 rfl ?_
          exact g_iret hX rfl rfl dM_number_41 ⟨rfl, hW⟩ rfl (Nat.zero_le _) (Nat.zero_le _)
    · exact absurd (show (0 : Int32) ≤ 0 by decide) c21
  · exact absurd (r_noShape_ok hB hj) c6
set_option maxRecDepth 100000 in
set_option maxHeartbeats 4000000 in
theorem c_M_number_0 {l : Launch} (hl : l.stackTraces = false) {E : g_E} {A : w_A} {Sc S : q_S} {h : g_H} (hW : w_W E A Sc S h) (hB : w_B S) {j : Nat} (hj : j < q_ns S) {p : Nat} (hp : p < S.1 3 j) : g_Ct l mM_number 1 14 0 0 [.ref (A 30 0), .int (nI j), .int (nI p)] E h (false, fun r h' => r = .inr (some (.int (nI (q_number S j p)))) ∧ w_W E A Sc (q_up2 S 13 1 0) h') := by
  refine g_Ct.of hl (by decide) rfl (Nat.le_of_ble_eq_true rfl) ?_
  intro X hX hXl hR
  obtain ⟨hnp, hns, hne, hpar, hhome, hact⟩ := id hB
  have h34 : S.1 3 j ≤ 4 := (hhome j hj).2
  show g_Go E X _ h true 0 0 0 [some (.ref (A 30 0)), some (.int (nI j)), some (.int (nI p)), none, none, none, none] []
  refine g_aload_n hX dM_number_0 rfl rfl (by first | rfl | exact g_rfr _) 1 rfl ?_
  refine g_aload_n hX dM_number_1 rfl rfl (by first | rfl | exact g_rfr _) 2 rfl ?_
  refine g_iload_n hX dM_number_2 rfl rfl 3 rfl ?_
  refine g_cV1r (wt := 1) hX (c_M_noShape hX.tr hW.r hB _) dM_number_3 (w_m hW.r) kM_98 (g_rm.of hR (by decide) (by decide)) (by first | exact Nat.zero_le _ | (rw [hR]; decide)) (by first | exact Nat.zero_le _ | (rw [hR]; decide)) (by first | decide | (simp [Value.category])) 6 rfl ?_
  refine g_if_eq hX dM_number_6 13 9 (by decide) rfl (fun c6 => ?_) (fun c6 => ?_)
  · refine g_iconst hX dM_number_13 (v := 0) (by decide) 14 rfl ?_
    refine g_put0 hX dM_number_14 fM_75 (w_m hW.r) (w_baseM hW 30 (by decide) (by decide)) rfl rfl (Nat.le_of_ble_eq_true rfl) 17 rfl ?_
    refine g_stepM hW 30 (q_up2 S 13 1 _) (by decide) (by decide) w_hc13 rfl (fun h hW => ?_)
    refine g_aload_n hX dM_number_17 rfl rfl (by first | rfl | exact g_rfr _) 18 rfl ?_
    refine g_get hX dM_number_18 fM_75 (w_m hW.r) rfl 21 rfl ?_
    refine g_if_le hX dM_number_21 26 24 (by decide) rfl (fun c21 => ?_) (fun c21 => ?_)
    · refine g_iload_n hX dM_number_26 rfl rfl 27 rfl ?_
      refine g_if_lt hX dM_number_27 40 30 (by decide) rfl (fun c27 => ?_) (fun c27 => ?_)
      · exact absurd c27 (nI_pos (by omega))
      · refine g_iload_n hX dM_number_30 rfl rfl 31 rfl ?_
        refine g_aload_n hX dM_number_31 rfl rfl (by first | rfl | exact g_rfr _) 32 rfl ?_
        refine g_get hX dM_number_32 fM_33 (w_m hW.r) rfl 35 rfl ?_
        refine g_iload_n hX dM_number_35 rfl rfl 36 rfl ?_
        refine g_iald hX dM_number_36 (w_ar hW.r _ (by decide)) (g_ix.nat (show j < 24 by omega) (by decide)) 37 rfl ?_
        refine g_icmp_lt hX dM_number_37 42 40 (by decide) rfl (fun c37 => ?_) (fun c37 => ?_)
        · refine g_aload_n hX dM_number_42 rfl rfl (by first | rfl | exact g_rfr _) 43 rfl ?_
          refine g_get hX dM_number_43 fM_36 (w_m hW.r) rfl 46 rfl ?_
          refine g_iconst hX dM_number_46 (v := 4) (by decide) 47 rfl ?_
          refine g_iload_n hX dM_number_47 rfl rfl 48 rfl ?_
          refine g_imul hX dM_number_48 49 rfl ?_
          refine g_iload_n hX dM_number_49 rfl rfl 50 rfl ?_
          refine g_iadd hX dM_number_50 51 rfl ?_
          refine g_iald hX dM_number_51 (w_ar hW.r _ (by decide)) (g_ix.eq (q_4 j p) (show 4 * j + p < 96 by omega) (by decide)) 52 rfl ?_
          refine g_istore_n hX (L' := [_, _, _, _, _, _, _]) dM_number_52 rfl (by decide) rfl 53 rfl ?_
          refine g_iconst hX dM_number_53 (v := 0) (by decide) 54 rfl ?_
          refine g_istore hX (L' := [_, _, _, _, _, _, _]) dM_number_54 (by decide) rfl 56 rfl ?_
          refine g_iconst hX dM_number_56 (v := 0) (by decide) 57 rfl ?_
          refine g_istore hX (L' := [_, _, _, _, _, _, _]) dM_number_57 (by decide) rfl 59 rfl ?_
          have hlp := lp_M_number (j := j) (p := p) hB hX (by omega) (by omega) hW (p + 1) 0 (by omega)
          rw [nI_0] at hlp
          exact hlp
        · exact absurd (nI_lt hp (by omega)) c37
    · exact absurd (show (0 : Int32) ≤ 0 by decide) c21
  · exact absurd (r_noShape_ok hB hj) c6
