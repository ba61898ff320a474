set_option maxRecDepth 100000 in
set_option maxHeartbeats 4000000 in
theorem c_M_jump_1 {l : Launch} (hl : l.stackTraces = false) {E : g_E} {A : w_A} {Sc S : q_S} {h : g_H} (hW : w_W E A Sc S h) (hB : w_B S) {k : Int32} (hk : k < 0 ∨ q_slide S k = none) : g_Ct l mM_jump 1 16 0 0 [.ref (A 30 0), .int k] E h (false, fun r h' => r = .inr none ∧ w_W E A Sc (q_up2 S 13 1 1) h') := by
  refine g_Ct.of hl (by decide) rfl (Nat.le_of_ble_eq_true rfl) ?_
  intro X hX hXl hR
  obtain ⟨hnp, hns, hne, hpar, hhome, hact⟩ := id hB
  show g_Go E X _ h true 0 0 0 [some (.ref (A 30 0)), some (.int k)] []
  refine g_aload_n hX dM_jump_0 rfl rfl (by first | rfl | exact g_rfr _) 1 rfl ?_
  refine g_iload_n hX dM_jump_1 rfl rfl 2 rfl ?_
  refine g_if_lt hX dM_jump_2 13 5 (by decide) rfl (fun c2 => ?_) (fun c2 => ?_)
  · refine g_iconst hX dM_jump_13 (v := 1) (by decide) 14 rfl ?_
    refine g_goto hX dM_jump_14 18 (by decide) ?_
    refine g_put0 hX dM_jump_18 fM_75 (w_m hW.r) (w_baseM hW 30 (by decide) (by decide)) rfl rfl (Nat.le_of_ble_eq_true rfl) 21 rfl ?_
    refine g_stepM hW 30 (q_up2 S 13 1 _) (by decide) (by decide) w_hc13 rfl (fun h hW => ?_)
    refine g_aload_n hX dM_jump_21 rfl rfl (by first | rfl | exact g_rfr _) 22 rfl ?_
    refine g_get hX dM_jump_22 fM_75 (w_m hW.r) rfl 25 rfl ?_
    refine g_if_ne hX dM_jump_25 43 28 (by decide) rfl (fun c25 => ?_) (fun c25 => ?_)
    · exact g_vret hX rfl dM_jump_43 ⟨rfl, hW⟩ rfl (Nat.zero_le _) (Nat.zero_le _)
    · exact absurd c25 (show ¬ (1 : Int32) = 0 by decide)
  · refine g_aload_n hX dM_jump_5 rfl rfl (by first | rfl | exact g_rfr _) 6 rfl ?_
    refine g_iload_n hX dM_jump_6 rfl rfl 7 rfl ?_
    refine g_cV1r (wt := 1) hX (c_M_slide hX.tr hW.r hB _) dM_jump_7 (w_m hW.r) kM_145 (g_rm.of hR (by decide) (by decide)) (by first | exact Nat.zero_le _ | (rw [hR]; decide)) (by first | exact Nat.zero_le _ | (rw [hR]; decide)) (by first | decide | (simp [Value.category])) 10 rfl ?_
    refine g_if_ge hX dM_jump_10 17 13 (by decide) rfl (fun c10 => ?_) (fun c10 => ?_)
    · exact absurd hk (fun q => q.elim c2 (fun q => q_oin q c10))
    · refine g_iconst hX dM_jump_13 (v := 1) (by decide) 14 rfl ?_
      refine g_goto hX dM_jump_14 18 (by decide) ?_
      refine g_put0 hX dM_jump_18 fM_75 (w_m hW.r) (w_baseM hW 30 (by decide) (by decide)) rfl rfl (Nat.le_of_ble_eq_true rfl) 21 rfl ?_
      refine g_stepM hW 30 (q_up2 S 13 1 _) (by decide) (by decide) w_hc13 rfl (fun h hW => ?_)
      refine g_aload_n hX dM_jump_21 rfl rfl (by first | rfl | exact g_rfr _) 22 rfl ?_
      refine g_get hX dM_jump_22 fM_75 (w_m hW.r) rfl 25 rfl ?_
      refine g_if_ne hX dM_jump_25 43 28 (by decide) rfl (fun c25 => ?_) (fun c25 => ?_)
      · exact g_vret hX rfl dM_jump_43 ⟨rfl, hW⟩ rfl (Nat.zero_le _) (Nat.zero_le _)
      · exact absurd c25 (show ¬ (1 : Int32) = 0 by decide)
set_option maxRecDepth 100000 in
set_option maxHeartbeats 4000000 in
theorem c_M_jump_0 {l : Launch} (hl : l.stackTraces = false) {E : g_E} {A : w_A} {Sc S : q_S} {h : g_H} (hW : w_W E A Sc S h) (hB : w_B S) {k p : Nat} (hk : k < 2 ^ 31) (hs : q_slide S (nI k) = some p) : g_Ct l mM_jump 1 16 0 0 [.ref (A 30 0), .int (nI k)] E h (false, fun r h' => r = .inr none ∧ w_W E A Sc (q_up2 (q_up1 (q_up1 (q_up2 S 13 1 0) 0 3 k) 0 4 0) 13 0 0) h') := by
  refine g_Ct.of hl (by decide) rfl (Nat.le_of_ble_eq_true rfl) ?_
  intro X hX hXl hR
  obtain ⟨hnp, hns, hne, hpar, hhome, hact⟩ := id hB
  show g_Go E X _ h true 0 0 0 [some (.ref (A 30 0)), some (.int (nI k))] []
  refine g_aload_n hX dM_jump_0 rfl rfl (by first | rfl | exact g_rfr _) 1 rfl ?_
  refine g_iload_n hX dM_jump_1 rfl rfl 2 rfl ?_
  refine g_if_lt hX dM_jump_2 13 5 (by decide) rfl (fun c2 => ?_) (fun c2 => ?_)
  · exact absurd c2 (nI_pos hk)
  · refine g_aload_n hX dM_jump_5 rfl rfl (by first | rfl | exact g_rfr _) 6 rfl ?_
    refine g_iload_n hX dM_jump_6 rfl rfl 7 rfl ?_
    refine g_cV1r (wt := 1) hX (c_M_slide hX.tr hW.r hB _) dM_jump_7 (w_m hW.r) kM_145 (g_rm.of hR (by decide) (by decide)) (by first | exact Nat.zero_le _ | (rw [hR]; decide)) (by first | exact Nat.zero_le _ | (rw [hR]; decide)) (by first | decide | (simp [Value.category])) 10 rfl ?_
    refine g_if_ge hX dM_jump_10 17 13 (by decide) rfl (fun c10 => ?_) (fun c10 => ?_)
    · refine g_iconst hX dM_jump_17 (v := 0) (by decide) 18 rfl ?_
      refine g_put0 hX dM_jump_18 fM_75 (w_m hW.r) (w_baseM hW 30 (by decide) (by decide)) rfl rfl (Nat.le_of_ble_eq_true rfl) 21 rfl ?_
      refine g_stepM hW 30 (q_up2 S 13 1 _) (by decide) (by decide) w_hc13 rfl (fun h hW => ?_)
      refine g_aload_n hX dM_jump_21 rfl rfl (by first | rfl | exact g_rfr _) 22 rfl ?_
      refine g_get hX dM_jump_22 fM_75 (w_m hW.r) rfl 25 rfl ?_
      refine g_if_ne hX dM_jump_25 43 28 (by decide) rfl (fun c25 => ?_) (fun c25 => ?_)
      · exact absurd rfl c25
      · refine g_aload_n hX dM_jump_28 rfl rfl (by first | rfl | exact g_rfr _) 29 rfl ?_
        refine g_iload_n hX dM_jump_29 rfl rfl 30 rfl ?_
        refine g_put0 hX dM_jump_30 fM_142 (w_m hW.r) (w_baseM hW 30 (by decide) (by decide)) rfl rfl (Nat.le_of_ble_eq_true rfl) 33 rfl ?_
        refine g_stepM hW 30 (q_up1 (q_up2 S 13 1 0) 0 3 k) (by decide) (by decide) w_hc0 (rfl) (fun h hW => ?_)
        refine g_aload_n hX dM_jump_33 rfl rfl (by first | rfl | exact g_rfr _) 34 rfl ?_
        refine g_iconst hX dM_jump_34 (v := 0) (by decide) 35 rfl ?_
        refine g_put0 hX dM_jump_35 fM_136 (w_m hW.r) (w_baseM hW 30 (by decide) (by decide)) rfl rfl (Nat.le_of_ble_eq_true rfl) 38 rfl ?_
        refine g_stepM hW 30 (q_up1 (q_up1 (q_up2 S 13 1 0) 0 3 k) 0 4 0) (by decide) (by decide) w_hc0 (rfl) (fun h hW => ?_)
        refine g_aload_n hX dM_jump_38 rfl rfl (by first | rfl | exact g_rfr _) 39 rfl ?_
        refine g_iconst hX dM_jump_39 (v := 0) (by decide) 40 rfl ?_
        refine g_put0 hX dM_jump_40 fM_139 (w_m hW.r) (w_baseM hW 30 (by decide) (by decide)) rfl rfl (Nat.le_of_ble_eq_true rfl) 43 rfl ?_
        refine g_stepM hW 30 (q_up2 (q_up1 (q_up1 (q_up2 S 13 1 0) 0 3 k) 0 4 0) 13 0 0) (by decide) (by decide) w_hc13 rfl (fun h hW => ?_)
        exact g_vret hX rfl dM_jump_43 ⟨rfl, hW⟩ rfl (Nat.zero_le _) (Nat.zero_le _)
    · exact absurd (q_ois hs (by have := q_slide_lt hs; omega)) c10
set_option maxRecDepth 100000 in
set_option maxHeartbeats 4000000 in
theorem c_M_click_a {l : Launch} (hl : l.stackTraces = false) {E : g_E} {A : w_A} {Sc S : q_S} {h : g_H} (hW : w_W E A Sc S h) (hB : w_B S)  (hs : q_slide S (nI (q_at S)) = none) : g_Ct l mM_click 1 16 0 0 [.ref (A 30 0)] E h (false, fun r h' => r = .inr (some (.int 0)) ∧ w_W E A Sc (q_up2 S 13 1 0) h') := by
  refine g_Ct.of hl (by decide) rfl (Nat.le_of_ble_eq_true rfl) ?_
  intro X hX hXl hR
  obtain ⟨hnp, hns, hne, hpar, hhome, hact⟩ := id hB
  have hs0 := hs
  rw [← v_slide S 0] at hs
  show g_Go E X _ h true 0 0 0 [some (.ref (A 30 0)), none] []
  refine g_aload_n hX dM_click_0 rfl rfl (by first | rfl | exact g_rfr _) 1 rfl ?_
  refine g_iconst hX dM_click_1 (v := 0) (by decide) 2 rfl ?_
  refine g_put0 hX dM_click_2 fM_75 (w_m hW.r) (w_baseM hW 30 (by decide) (by decide)) rfl rfl (Nat.le_of_ble_eq_true rfl) 5 rfl ?_
  refine g_stepM hW 30 (q_up2 S 13 1 _) (by decide) (by decide) w_hc13 rfl (fun h hW => ?_)
  refine g_aload_n hX dM_click_5 rfl rfl (by first | rfl | exact g_rfr _) 6 rfl ?_
  refine g_aload_n hX dM_click_6 rfl rfl (by first | rfl | exact g_rfr _) 7 rfl ?_
  refine g_get hX dM_click_7 fM_142 (w_m hW.r) rfl 10 rfl ?_
  refine g_cV1r (wt := 0) hX (c_M_slide hX.tr hW.r hB _) dM_click_10 (w_m hW.r) kM_145 (g_rm.of hR (by decide) (by decide)) (by first | exact Nat.zero_le _ | (rw [hR]; decide)) (by first | exact Nat.zero_le _ | (rw [hR]; decide)) (by first | decide | (simp [Value.category])) 13 rfl ?_
  refine g_istore_n hX (L' := [_, _]) dM_click_13 rfl (by decide) rfl 14 rfl ?_
  refine g_iload_n hX dM_click_14 rfl rfl 15 rfl ?_
  refine g_if_ge hX dM_click_15 20 18 (by decide) rfl (fun c15 => ?_) (fun c15 => ?_)
  · exact absurd c15 (q_oin hs)
  · refine g_iconst hX dM_click_18 (v := 0) (by decide) 19 rfl ?_
    exact g_iret hX rfl rfl dM_click_19 ⟨rfl, hW⟩ rfl (Nat.zero_le _) (Nat.zero_le _)
set_option maxRecDepth 100000 in
set_option maxHeartbeats 4000000 in
theorem c_M_click_b {l : Launch} (hl : l.stackTraces = false) {E : g_E} {A : w_A} {Sc S : q_S} {h : g_H} (hW : w_W E A Sc S h) (hB : w_B S) {p : Nat} (hs : q_slide S (nI (q_at S)) = some p) (hl0 : nI (q_clicks S) < nI (q_last S p)) : g_Ct l mM_click 1 16 0 0 [.ref (A 30 0)] E h (false, fun r h' => r = .inr (some (.int 1)) ∧ w_W E A Sc (q_up2 (q_up1 (q_up2 S 13 1 0) 0 4 (q_clicks S + 1)) 13 0 0) h') := by
  refine g_Ct.of hl (by decide) rfl (Nat.le_of_ble_eq_true rfl) ?_
  intro X hX hXl hR
  obtain ⟨hnp, hns, hne, hpar, hhome, hact⟩ := id hB
  have hs0 := hs
  rw [← v_slide S 0] at hs
  have hl1 : ¬ nI (q_last (q_up2 S 13 1 0) p) ≤ nI (q_clicks S) := by rw [v_last]; exact q_lt_nle hl0
  show g_Go E X _ h true 0 0 0 [some (.ref (A 30 0)), none] []
  refine g_aload_n hX dM_click_0 rfl rfl (by first | rfl | exact g_rfr _) 1 rfl ?_
  refine g_iconst hX dM_click_1 (v := 0) (by decide) 2 rfl ?_
  refine g_put0 hX dM_click_2 fM_75 (w_m hW.r) (w_baseM hW 30 (by decide) (by decide)) rfl rfl (Nat.le_of_ble_eq_true rfl) 5 rfl ?_
  refine g_stepM hW 30 (q_up2 S 13 1 _) (by decide) (by decide) w_hc13 rfl (fun h hW => ?_)
  refine g_aload_n hX dM_click_5 rfl rfl (by first | rfl | exact g_rfr _) 6 rfl ?_
  refine g_aload_n hX dM_click_6 rfl rfl (by first | rfl | exact g_rfr _) 7 rfl ?_
  refine g_get hX dM_click_7 fM_142 (w_m hW.r) rfl 10 rfl ?_
  refine g_cV1r (wt := 0) hX (c_M_slide hX.tr hW.r hB _) dM_click_10 (w_m hW.r) kM_145 (g_rm.of hR (by decide) (by decide)) (by first | exact Nat.zero_le _ | (rw [hR]; decide)) (by first | exact Nat.zero_le _ | (rw [hR]; decide)) (by first | decide | (simp [Value.category])) 13 rfl ?_
  refine g_istore_n hX (L' := [_, _]) dM_click_13 rfl (by decide) rfl 14 rfl ?_
  refine g_iload_n hX dM_click_14 rfl rfl 15 rfl ?_
  refine g_if_ge hX dM_click_15 20 18 (by decide) rfl (fun c15 => ?_) (fun c15 => ?_)
  · refine g_aload_n hX dM_click_20 rfl rfl (by first | rfl | exact g_rfr _) 21 rfl ?_
    refine g_get hX dM_click_21 fM_136 (w_m hW.r) rfl 24 rfl ?_
    refine g_aload_n hX dM_click_24 rfl rfl (by first | rfl | exact g_rfr _) 25 rfl ?_
    refine g_iload_n hX dM_click_25 rfl rfl 26 rfl ?_
    refine g_cV1r (wt := 1) hX ((show g_Rd X.l mM_lastBuild 0 0 [.ref (A 30 0), .int (q_oi (q_slide (q_up2 S 13 1 0) (nI (q_at S))))] E h (some (.int (nI (q_last (q_up2 S 13 1 0) p)))) by rw [hs]; exact c_M_lastBuild hX.tr hW.r hB (q_slide_b (S := q_up2 S 13 1 0) hB hs))) dM_click_26 (w_m hW.r) kM_151 (g_rm.of hR (by decide) (by decide)) (by first | exact Nat.zero_le _ | (rw [hR]; decide)) (by first | exact Nat.zero_le _ | (rw [hR]; decide)) (by first | decide | (simp [Value.category])) 29 rfl ?_
    refine g_icmp_ge hX dM_click_29 49 32 (by decide) rfl (fun c29 => ?_) (fun c29 => ?_)
    · exact absurd c29 hl1
    · refine g_aload_n hX dM_click_32 rfl rfl (by first | rfl | exact g_rfr _) 33 rfl ?_
      refine g_dup hX dM_click_33 rfl 34 rfl ?_
      refine g_get hX dM_click_34 fM_136 (w_m hW.r) rfl 37 rfl ?_
      refine g_iconst hX dM_click_37 (v := 1) (by decide) 38 rfl ?_
      refine g_iadd hX dM_click_38 39 rfl ?_
      refine g_put0 hX dM_click_39 fM_136 (w_m hW.r) (w_baseM hW 30 (by decide) (by decide)) rfl rfl (Nat.le_of_ble_eq_true rfl) 42 rfl ?_
      refine g_stepM hW 30 (q_up1 (q_up2 S 13 1 0) 0 4 (q_clicks S + 1)) (by decide) (by decide) w_hc0 (by rw [nI_1]; rfl) (fun h hW => ?_)
      refine g_aload_n hX dM_click_42 rfl rfl (by first | rfl | exact g_rfr _) 43 rfl ?_
      refine g_iconst hX dM_click_43 (v := 0) (by decide) 44 rfl ?_
      refine g_put0 hX dM_click_44 fM_139 (w_m hW.r) (w_baseM hW 30 (by decide) (by decide)) rfl rfl (Nat.le_of_ble_eq_true rfl) 47 rfl ?_
      refine g_stepM hW 30 (q_up2 (q_up1 (q_up2 S 13 1 0) 0 4 (q_clicks S + 1)) 13 0 0) (by decide) (by decide) w_hc13 rfl (fun h hW => ?_)
      refine g_iconst hX dM_click_47 (v := 1) (by decide) 48 rfl ?_
      exact g_iret hX rfl rfl dM_click_48 ⟨rfl, hW⟩ rfl (Nat.zero_le _) (Nat.zero_le _)
  · exact absurd (q_ois hs (q_slide_b (S := q_up2 S 13 1 0) hB hs)) c15
set_option maxRecDepth 100000 in
set_option maxHeartbeats 4000000 in
theorem c_M_click_c {l : Launch} (hl : l.stackTraces = false) {E : g_E} {A : w_A} {Sc S : q_S} {h : g_H} (hW : w_W E A Sc S h) (hB : w_B S) {p : Nat} (hs : q_slide S (nI (q_at S)) = some p) (hl0 : nI (q_last S p) ≤ nI (q_clicks S)) (hm : q_slide S (nI (q_at S + 1)) = none) : g_Ct l mM_click 1 16 0 0 [.ref (A 30 0)] E h (false, fun r h' => r = .inr (some (.int 0)) ∧ w_W E A Sc (q_up2 S 13 1 0) h') := by
  refine g_Ct.of hl (by decide) rfl (Nat.le_of_ble_eq_true rfl) ?_
  intro X hX hXl hR
  obtain ⟨hnp, hns, hne, hpar, hhome, hact⟩ := id hB
  have hs0 := hs
  rw [← v_slide S 0] at hs
  have hl1 : nI (q_last (q_up2 S 13 1 0) p) ≤ nI (q_clicks S) := by rw [v_last]; exact hl0
  rw [← v_slide S 0] at hm
  show g_Go E X _ h true 0 0 0 [some (.ref (A 30 0)), none] []
  refine g_aload_n hX dM_click_0 rfl rfl (by first | rfl | exact g_rfr _) 1 rfl ?_
  refine g_iconst hX dM_click_1 (v := 0) (by decide) 2 rfl ?_
  refine g_put0 hX dM_click_2 fM_75 (w_m hW.r) (w_baseM hW 30 (by decide) (by decide)) rfl rfl (Nat.le_of_ble_eq_true rfl) 5 rfl ?_
  refine g_stepM hW 30 (q_up2 S 13 1 _) (by decide) (by decide) w_hc13 rfl (fun h hW => ?_)
  refine g_aload_n hX dM_click_5 rfl rfl (by first | rfl | exact g_rfr _) 6 rfl ?_
  refine g_aload_n hX dM_click_6 rfl rfl (by first | rfl | exact g_rfr _) 7 rfl ?_
  refine g_get hX dM_click_7 fM_142 (w_m hW.r) rfl 10 rfl ?_
  refine g_cV1r (wt := 0) hX (c_M_slide hX.tr hW.r hB _) dM_click_10 (w_m hW.r) kM_145 (g_rm.of hR (by decide) (by decide)) (by first | exact Nat.zero_le _ | (rw [hR]; decide)) (by first | exact Nat.zero_le _ | (rw [hR]; decide)) (by first | decide | (simp [Value.category])) 13 rfl ?_
  refine g_istore_n hX (L' := [_, _]) dM_click_13 rfl (by decide) rfl 14 rfl ?_
  refine g_iload_n hX dM_click_14 rfl rfl 15 rfl ?_
  refine g_if_ge hX dM_click_15 20 18 (by decide) rfl (fun c15 => ?_) (fun c15 => ?_)
  · refine g_aload_n hX dM_click_20 rfl rfl (by first | rfl | exact g_rfr _) 21 rfl ?_
    refine g_get hX dM_click_21 fM_136 (w_m hW.r) rfl 24 rfl ?_
    refine g_aload_n hX dM_click_24 rfl rfl (by first | rfl | exact g_rfr _) 25 rfl ?_
    refine g_iload_n hX dM_click_25 rfl rfl 26 rfl ?_
    refine g_cV1r (wt := 1) hX ((show g_Rd X.l mM_lastBuild 0 0 [.ref (A 30 0), .int (q_oi (q_slide (q_up2 S 13 1 0) (nI (q_at S))))] E h (some (.int (nI (q_last (q_up2 S 13 1 0) p)))) by rw [hs]; exact c_M_lastBuild hX.tr hW.r hB (q_slide_b (S := q_up2 S 13 1 0) hB hs))) dM_click_26 (w_m hW.r) kM_151 (g_rm.of hR (by decide) (by decide)) (by first | exact Nat.zero_le _ | (rw [hR]; decide)) (by first | exact Nat.zero_le _ | (rw [hR]; decide)) (by first | decide | (simp [Value.category])) 29 rfl ?_
    refine g_icmp_ge hX dM_click_29 49 32 (by decide) rfl (fun c29 => ?_) (fun c29 => ?_)
    · refine g_aload_n hX dM_click_49 rfl rfl (by first | rfl | exact g_rfr _) 50 rfl ?_
      refine g_aload_n hX dM_click_50 rfl rfl (by first | rfl | exact g_rfr _) 51 rfl ?_
      refine g_get hX dM_click_51 fM_142 (w_m hW.r) rfl 54 rfl ?_
      refine g_iconst hX dM_click_54 (v := 1) (by decide) 55 rfl ?_
      refine g_iadd hX dM_click_55 56 rfl ?_
      refine g_cV1r (wt := 0) hX ((show g_Rd X.l mM_slide 0 0 [.ref (A 30 0), .int (nI (q_at S) + 1)] E h (some (.int (q_oi (q_slide (q_up2 S 13 1 0) (nI (q_at S + 1)))))) by rw [nI_1]; exact c_M_slide hX.tr hW.r hB _)) dM_click_56 (w_m hW.r) kM_145 (g_rm.of hR (by decide) (by decide)) (by first | exact Nat.zero_le _ | (rw [hR]; decide)) (by first | exact Nat.zero_le _ | (rw [hR]; decide)) (by first | decide | (simp [Value.category])) 59 rfl ?_
      refine g_if_ge hX dM_click_59 64 62 (by decide) rfl (fun c59 => ?_) (fun c59 => ?_)
      · exact absurd c59 (q_oin hm)
      · refine g_iconst hX dM_click_62 (v := 0) (by decide) 63 rfl ?_
        exact g_iret hX rfl rfl dM_click_63 ⟨rfl, hW⟩ rfl (Nat.zero_le _) (Nat.zero_le _)
    · exact absurd hl1 c29
  · exact absurd (q_ois hs (q_slide_b (S := q_up2 S 13 1 0) hB hs)) c15
set_option maxRecDepth 100000 in
set_option maxHeartbeats 4000000 in
theorem c_M_click_d {l : Launch} (hl : l.stackTraces = false) {E : g_E} {A : w_A} {Sc S : q_S} {h : g_H} (hW : w_W E A Sc S h) (hB : w_B S) {p p2 : Nat} (hs : q_slide S (nI (q_at S)) = some p) (hl0 : nI (q_last S p) ≤ nI (q_clicks S)) (hm : q_slide S (nI (q_at S + 1)) = some p2) : g_Ct l mM_click 1 16 0 0 [.ref (A 30 0)] E h (false, fun r h' => r = .inr (some (.int 1)) ∧ w_W E A Sc (q_up2 (q_up1 (q_up1 (q_up2 S 13 1 0) 0 3 (q_at S + 1)) 0 4 0) 13 0 0) h') := by
  refine g_Ct.of hl (by decide) rfl (Nat.le_of_ble_eq_true rfl) ?_
  intro X hX hXl hR
  obtain ⟨hnp, hns, hne, hpar, hhome, hact⟩ := id hB
  have hs0 := hs
  rw [← v_slide S 0] at hs
  have hl1 : nI (q_last (q_up2 S 13 1 0) p) ≤ nI (q_clicks S) := by rw [v_last]; exact hl0
  rw [← v_slide S 0] at hm
  show g_Go E X _ h true 0 0 0 [some (.ref (A 30 0)), none] []
  refine g_aload_n hX dM_click_0 rfl rfl (by first | rfl | exact g_rfr _) 1 rfl ?_
  refine g_iconst hX dM_click_1 (v := 0) (by decide) 2 rfl ?_
  refine g_put0 hX dM_click_2 fM_75 (w_m hW.r) (w_baseM hW 30 (by decide) (by decide)) rfl rfl (Nat.le_of_ble_eq_true rfl) 5 rfl ?_
  refine g_stepM hW 30 (q_up2 S 13 1 _) (by decide) (by decide) w_hc13 rfl (fun h hW => ?_)
  refine g_aload_n hX dM_click_5 rfl rfl (by first | rfl | exact g_rfr _) 6 rfl ?_
  refine g_aload_n hX dM_click_6 rfl rfl (by first | rfl | exact g_rfr _) 7 rfl ?_
  refine g_get hX dM_click_7 fM_142 (w_m hW.r) rfl 10 rfl ?_
  refine g_cV1r (wt := 0) hX (c_M_slide hX.tr hW.r hB _) dM_click_10 (w_m hW.r) kM_145 (g_rm.of hR (by decide) (by decide)) (by first | exact Nat.zero_le _ | (rw [hR]; decide)) (by first | exact Nat.zero_le _ | (rw [hR]; decide)) (by first | decide | (simp [Value.category])) 13 rfl ?_
  refine g_istore_n hX (L' := [_, _]) dM_click_13 rfl (by decide) rfl 14 rfl ?_
  refine g_iload_n hX dM_click_14 rfl rfl 15 rfl ?_
  refine g_if_ge hX dM_click_15 20 18 (by decide) rfl (fun c15 => ?_) (fun c15 => ?_)
  · refine g_aload_n hX dM_click_20 rfl rfl (by first | rfl | exact g_rfr _) 21 rfl ?_
    refine g_get hX dM_click_21 fM_136 (w_m hW.r) rfl 24 rfl ?_
    refine g_aload_n hX dM_click_24 rfl rfl (by first | rfl | exact g_rfr _) 25 rfl ?_
    refine g_iload_n hX dM_click_25 rfl rfl 26 rfl ?_
    refine g_cV1r (wt := 1) hX ((show g_Rd X.l mM_lastBuild 0 0 [.ref (A 30 0), .int (q_oi (q_slide (q_up2 S 13 1 0) (nI (q_at S))))] E h (some (.int (nI (q_last (q_up2 S 13 1 0) p)))) by rw [hs]; exact c_M_lastBuild hX.tr hW.r hB (q_slide_b (S := q_up2 S 13 1 0) hB hs))) dM_click_26 (w_m hW.r) kM_151 (g_rm.of hR (by decide) (by decide)) (by first | exact Nat.zero_le _ | (rw [hR]; decide)) (by first | exact Nat.zero_le _ | (rw [hR]; decide)) (by first | decide | (simp [Value.category])) 29 rfl ?_
    refine g_icmp_ge hX dM_click_29 49 32 (by decide) rfl (fun c29 => ?_) (fun c29 => ?_)
    · refine g_aload_n hX dM_click_49 rfl rfl (by first | rfl | exact g_rfr _) 50 rfl ?_
      refine g_aload_n hX dM_click_50 rfl rfl (by first | rfl | exact g_rfr _) 51 rfl ?_
      refine g_get hX dM_click_51 fM_142 (w_m hW.r) rfl 54 rfl ?_
      refine g_iconst hX dM_click_54 (v := 1) (by decide) 55 rfl ?_
      refine g_iadd hX dM_click_55 56 rfl ?_
      refine g_cV1r (wt := 0) hX ((show g_Rd X.l mM_slide 0 0 [.ref (A 30 0), .int (nI (q_at S) + 1)] E h (some (.int (q_oi (q_slide (q_up2 S 13 1 0) (nI (q_at S + 1)))))) by rw [nI_1]; exact c_M_slide hX.tr hW.r hB _)) dM_click_56 (w_m hW.r) kM_145 (g_rm.of hR (by decide) (by decide)) (by first | exact Nat.zero_le _ | (rw [hR]; decide)) (by first | exact Nat.zero_le _ | (rw [hR]; decide)) (by first | decide | (simp [Value.category])) 59 rfl ?_
      refine g_if_ge hX dM_click_59 64 62 (by decide) rfl (fun c59 => ?_) (fun c59 => ?_)
      · refine g_aload_n hX dM_click_64 rfl rfl (by first | rfl | exact g_rfr _) 65 rfl ?_
        refine g_dup hX dM_click_65 rfl 66 rfl ?_
        refine g_get hX dM_click_66 fM_142 (w_m hW.r) rfl 69 rfl ?_
        refine g_iconst hX dM_click_69 (v := 1) (by decide) 70 rfl ?_
        refine g_iadd hX dM_click_70 71 rfl ?_
        refine g_put0 hX dM_click_71 fM_142 (w_m hW.r) (w_baseM hW 30 (by decide) (by decide)) rfl rfl (Nat.le_of_ble_eq_true rfl) 74 rfl ?_
        refine g_stepM hW 30 (q_up1 (q_up2 S 13 1 0) 0 3 (q_at S + 1)) (by decide) (by decide) w_hc0 (by rw [nI_1]; rfl) (fun h hW => ?_)
        refine g_aload_n hX dM_click_74 rfl rfl (by first | rfl | exact g_rfr _) 75 rfl ?_
        refine g_iconst hX dM_click_75 (v := 0) (by decide) 76 rfl ?_
        refine g_put0 hX dM_click_76 fM_136 (w_m hW.r) (w_baseM hW 30 (by decide) (by decide)) rfl rfl (Nat.le_of_ble_eq_true rfl) 79 rfl ?_
        refine g_stepM hW 30 (q_up1 (q_up1 (q_up2 S 13 1 0) 0 3 (q_at S + 1)) 0 4 0) (by decide) (by decide) w_hc0 (rfl) (fun h hW => ?_)
        refine g_aload_n hX dM_click_79 rfl rfl (by first | rfl | exact g_rfr _) 80 rfl ?_
        refine g_iconst hX dM_click_80 (v := 0) (by decide) 81 rfl ?_
        refine g_put0 hX dM_click_81 fM_139 (w_m hW.r) (w_baseM hW 30 (by decide) (by decide)) rfl rfl (Nat.le_of_ble_eq_true rfl) 84 rfl ?_
        refine g_stepM hW 30 (q_up2 (q_up1 (q_up1 (q_up2 S 13 1 0) 0 3 (q_at S + 1)) 0 4 0) 13 0 0) (by decide) (by decide) w_hc13 rfl (fun h hW => ?_)
        refine g_iconst hX dM_click_84 (v := 1) (by decide) 85 rfl ?_
        exact g_iret hX rfl rfl dM_click_85 ⟨rfl, hW⟩ rfl (Nat.zero_le _) (Nat.zero_le _)
      · exact absurd (q_ois hm (q_slide_b (S := q_up2 S 13 1 0) hB hm)) c59
    · exact absurd hl1 c29
  · exact absurd (q_ois hs (q_slide_b (S := q_up2 S 13 1 0) hB hs)) c15
set_option maxRecDepth 100000 in
set_option maxHeartbeats 4000000 in
theorem c_M_timing_1 {l : Launch} (hl : l.stackTraces = false) {E : g_E} {A : w_A} {Sc S : q_S} {h : g_H} (hW : w_W E A Sc S h) (hB : w_B S) {s : Int32} (w : Int32) (hs : r_noEffect S s = 1) : g_Ct l mM_timing 3 45 0 0 [.ref (A 30 0), .int s, .int w] E h (false, fun r h' => r = .inr (some (.int 0)) ∧ w_W E A Sc (q_up2 S 13 1 1) h') := by
  refine g_Ct.of hl (by decide) rfl (Nat.le_of_ble_eq_true rfl) ?_
  intro X hX hXl hR
  obtain ⟨hnp, hns, hne, hpar, hhome, hact⟩ := id hB
  show g_Go E X _ h true 0 0 0 [some (.ref (A 30 0)), some (.int s), some (.int w)] []
  refine g_aload_n hX dM_timing_0 rfl rfl (by first | rfl | exact g_rfr _) 1 rfl ?_
  refine g_aload_n hX dM_timing_1 rfl rfl (by first | rfl | exact g_rfr _) 2 rfl ?_
  refine g_iload_n hX dM_timing_2 rfl rfl 3 rfl ?_
  refine g_cV1r (wt := 1) hX (c_M_noEffect hX.tr hW.r hB _) dM_timing_3 (w_m hW.r) kM_124 (g_rm.of hR (by decide) (by decide)) (by first | exact Nat.zero_le _ | (rw [hR]; decide)) (by first | exact Nat.zero_le _ | (rw [hR]; decide)) (by first | decide | (simp [Value.category])) 6 rfl ?_
  refine g_if_eq hX dM_timing_6 13 9 (by decide) rfl (fun c6 => ?_) (fun c6 => ?_)
  · exact absurd (c6.symm.trans hs) (by decide)
  · refine g_iconst hX dM_timing_9 (v := 1) (by decide) 10 rfl ?_
    refine g_goto hX dM_timing_10 14 (by decide) ?_
    refine g_put0 hX dM_timing_14 fM_75 (w_m hW.r) (w_baseM hW 30 (by decide) (by decide)) rfl rfl (Nat.le_of_ble_eq_true rfl) 17 rfl ?_
    refine g_stepM hW 30 (q_up2 S 13 1 _) (by decide) (by decide) w_hc13 rfl (fun h hW => ?_)
    refine g_aload_n hX dM_timing_17 rfl rfl (by first | rfl | exact g_rfr _) 18 rfl ?_
    refine g_get hX dM_timing_18 fM_75 (w_m hW.r) rfl 21 rfl ?_
    refine g_if_le hX dM_timing_21 26 24 (by decide) rfl (fun c21 => ?_) (fun c21 => ?_)
    · exact absurd c21 (show ¬ (1 : Int32) ≤ 0 by decide)
    · refine g_iconst hX dM_timing_24 (v := 0) (by decide) 25 rfl ?_
      exact g_iret hX rfl rfl dM_timing_25 ⟨rfl, hW⟩ rfl (Nat.zero_le _) (Nat.zero_le _)
set_option maxRecDepth 100000 in
set_option maxHeartbeats 4000000 in
theorem c_M_timing_00 {l : Launch} (hl : l.stackTraces = false) {E : g_E} {A : w_A} {Sc S : q_S} {h : g_H} (hW : w_W E A Sc S h) (hB : w_B S) {e : Nat} (he : e < q_ne S)  : g_Ct l mM_timing 3 45 0 0 [.ref (A 30 0), .int (nI e), .int 0] E h (false, fun r h' => r = .inr (some (.int (q_start S e))) ∧ w_W E A Sc (q_up2 S 13 1 0) h') := by
  refine g_Ct.of hl (by decide) rfl (Nat.le_of_ble_eq_true rfl) ?_
  intro X hX hXl hR
  obtain ⟨hnp, hns, hne, hpar, hhome, hact⟩ := id hB
  show g_Go E X _ h true 0 0 0 [some (.ref (A 30 0)), some (.int (nI e)), some (.int 0)] []
  refine g_aload_n hX dM_timing_0 rfl rfl (by first | rfl | exact g_rfr _) 1 rfl ?_
  refine g_aload_n hX dM_timing_1 rfl rfl (by first | rfl | exact g_rfr _) 2 rfl ?_
  refine g_iload_n hX dM_timing_2 rfl rfl 3 rfl ?_
  refine g_cV1r (wt := 1) hX (c_M_noEffect hX.tr hW.r hB _) dM_timing_3 (w_m hW.r) kM_124 (g_rm.of hR (by decide) (by decide)) (by first | exact Nat.zero_le _ | (rw [hR]; decide)) (by first | exact Nat.zero_le _ | (rw [hR]; decide)) (by first | decide | (simp [Value.category])) 6 rfl ?_
  refine g_if_eq hX dM_timing_6 13 9 (by decide) rfl (fun c6 => ?_) (fun c6 => ?_)
  · refine g_iconst hX dM_timing_13 (v := 0) (by decide) 14 rfl ?_
    refine g_put0 hX dM_timing_14 fM_75 (w_m hW.r) (w_baseM hW 30 (by decide) (by decide)) rfl rfl (Nat.le_of_ble_eq_true rfl) 17 rfl ?_
    refine g_stepM hW 30 (q_up2 S 13 1 _) (by decide) (by decide) w_hc13 rfl (fun h hW => ?_)
    refine g_aload_n hX dM_timing_17 rfl rfl (by first | rfl | exact g_rfr _) 18 rfl ?_
    refine g_get hX dM_timing_18 fM_75 (w_m hW.r) rfl 21 rfl ?_
    refine g_if_le hX dM_timing_21 26 24 (by decide) rfl (fun c21 => ?_) (fun c21 => ?_)
    · refine g_iload_n hX dM_timing_26 rfl rfl 27 rfl ?_
      refine g_tableIn hX (off := 29) 56 dM_timing_27 (by decide) (by decide) (by decide) (by decide) ?_
      refine g_aload_n hX dM_timing_56 rfl rfl (by first | rfl | exact g_rfr _) 57 rfl ?_
      refine g_iload_n hX dM_timing_57 rfl rfl 58 rfl ?_
      refine g_cV1r (wt := 0) hX (c_M_start hX.tr hW.r hB he) dM_timing_58 (w_m hW.r) kM_127 (g_rm.of hR (by decide) (by decide)) (by first | exact Nat.zero_le _ | (rw [hR]; decide)) (by first | exact Nat.zero_le _ | (rw [hR]; decide)) (by first | decide | (simp [Value.category])) 61 rfl ?_
      exact g_iret hX rfl rfl dM_timing_61 ⟨by rw [v_start], hW⟩ rfl (Nat.zero_le _) (Nat.zero_le _)
    · exact absurd (show (0 : Int32) ≤ 0 by decide) c21
  · exact absurd (r_noEffect_ok hB he) c6
set_option maxRecDepth 100000 in
set_option maxHeartbeats 4000000 in
theorem c_M_timing_01 {l : Launch} (hl : l.stackTraces = false) {E : g_E} {A : w_A} {Sc S : q_S} {h : g_H} (hW : w_W E A Sc S h) (hB : w_B S) {e : Nat} (he : e < q_ne S)  : g_Ct l mM_timing 3 45 0 0 [.ref (A 30 0), .int (nI e), .int 1] E h (false, fun r h' => r = .inr (some (.int (q_end S e))) ∧ w_W E A Sc (q_up2 S 13 1 0) h') := by
  refine g_Ct.of hl (by decide) rfl (Nat.le_of_ble_eq_true rfl) ?_
  intro X hX hXl hR
  obtain ⟨hnp, hns, hne, hpar, hhome, hact⟩ := id hB
  show g_Go E X _ h true 0 0 0 [some (.ref (A 30 0)), some (.int (nI e)), some (.int 1)] []
  refine g_aload_n hX dM_timing_0 rfl rfl (by first | rfl | exact g_rfr _) 1 rfl ?_
  refine g_aload_n hX dM_timing_1 rfl rfl (by first | rfl | exact g_rfr _) 2 rfl ?_
  refine g_iload_n hX dM_timing_2 rfl rfl 3 rfl ?_
  refine g_cV1r (wt := 1) hX (c_M_noEffect hX.tr hW.r hB _) dM_timing_3 (w_m hW.r) kM_124 (g_rm.of hR (by decide) (by decide)) (by first | exact Nat.zero_le _ | (rw [hR]; decide)) (by first | exact Nat.zero_le _ | (rw [hR]; decide)) (by first | decide | (simp [Value.category])) 6 rfl ?_
  refine g_if_eq hX dM_timing_6 13 9 (by decide) rfl (fun c6 => ?_) (fun c6 => ?_)
  · refine g_iconst hX dM_timing_13 (v := 0) (by decide) 14 rfl ?_
    refine g_put0 hX dM_timing_14 fM_75 (w_m hW.r) (w_baseM hW 30 (by decide) (by decide)) rfl rfl (Nat.le_of_ble_eq_true rfl) 17 rfl ?_
    refine g_stepM hW 30 (q_up2 S 13 1 _) (by decide) (by decide) w_hc13 rfl (fun h hW => ?_)
    refine g_aload_n hX dM_timing_17 rfl rfl (by first | rfl | exact g_rfr _) 18 rfl ?_
    refine g_get hX dM_timing_18 fM_75 (w_m hW.r) rfl 21 rfl ?_
    refine g_if_le hX dM_timing_21 26 24 (by decide) rfl (fun c21 => ?_) (fun c21 => ?_)
    · refine g_iload_n hX dM_timing_26 rfl rfl 27 rfl ?_
      refine g_tableIn hX (off := 35) 62 dM_timing_27 (by decide) (by decide) (by decide) (by decide) ?_
      refine g_aload_n hX dM_timing_62 rfl rfl (by first | rfl | exact g_rfr _) 63 rfl ?_
      refine g_iload_n hX dM_timing_63 rfl rfl 64 rfl ?_
      refine g_cV1r (wt := 0) hX (c_M_end hX.tr hW.r hB he) dM_timing_64 (w_m hW.r) kM_133 (g_rm.of hR (by decide) (by decide)) (by first | exact Nat.zero_le _ | (rw [hR]; decide)) (by first | exact Nat.zero_le _ | (rw [hR]; decide)) (by first | decide | (simp [Value.category])) 67 rfl ?_
      exact g_iret hX rfl rfl dM_timing_67 ⟨by rw [v_end], hW⟩ rfl (Nat.zero_le _) (Nat.zero_le _)
    · exact absurd (show (0 : Int32) ≤ 0 by decide) c21
  · exact absurd (r_noEffect_ok hB he) c6
set_option maxRecDepth 100000 in
set_option maxHeartbeats 4000000 in
theorem c_M_timing_02 {l : Launch} (hl : l.stackTraces = false) {E : g_E} {A : w_A} {Sc S : q_S} {h : g_H} (hW : w_W E A Sc S h) (hB : w_B S) {e : Nat} (he : e < q_ne S)  : g_Ct l mM_timing 3 45 0 0 [.ref (A 30 0), .int (nI e), .int 2] E h (false, fun r h' => r = .inr (some (.int (nI (q_build S e)))) ∧ w_W E A Sc (q_up2 S 13 1 0) h') := by
  refine g_Ct.of hl (by decide) rfl (Nat.le_of_ble_eq_true rfl) ?_
  intro X hX hXl hR
  obtain ⟨hnp, hns, hne, hpar, hhome, hact⟩ := id hB
  show g_Go E X _ h true 0 0 0 [some (.ref (A 30 0)), some (.int (nI e)), some (.int 2)] []
  refine g_aload_n hX dM_timing_0 rfl rfl (by first | rfl | exact g_rfr _) 1 rfl ?_
  refine g_aload_n hX dM_timing_1 rfl rfl (by first | rfl | exact g_rfr _) 2 rfl ?_
  refine g_iload_n hX dM_timing_2 rfl rfl 3 rfl ?_
  refine g_cV1r (wt := 1) hX (c_M_noEffect hX.tr hW.r hB _) dM_timing_3 (w_m hW.r) kM_124 (g_rm.of hR (by decide) (by decide)) (by first | exact Nat.zero_le _ | (rw [hR]; decide)) (by first | exact Nat.zero_le _ | (rw [hR]; decide)) (by first | decide | (simp [Value.category])) 6 rfl ?_
  refine g_if_eq hX dM_timing_6 13 9 (by decide) rfl (fun c6 => ?_) (fun c6 => ?_)
  · refine g_iconst hX dM_timing_13 (v := 0) (by decide) 14 rfl ?_
    refine g_put0 hX dM_timing_14 fM_75 (w_m hW.r) (w_baseM hW 30 (by decide) (by decide)) rfl rfl (Nat.le_of_ble_eq_true rfl) 17 rfl ?_
    refine g_stepM hW 30 (q_up2 S 13 1 _) (by decide) (by decide) w_hc13 rfl (fun h hW => ?_)
    refine g_aload_n hX dM_timing_17 rfl rfl (by first | rfl | exact g_rfr _) 18 rfl ?_
    refine g_get hX dM_timing_18 fM_75 (w_m hW.r) rfl 21 rfl ?_
    refine g_if_le hX dM_timing_21 26 24 (by decide) rfl (fun c21 => ?_) (fun c21 => ?_)
    · refine g_iload_n hX dM_timing_26 rfl rfl 27 rfl ?_
      refine g_tableIn hX (off := 41) 68 dM_timing_27 (by decide) (by decide) (by decide) (by decide) ?_
      refine g_aload_n hX dM_timing_68 rfl rfl (by first | rfl | exact g_rfr _) 69 rfl ?_
      refine g_iload_n hX dM_timing_69 rfl rfl 70 rfl ?_
      refine g_cV1r (wt := 0) hX (c_M_build hX.tr hW.r hB he) dM_timing_70 (w_m hW.r) kM_130 (g_rm.of hR (by decide) (by decide)) (by first | exact Nat.zero_le _ | (rw [hR]; decide)) (by first | exact Nat.zero_le _ | (rw [hR]; decide)) (by first | decide | (simp [Value.category])) 73 rfl ?_
      exact g_iret hX rfl rfl dM_timing_73 ⟨by rw [v_build], hW⟩ rfl (Nat.zero_le _) (Nat.zero_le _)
    · exact absurd (show (0 : Int32) ≤ 0 by decide) c21
  · exact absurd (r_noEffect_ok hB he) c6
def q_tm (S : q_S) (e : Nat) : Int32 := if nI (q_epage S e) = q_oi (q_slide S (nI (q_at S))) then q_stage S e else -1
set_option maxRecDepth 100000 in
set_option maxHeartbeats 4000000 in
theorem c_M_timing_03 {l : Launch} (hl : l.stackTraces = false) {E : g_E} {A : w_A} {Sc S : q_S} {h : g_H} (hW : w_W E A Sc S h) (hB : w_B S) {e : Nat} (he : e < q_ne S)  : g_Ct l mM_timing 3 45 0 0 [.ref (A 30 0), .int (nI e), .int 3] E h (false, fun r h' => r = .inr (some (.int (q_tm S e))) ∧ w_W E A Sc (q_up2 S 13 1 0) h') := by
  refine g_Ct.of hl (by decide) rfl (Nat.le_of_ble_eq_true rfl) ?_
  intro X hX hXl hR
  obtain ⟨hnp, hns, hne, hpar, hhome, hact⟩ := id hB
  show g_Go E X _ h true 0 0 0 [some (.ref (A 30 0)), some (.int (nI e)), some (.int 3)] []
  refine g_aload_n hX dM_timing_0 rfl rfl (by first | rfl | exact g_rfr _) 1 rfl ?_
  refine g_aload_n hX dM_timing_1 rfl rfl (by first | rfl | exact g_rfr _) 2 rfl ?_
  refine g_iload_n hX dM_timing_2 rfl rfl 3 rfl ?_
  refine g_cV1r (wt := 1) hX (c_M_noEffect hX.tr hW.r hB _) dM_timing_3 (w_m hW.r) kM_124 (g_rm.of hR (by decide) (by decide)) (by first | exact Nat.zero_le _ | (rw [hR]; decide)) (by first | exact Nat.zero_le _ | (rw [hR]; decide)) (by first | decide | (simp [Value.category])) 6 rfl ?_
  refine g_if_eq hX dM_timing_6 13 9 (by decide) rfl (fun c6 => ?_) (fun c6 => ?_)
  · refine g_iconst hX dM_timing_13 (v := 0) (by decide) 14 rfl ?_
    refine g_put0 hX dM_timing_14 fM_75 (w_m hW.r) (w_baseM hW 30 (by decide) (by decide)) rfl rfl (Nat.le_of_ble_eq_true rfl) 17 rfl ?_
    refine g_stepM hW 30 (q_up2 S 13 1 _) (by decide) (by decide) w_hc13 rfl (fun h hW => ?_)
    refine g_aload_n hX dM_timing_17 rfl rfl (by first | rfl | exact g_rfr _) 18 rfl ?_
    refine g_get hX dM_timing_18 fM_75 (w_m hW.r) rfl 21 rfl ?_
    refine g_if_le hX dM_timing_21 26 24 (by decide) rfl (fun c21 => ?_) (fun c21 => ?_)
    · refine g_iload_n hX dM_timing_26 rfl rfl 27 rfl ?_
      refine g_tableIn hX (off := 47) 74 dM_timing_27 (by decide) (by decide) (by decide) (by decide) ?_
      refine g_aload_n hX dM_timing_74 rfl rfl (by first | rfl | exact g_rfr _) 75 rfl ?_
      refine g_get hX dM_timing_75 fM_16 (w_m hW.r) rfl 78 rfl ?_
      refine g_aload_n hX dM_timing_78 rfl rfl (by first | rfl | exact g_rfr _) 79 rfl ?_
      refine g_get hX dM_timing_79 fM_45 (w_m hW.r) rfl 82 rfl ?_
      refine g_iload_n hX dM_timing_82 rfl rfl 83 rfl ?_
      refine g_iald hX dM_timing_83 (w_ar hW.r _ (by decide)) (g_ix.nat (by omega) (by decide)) 84 rfl ?_
      refine g_iald hX dM_timing_84 (w_ar hW.r _ (by decide)) (g_ix.nat (show S.1 5 e < 24 by have := hact e he; omega) (by decide)) 85 rfl ?_
      refine g_aload_n hX dM_timing_85 rfl rfl (by first | rfl | exact g_rfr _) 86 rfl ?_
      refine g_aload_n hX dM_timing_86 rfl rfl (by first | rfl | exact g_rfr _) 87 rfl ?_
      refine g_get hX dM_timing_87 fM_142 (w_m hW.r) rfl 90 rfl ?_
      refine g_cV1r (wt := 1) hX (c_M_slide hX.tr hW.r hB _) dM_timing_90 (w_m hW.r) kM_145 (g_rm.of hR (by decide) (by decide)) (by first | exact Nat.zero_le _ | (rw [hR]; decide)) (by first | exact Nat.zero_le _ | (rw [hR]; decide)) (by first | decide | (simp [Value.category])) 93 rfl ?_
      refine g_icmp_ne hX dM_timing_93 104 96 (by decide) rfl (fun c93 => ?_) (fun c93 => ?_)
      · refine g_iconst hX dM_timing_104 (v := (-1)) (by decide) 105 rfl ?_
        have c94 : ¬ nI (q_epage S e) = q_oi (q_slide S (nI (q_at S))) := by rw [← v_slide S 0]; exact c93
        exact g_iret hX rfl rfl dM_timing_105 ⟨by unfold q_tm; rw [if_neg c94], hW⟩ rfl (Nat.zero_le _) (Nat.zero_le _)
      · refine g_aload_n hX dM_timing_96 rfl rfl (by first | rfl | exact g_rfr _) 97 rfl ?_
        refine g_iload_n hX dM_timing_97 rfl rfl 98 rfl ?_
        refine g_cV1r (wt := 0) hX (c_M_stage hX.tr hW.r hB he) dM_timing_98 (w_m hW.r) kM_148 (g_rm.of hR (by decide) (by decide)) (by first | exact Nat.zero_le _ | (rw [hR]; decide)) (by first | exact Nat.zero_le _ | (rw [hR]; decide)) (by first | decide | (simp [Value.category])) 101 rfl ?_
        refine g_goto hX dM_timing_101 105 (by decide) ?_
        have c94 : nI (q_epage S e) = q_oi (q_slide S (nI (q_at S))) := by rw [← v_slide S 0]; exact c93
        exact g_iret hX rfl rfl dM_timing_105 ⟨by unfold q_tm; rw [if_pos c94, v_stage], hW⟩ rfl (Nat.zero_le _) (Nat.zero_le _)
    · exact absurd (show (0 : Int32) ≤ 0 by decide) c21
  · exact absurd (r_noEffect_ok hB he) c6
set_option maxRecDepth 100000 in
set_option maxHeartbeats 4000000 in
theorem c_M_timing_04 {l : Launch} (hl : l.stackTraces = false) {E : g_E} {A : w_A} {Sc S : q_S} {h : g_H} (hW : w_W E A Sc S h) (hB : w_B S) {e : Nat} (he : e < q_ne S) {w : Int32} (hw : w.toInt < 0 ∨ 3 < w.toInt) : g_Ct l mM_timing 3 45 0 0 [.ref (A 30 0), .int (nI e), .int w] E h (false, fun r h' => r = .inr (some (.int (-1))) ∧ w_W E A Sc (q_up2 S 13 1 0) h') := by
  refine g_Ct.of hl (by decide) rfl (Nat.le_of_ble_eq_true rfl) ?_
  intro X hX hXl hR
  obtain ⟨hnp, hns, hne, hpar, hhome, hact⟩ := id hB
  show g_Go E X _ h true 0 0 0 [some (.ref (A 30 0)), some (.int (nI e)), some (.int w)] []
  refine g_aload_n hX dM_timing_0 rfl rfl (by first | rfl | exact g_rfr _) 1 rfl ?_
  refine g_aload_n hX dM_timing_1 rfl rfl (by first | rfl | exact g_rfr _) 2 rfl ?_
  refine g_iload_n hX dM_timing_2 rfl rfl 3 rfl ?_
  refine g_cV1r (wt := 1) hX (c_M_noEffect hX.tr hW.r hB _) dM_timing_3 (w_m hW.r) kM_124 (g_rm.of hR (by decide) (by decide)) (by first | exact Nat.zero_le _ | (rw [hR]; decide)) (by first | exact Nat.zero_le _ | (rw [hR]; decide)) (by first | decide | (simp [Value.category])) 6 rfl ?_
  refine g_if_eq hX dM_timing_6 13 9 (by decide) rfl (fun c6 => ?_) (fun c6 => ?_)
  · refine g_iconst hX dM_timing_13 (v := 0) (by decide) 14 rfl ?_
    refine g_put0 hX dM_timing_14 fM_75 (w_m hW.r) (w_baseM hW 30 (by decide) (by decide)) rfl rfl (Nat.le_of_ble_eq_true rfl) 17 rfl ?_
    refine g_stepM hW 30 (q_up2 S 13 1 _) (by decide) (by decide) w_hc13 rfl (fun h hW => ?_)
    refine g_aload_n hX dM_timing_17 rfl rfl (by first | rfl | exact g_rfr _) 18 rfl ?_
    refine g_get hX dM_timing_18 fM_75 (w_m hW.r) rfl 21 rfl ?_
    refine g_if_le hX dM_timing_21 26 24 (by decide) rfl (fun c21 => ?_) (fun c21 => ?_)
    · refine g_iload_n hX dM_timing_26 rfl rfl 27 rfl ?_
      refine g_tableOut hX 106 dM_timing_27 hw (by decide) ?_
      refine g_iconst hX dM_timing_106 (v := (-1)) (by decide) 107 rfl ?_
      exact g_iret hX rfl rfl dM_timing_107 ⟨rfl, hW⟩ rfl (Nat.zero_le _) (Nat.zero_le _)
    · exact absurd (show (0 : Int32) ≤ 0 by decide) c21
  · exact absurd (r_noEffect_ok hB he) c6
