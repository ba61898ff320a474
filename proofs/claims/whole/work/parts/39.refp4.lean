set_option maxRecDepth 100000 in
set_option maxHeartbeats 4000000 in
theorem c_M_back_b {l : Launch} (hl : l.stackTraces = false) {E : g_E} {A : w_A} {Sc S : q_S} {h : g_H} (hW : w_W E A Sc S h) (hB : w_B S) {n p : Nat} (hn : q_clicks S = n + 1) (hn31 : n + 1 < 2 ^ 31) (hs : q_slide S (nI (q_at S)) = some p) : g_Ct l mM_back 3 48 0 0 [.ref (A 30 0)] E h (false, fun r h' => r = .inr (some (.int 1)) ∧ w_W E A Sc (q_up2 (q_up1 (q_up2 S 13 1 0) 0 4 n) 13 0 (q_len S p (nI n) (q_ne S))) h') := by
  refine g_Ct.of hl (by decide) rfl (Nat.le_of_ble_eq_true rfl) ?_
  intro X hX hXl hR
  obtain ⟨hnp, hns, hne, hpar, hhome, hact⟩ := id hB
  show g_Go E X _ h true 0 0 0 [some (.ref (A 30 0))] []
  refine g_aload_n hX dM_back_0 rfl rfl (by first | rfl | exact g_rfr _) 1 rfl ?_
  refine g_iconst hX dM_back_1 (v := 0) (by decide) 2 rfl ?_
  refine g_put0 hX dM_back_2 fM_75 (w_m hW.r) (w_baseM hW 30 (by decide) (by decide)) rfl rfl (Nat.le_of_ble_eq_true rfl) 5 rfl ?_
  refine g_stepM hW 30 (q_up2 S 13 1 _) (by decide) (by decide) w_hc13 rfl (fun h hW => ?_)
  refine g_aload_n hX dM_back_5 rfl rfl (by first | rfl | exact g_rfr _) 6 rfl ?_
  refine g_get hX dM_back_6 fM_136 (w_m hW.r) rfl 9 rfl ?_
  refine g_if_le hX dM_back_9 44 12 (by decide) rfl (fun c9 => ?_) (fun c9 => ?_)
  · exact absurd c9 (by show ¬ nI (S.1 0 4) ≤ 0; rw [show S.1 0 4 = n + 1 from hn]; exact nI_nle (by omega) hn31)
  · refine g_aload_n hX dM_back_12 rfl rfl (by first | rfl | exact g_rfr _) 13 rfl ?_
    refine g_dup hX dM_back_13 rfl 14 rfl ?_
    refine g_get hX dM_back_14 fM_136 (w_m hW.r) rfl 17 rfl ?_
    refine g_iconst hX dM_back_17 (v := 1) (by decide) 18 rfl ?_
    refine g_isub hX dM_back_18 19 rfl ?_
    refine g_put0 hX dM_back_19 fM_136 (w_m hW.r) (w_baseM hW 30 (by decide) (by decide)) rfl rfl (Nat.le_of_ble_eq_true rfl) 22 rfl ?_
    refine g_stepM hW 30 (q_up1 (q_up2 S 13 1 0) 0 4 n) (by decide) (by decide) w_hc0 (by rw [show nI (q_clicks (q_up2 S 13 1 0)) - 1 = nI n from by rw [show q_clicks (q_up2 S 13 1 0) = n + 1 from hn]; exact nI_pred n]; rfl) (fun h hW => ?_)
    refine g_aload_n hX dM_back_22 rfl rfl (by first | rfl | exact g_rfr _) 23 rfl ?_
    refine g_aload_n hX dM_back_23 rfl rfl (by first | rfl | exact g_rfr _) 24 rfl ?_
    refine g_aload_n hX dM_back_24 rfl rfl (by first | rfl | exact g_rfr _) 25 rfl ?_
    refine g_aload_n hX dM_back_25 rfl rfl (by first | rfl | exact g_rfr _) 26 rfl ?_
    refine g_get hX dM_back_26 fM_142 (w_m hW.r) rfl 29 rfl ?_
    refine g_cV1r (wt := 2) hX (c_M_slide hX.tr hW.r hB _) dM_back_29 (w_m hW.r) kM_145 (g_rm.of hR (by decide) (by decide)) (by first | exact Nat.zero_le _ | (rw [hR]; decide)) (by first | exact Nat.zero_le _ | (rw [hR]; decide)) (by first | decide | (simp [Value.category])) 32 rfl ?_
    refine g_aload_n hX dM_back_32 rfl rfl (by first | rfl | exact g_rfr _) 33 rfl ?_
    refine g_get hX dM_back_33 fM_136 (w_m hW.r) rfl 36 rfl ?_
    refine g_cV2r (wt := 1) hX ((show g_Rd X.l mM_length 2 31 [.ref (A 30 0), .int (q_oi (q_slide (q_up1 (q_up2 S 13 1 0) 0 4 n) (nI (q_at (q_up1 (q_up2 S 13 1 0) 0 4 n))))), .int (nI n)] E h (some (.int (q_len S p (nI n) (q_ne S)))) by rw [q_slide_ea (S := q_up1 (q_up2 S 13 1 0) 0 4 n) (T := S) rfl rfl, show q_slide S (nI (q_at (q_up1 (q_up2 S 13 1 0) 0 4 n))) = some p from hs, ← q_len_ea (S := q_up1 (q_up2 S 13 1 0) 0 4 n) (T := S) ⟨rfl, rfl, rfl, rfl, rfl⟩]; exact c_M_length hX.tr hW.r hB (q_slide_b hB hs) _)) dM_back_36 (w_m hW.r) kM_154 (g_rm.of hR (by decide) (by decide)) (by first | exact Nat.zero_le _ | (rw [hR]; decide)) (by first | exact Nat.zero_le _ | (rw [hR]; decide)) (by first | decide | (simp [Value.category])) 39 rfl ?_
    refine g_put0 hX dM_back_39 fM_139 (w_m hW.r) (w_baseM hW 30 (by decide) (by decide)) rfl rfl (Nat.le_of_ble_eq_true rfl) 42 rfl ?_
    refine g_stepM hW 30 (q_up2 (q_up1 (q_up2 S 13 1 0) 0 4 n) 13 0 _) (by decide) (by decide) w_hc13 rfl (fun h hW => ?_)
    refine g_iconst hX dM_back_42 (v := 1) (by decide) 43 rfl ?_
    exact g_iret hX rfl rfl dM_back_43 ⟨rfl, hW⟩ rfl (Nat.zero_le _) (Nat.zero_le _)
set_option maxRecDepth 100000 in
set_option maxHeartbeats 4000000 in
theorem c_M_back_a {l : Launch} (hl : l.stackTraces = false) {E : g_E} {A : w_A} {Sc S : q_S} {h : g_H} (hW : w_W E A Sc S h) (hB : w_B S)  (hc : q_clicks S = 0) (ha : q_at S = 0) : g_Ct l mM_back 3 48 0 0 [.ref (A 30 0)] E h (false, fun r h' => r = .inr (some (.int 0)) ∧ w_W E A Sc (q_up2 S 13 1 0) h') := by
  refine g_Ct.of hl (by decide) rfl (Nat.le_of_ble_eq_true rfl) ?_
  intro X hX hXl hR
  obtain ⟨hnp, hns, hne, hpar, hhome, hact⟩ := id hB
  show g_Go E X _ h true 0 0 0 [some (.ref (A 30 0))] []
  refine g_aload_n hX dM_back_0 rfl rfl (by first | rfl | exact g_rfr _) 1 rfl ?_
  refine g_iconst hX dM_back_1 (v := 0) (by decide) 2 rfl ?_
  refine g_put0 hX dM_back_2 fM_75 (w_m hW.r) (w_baseM hW 30 (by decide) (by decide)) rfl rfl (Nat.le_of_ble_eq_true rfl) 5 rfl ?_
  refine g_stepM hW 30 (q_up2 S 13 1 _) (by decide) (by decide) w_hc13 rfl (fun h hW => ?_)
  refine g_aload_n hX dM_back_5 rfl rfl (by first | rfl | exact g_rfr _) 6 rfl ?_
  refine g_get hX dM_back_6 fM_136 (w_m hW.r) rfl 9 rfl ?_
  refine g_if_le hX dM_back_9 44 12 (by decide) rfl (fun c9 => ?_) (fun c9 => ?_)
  · refine g_aload_n hX dM_back_44 rfl rfl (by first | rfl | exact g_rfr _) 45 rfl ?_
    refine g_get hX dM_back_45 fM_142 (w_m hW.r) rfl 48 rfl ?_
    refine g_if_ne hX dM_back_48 53 51 (by decide) rfl (fun c48 => ?_) (fun c48 => ?_)
    · exact absurd (show nI (S.1 0 3) = 0 by rw [show S.1 0 3 = 0 from ha]; rfl) c48
    · refine g_iconst hX dM_back_51 (v := 0) (by decide) 52 rfl ?_
      exact g_iret hX rfl rfl dM_back_52 ⟨rfl, hW⟩ rfl (Nat.zero_le _) (Nat.zero_le _)
  · exact absurd (show nI (S.1 0 4) ≤ 0 by rw [show S.1 0 4 = 0 from hc]; decide) c9
set_option maxRecDepth 100000 in
set_option maxHeartbeats 4000000 in
theorem c_M_back_c {l : Launch} (hl : l.stackTraces = false) {E : g_E} {A : w_A} {Sc S : q_S} {h : g_H} (hW : w_W E A Sc S h) (hB : w_B S) {a p : Nat} (hc : q_clicks S = 0) (ha : q_at S = a + 1) (ha31 : a + 1 < 2 ^ 31) (hs : q_slide S (nI a) = some p) : g_Ct l mM_back 3 48 0 0 [.ref (A 30 0)] E h (false, fun r h' => r = .inr (some (.int 1)) ∧ w_W E A Sc (q_up2 (q_up1 (q_up1 (q_up2 S 13 1 0) 0 3 a) 0 4 (q_last S p)) 13 0 (q_len S p (nI (q_last S p)) (q_ne S))) h') := by
  refine g_Ct.of hl (by decide) rfl (Nat.le_of_ble_eq_true rfl) ?_
  intro X hX hXl hR
  obtain ⟨hnp, hns, hne, hpar, hhome, hact⟩ := id hB
  show g_Go E X _ h true 0 0 0 [some (.ref (A 30 0))] []
  refine g_aload_n hX dM_back_0 rfl rfl (by first | rfl | exact g_rfr _) 1 rfl ?_
  refine g_iconst hX dM_back_1 (v := 0) (by decide) 2 rfl ?_
  refine g_put0 hX dM_back_2 fM_75 (w_m hW.r) (w_baseM hW 30 (by decide) (by decide)) rfl rfl (Nat.le_of_ble_eq_true rfl) 5 rfl ?_
  refine g_stepM hW 30 (q_up2 S 13 1 _) (by decide) (by decide) w_hc13 rfl (fun h hW => ?_)
  refine g_aload_n hX dM_back_5 rfl rfl (by first | rfl | exact g_rfr _) 6 rfl ?_
  refine g_get hX dM_back_6 fM_136 (w_m hW.r) rfl 9 rfl ?_
  refine g_if_le hX dM_back_9 44 12 (by decide) rfl (fun c9 => ?_) (fun c9 => ?_)
  · refine g_aload_n hX dM_back_44 rfl rfl (by first | rfl | exact g_rfr _) 45 rfl ?_
    refine g_get hX dM_back_45 fM_142 (w_m hW.r) rfl 48 rfl ?_
    refine g_if_ne hX dM_back_48 53 51 (by decide) rfl (fun c48 => ?_) (fun c48 => ?_)
    · refine g_aload_n hX dM_back_53 rfl rfl (by first | rfl | exact g_rfr _) 54 rfl ?_
      refine g_dup hX dM_back_54 rfl 55 rfl ?_
      refine g_get hX dM_back_55 fM_142 (w_m hW.r) rfl 58 rfl ?_
      refine g_iconst hX dM_back_58 (v := 1) (by decide) 59 rfl ?_
      refine g_isub hX dM_back_59 60 rfl ?_
      refine g_put0 hX dM_back_60 fM_142 (w_m hW.r) (w_baseM hW 30 (by decide) (by decide)) rfl rfl (Nat.le_of_ble_eq_true rfl) 63 rfl ?_
      refine g_stepM hW 30 (q_up1 (q_up2 S 13 1 0) 0 3 a) (by decide) (by decide) w_hc0 (by rw [show nI (q_at (q_up2 S 13 1 0)) - 1 = nI a from by rw [show q_at (q_up2 S 13 1 0) = a + 1 from ha]; exact nI_pred a]; rfl) (fun h hW => ?_)
      refine g_aload_n hX dM_back_63 rfl rfl (by first | rfl | exact g_rfr _) 64 rfl ?_
      refine g_aload_n hX dM_back_64 rfl rfl (by first | rfl | exact g_rfr _) 65 rfl ?_
      refine g_aload_n hX dM_back_65 rfl rfl (by first | rfl | exact g_rfr _) 66 rfl ?_
      refine g_aload_n hX dM_back_66 rfl rfl (by first | rfl | exact g_rfr _) 67 rfl ?_
      refine g_get hX dM_back_67 fM_142 (w_m hW.r) rfl 70 rfl ?_
      refine g_cV1r (wt := 2) hX (c_M_slide hX.tr hW.r hB _) dM_back_70 (w_m hW.r) kM_145 (g_rm.of hR (by decide) (by decide)) (by first | exact Nat.zero_le _ | (rw [hR]; decide)) (by first | exact Nat.zero_le _ | (rw [hR]; decide)) (by first | decide | (simp [Value.category])) 73 rfl ?_
      refine g_cV1r (wt := 1) hX ((show g_Rd X.l mM_lastBuild 0 0 [.ref (A 30 0), .int (q_oi (q_slide (q_up1 (q_up2 S 13 1 0) 0 3 a) (nI (q_at (q_up1 (q_up2 S 13 1 0) 0 3 a)))))] E h (some (.int (nI (q_last S p)))) by rw [q_slide_ea (S := q_up1 (q_up2 S 13 1 0) 0 3 a) (T := S) rfl rfl, show q_slide S (nI (q_at (q_up1 (q_up2 S 13 1 0) 0 3 a))) = some p from hs, ← q_last_ea (S := q_up1 (q_up2 S 13 1 0) 0 3 a) (T := S) ⟨rfl, rfl, rfl, rfl, rfl⟩ rfl]; exact c_M_lastBuild hX.tr hW.r hB (q_slide_b hB hs))) dM_back_73 (w_m hW.r) kM_151 (g_rm.of hR (by decide) (by decide)) (by first | exact Nat.zero_le _ | (rw [hR]; decide)) (by first | exact Nat.zero_le _ | (rw [hR]; decide)) (by first | decide | (simp [Value.category])) 76 rfl ?_
      refine g_put0 hX dM_back_76 fM_136 (w_m hW.r) (w_baseM hW 30 (by decide) (by decide)) rfl rfl (Nat.le_of_ble_eq_true rfl) 79 rfl ?_
      refine g_stepM hW 30 (q_up1 (q_up1 (q_up2 S 13 1 0) 0 3 a) 0 4 (q_last S p)) (by decide) (by decide) w_hc0 (rfl) (fun h hW => ?_)
      refine g_aload_n hX dM_back_79 rfl rfl (by first | rfl | exact g_rfr _) 80 rfl ?_
      refine g_aload_n hX dM_back_80 rfl rfl (by first | rfl | exact g_rfr _) 81 rfl ?_
      refine g_aload_n hX dM_back_81 rfl rfl (by first | rfl | exact g_rfr _) 82 rfl ?_
      refine g_aload_n hX dM_back_82 rfl rfl (by first | rfl | exact g_rfr _) 83 rfl ?_
      refine g_get hX dM_back_83 fM_142 (w_m hW.r) rfl 86 rfl ?_
      refine g_cV1r (wt := 2) hX (c_M_slide hX.tr hW.r hB _) dM_back_86 (w_m hW.r) kM_145 (g_rm.of hR (by decide) (by decide)) (by first | exact Nat.zero_le _ | (rw [hR]; decide)) (by first | exact Nat.zero_le _ | (rw [hR]; decide)) (by first | decide | (simp [Value.category])) 89 rfl ?_
      refine g_aload_n hX dM_back_89 rfl rfl (by first | rfl | exact g_rfr _) 90 rfl ?_
      refine g_get hX dM_back_90 fM_136 (w_m hW.r) rfl 93 rfl ?_
      refine g_cV2r (wt := 1) hX ((show g_Rd X.l mM_length 2 31 [.ref (A 30 0), .int (q_oi (q_slide (q_up1 (q_up1 (q_up2 S 13 1 0) 0 3 a) 0 4 (q_last S p)) (nI (q_at (q_up1 (q_up1 (q_up2 S 13 1 0) 0 3 a) 0 4 (q_last S p)))))), .int (nI (q_last S p))] E h (some (.int (q_len S p (nI (q_last S p)) (q_ne S)))) by rw [q_slide_ea (S := q_up1 (q_up1 (q_up2 S 13 1 0) 0 3 a) 0 4 (q_last S p)) (T := S) rfl rfl, show q_slide S (nI (q_at (q_up1 (q_up1 (q_up2 S 13 1 0) 0 3 a) 0 4 (q_last S p)))) = some p from hs, ← q_len_ea (S := q_up1 (q_up1 (q_up2 S 13 1 0) 0 3 a) 0 4 (q_last S p)) (T := S) ⟨rfl, rfl, rfl, rfl, rfl⟩]; exact c_M_length hX.tr hW.r hB (q_slide_b hB hs) _)) dM_back_93 (w_m hW.r) kM_154 (g_rm.of hR (by decide) (by decide)) (by first | exact Nat.zero_le _ | (rw [hR]; decide)) (by first | exact Nat.zero_le _ | (rw [hR]; decide)) (by first | decide | (simp [Value.category])) 96 rfl ?_
      refine g_put0 hX dM_back_96 fM_139 (w_m hW.r) (w_baseM hW 30 (by decide) (by decide)) rfl rfl (Nat.le_of_ble_eq_true rfl) 99 rfl ?_
      refine g_stepM hW 30 (q_up2 (q_up1 (q_up1 (q_up2 S 13 1 0) 0 3 a) 0 4 (q_last S p)) 13 0 _) (by decide) (by decide) w_hc13 rfl (fun h hW => ?_)
      refine g_iconst hX dM_back_99 (v := 1) (by decide) 100 rfl ?_
      exact g_iret hX rfl rfl dM_back_100 ⟨rfl, hW⟩ rfl (Nat.zero_le _) (Nat.zero_le _)
    · exact absurd c48 (by show ¬ nI (S.1 0 3) = 0; rw [show S.1 0 3 = a + 1 from ha]; exact nI_ne0 (by omega) ha31)
  · exact absurd (show nI (S.1 0 4) ≤ 0 by rw [show S.1 0 4 = 0 from hc]; decide) c9
set_option maxRecDepth 100000 in
set_option maxHeartbeats 4000000 in
theorem c_M_state_0n {l : Launch} (hl : l.stackTraces = false) {E : g_E} {A : w_A} {Sc S : q_S} {h : g_H} (hW : w_W E A Sc S h) (hB : w_B S)  (hs : q_slide S (nI (q_at S)) = none) : g_Ct l mM_state 3 47 0 0 [.ref (A 30 0), .int 0] E h (false, fun r h' => r = .inr (some (.int (-1))) ∧ w_W E A Sc (q_up2 S 13 1 0) h') := by
  refine g_Ct.of hl (by decide) rfl (Nat.le_of_ble_eq_true rfl) ?_
  intro X hX hXl hR
  obtain ⟨hnp, hns, hne, hpar, hhome, hact⟩ := id hB
  have hs0 := hs
  rw [← v_slide S 0] at hs
  show g_Go E X _ h true 0 0 0 [some (.ref (A 30 0)), some (.int 0), none] []
  refine g_aload_n hX dM_state_0 rfl rfl (by first | rfl | exact g_rfr _) 1 rfl ?_
  refine g_iconst hX dM_state_1 (v := 0) (by decide) 2 rfl ?_
  refine g_put0 hX dM_state_2 fM_75 (w_m hW.r) (w_baseM hW 30 (by decide) (by decide)) rfl rfl (Nat.le_of_ble_eq_true rfl) 5 rfl ?_
  refine g_stepM hW 30 (q_up2 S 13 1 _) (by decide) (by decide) w_hc13 rfl (fun h hW => ?_)
  refine g_aload_n hX dM_state_5 rfl rfl (by first | rfl | exact g_rfr _) 6 rfl ?_
  refine g_aload_n hX dM_state_6 rfl rfl (by first | rfl | exact g_rfr _) 7 rfl ?_
  refine g_get hX dM_state_7 fM_142 (w_m hW.r) rfl 10 rfl ?_
  refine g_cV1r (wt := 0) hX (c_M_slide hX.tr hW.r hB _) dM_state_10 (w_m hW.r) kM_145 (g_rm.of hR (by decide) (by decide)) (by first | exact Nat.zero_le _ | (rw [hR]; decide)) (by first | exact Nat.zero_le _ | (rw [hR]; decide)) (by first | decide | (simp [Value.category])) 13 rfl ?_
  refine g_istore_n hX (L' := [_, _, _]) dM_state_13 rfl (by decide) rfl 14 rfl ?_
  refine g_iload_n hX dM_state_14 rfl rfl 15 rfl ?_
  refine g_tableIn hX (off := 33) 48 dM_state_15 (by decide) (by decide) (by decide) (by decide) ?_
  refine g_iload_n hX dM_state_48 rfl rfl 49 rfl ?_
  refine g_if_ge hX dM_state_49 56 52 (by decide) rfl (fun c49 => ?_) (fun c49 => ?_)
  · exact absurd c49 (q_oin hs)
  · refine g_iconst hX dM_state_52 (v := (-1)) (by decide) 53 rfl ?_
    refine g_goto hX dM_state_53 60 (by decide) ?_
    exact g_iret hX rfl rfl dM_state_60 ⟨rfl, hW⟩ rfl (Nat.zero_le _) (Nat.zero_le _)
set_option maxRecDepth 100000 in
set_option maxHeartbeats 4000000 in
theorem c_M_state_0s {l : Launch} (hl : l.stackTraces = false) {E : g_E} {A : w_A} {Sc S : q_S} {h : g_H} (hW : w_W E A Sc S h) (hB : w_B S) {p : Nat} (hs : q_slide S (nI (q_at S)) = some p) : g_Ct l mM_state 3 47 0 0 [.ref (A 30 0), .int 0] E h (false, fun r h' => r = .inr (some (.int (nI (q_at S)))) ∧ w_W E A Sc (q_up2 S 13 1 0) h') := by
  refine g_Ct.of hl (by decide) rfl (Nat.le_of_ble_eq_true rfl) ?_
  intro X hX hXl hR
  obtain ⟨hnp, hns, hne, hpar, hhome, hact⟩ := id hB
  have hs0 := hs
  rw [← v_slide S 0] at hs
  show g_Go E X _ h true 0 0 0 [some (.ref (A 30 0)), some (.int 0), none] []
  refine g_aload_n hX dM_state_0 rfl rfl (by first | rfl | exact g_rfr _) 1 rfl ?_
  refine g_iconst hX dM_state_1 (v := 0) (by decide) 2 rfl ?_
  refine g_put0 hX dM_state_2 fM_75 (w_m hW.r) (w_baseM hW 30 (by decide) (by decide)) rfl rfl (Nat.le_of_ble_eq_true rfl) 5 rfl ?_
  refine g_stepM hW 30 (q_up2 S 13 1 _) (by decide) (by decide) w_hc13 rfl (fun h hW => ?_)
  refine g_aload_n hX dM_state_5 rfl rfl (by first | rfl | exact g_rfr _) 6 rfl ?_
  refine g_aload_n hX dM_state_6 rfl rfl (by first | rfl | exact g_rfr _) 7 rfl ?_
  refine g_get hX dM_state_7 fM_142 (w_m hW.r) rfl 10 rfl ?_
  refine g_cV1r (wt := 0) hX (c_M_slide hX.tr hW.r hB _) dM_state_10 (w_m hW.r) kM_145 (g_rm.of hR (by decide) (by decide)) (by first | exact Nat.zero_le _ | (rw [hR]; decide)) (by first | exact Nat.zero_le _ | (rw [hR]; decide)) (by first | decide | (simp [Value.category])) 13 rfl ?_
  refine g_istore_n hX (L' := [_, _, _]) dM_state_13 rfl (by decide) rfl 14 rfl ?_
  refine g_iload_n hX dM_state_14 rfl rfl 15 rfl ?_
  refine g_tableIn hX (off := 33) 48 dM_state_15 (by decide) (by decide) (by decide) (by decide) ?_
  refine g_iload_n hX dM_state_48 rfl rfl 49 rfl ?_
  refine g_if_ge hX dM_state_49 56 52 (by decide) rfl (fun c49 => ?_) (fun c49 => ?_)
  · refine g_aload_n hX dM_state_56 rfl rfl (by first | rfl | exact g_rfr _) 57 rfl ?_
    refine g_get hX dM_state_57 fM_142 (w_m hW.r) rfl 60 rfl ?_
    exact g_iret hX rfl rfl dM_state_60 ⟨rfl, hW⟩ rfl (Nat.zero_le _) (Nat.zero_le _)
  · exact absurd (q_ois hs (q_slide_b (S := q_up2 S 13 1 0) hB hs)) c49
set_option maxRecDepth 100000 in
set_option maxHeartbeats 4000000 in
theorem c_M_state_1 {l : Launch} (hl : l.stackTraces = false) {E : g_E} {A : w_A} {Sc S : q_S} {h : g_H} (hW : w_W E A Sc S h) (hB : w_B S)   : g_Ct l mM_state 3 47 0 0 [.ref (A 30 0), .int 1] E h (false, fun r h' => r = .inr (some (.int (nI (q_clicks S)))) ∧ w_W E A Sc (q_up2 S 13 1 0) h') := by
  refine g_Ct.of hl (by decide) rfl (Nat.le_of_ble_eq_true rfl) ?_
  intro X hX hXl hR
  obtain ⟨hnp, hns, hne, hpar, hhome, hact⟩ := id hB
  show g_Go E X _ h true 0 0 0 [some (.ref (A 30 0)), some (.int 1), none] []
  refine g_aload_n hX dM_state_0 rfl rfl (by first | rfl | exact g_rfr _) 1 rfl ?_
  refine g_iconst hX dM_state_1 (v := 0) (by decide) 2 rfl ?_
  refine g_put0 hX dM_state_2 fM_75 (w_m hW.r) (w_baseM hW 30 (by decide) (by decide)) rfl rfl (Nat.le_of_ble_eq_true rfl) 5 rfl ?_
  refine g_stepM hW 30 (q_up2 S 13 1 _) (by decide) (by decide) w_hc13 rfl (fun h hW => ?_)
  refine g_aload_n hX dM_state_5 rfl rfl (by first | rfl | exact g_rfr _) 6 rfl ?_
  refine g_aload_n hX dM_state_6 rfl rfl (by first | rfl | exact g_rfr _) 7 rfl ?_
  refine g_get hX dM_state_7 fM_142 (w_m hW.r) rfl 10 rfl ?_
  refine g_cV1r (wt := 0) hX (c_M_slide hX.tr hW.r hB _) dM_state_10 (w_m hW.r) kM_145 (g_rm.of hR (by decide) (by decide)) (by first | exact Nat.zero_le _ | (rw [hR]; decide)) (by first | exact Nat.zero_le _ | (rw [hR]; decide)) (by first | decide | (simp [Value.category])) 13 rfl ?_
  refine g_istore_n hX (L' := [_, _, _]) dM_state_13 rfl (by decide) rfl 14 rfl ?_
  refine g_iload_n hX dM_state_14 rfl rfl 15 rfl ?_
  refine g_tableIn hX (off := 46) 61 dM_state_15 (by decide) (by decide) (by decide) (by decide) ?_
  refine g_aload_n hX dM_state_61 rfl rfl (by first | rfl | exact g_rfr _) 62 rfl ?_
  refine g_get hX dM_state_62 fM_136 (w_m hW.r) rfl 65 rfl ?_
  exact g_iret hX rfl rfl dM_state_65 ⟨rfl, hW⟩ rfl (Nat.zero_le _) (Nat.zero_le _)
set_option maxRecDepth 100000 in
set_option maxHeartbeats 4000000 in
theorem c_M_state_2 {l : Launch} (hl : l.stackTraces = false) {E : g_E} {A : w_A} {Sc S : q_S} {h : g_H} (hW : w_W E A Sc S h) (hB : w_B S)   : g_Ct l mM_state 3 47 0 0 [.ref (A 30 0), .int 2] E h (false, fun r h' => r = .inr (some (.int (q_time S))) ∧ w_W E A Sc (q_up2 S 13 1 0) h') := by
  refine g_Ct.of hl (by decide) rfl (Nat.le_of_ble_eq_true rfl) ?_
  intro X hX hXl hR
  obtain ⟨hnp, hns, hne, hpar, hhome, hact⟩ := id hB
  show g_Go E X _ h true 0 0 0 [some (.ref (A 30 0)), some (.int 2), none] []
  refine g_aload_n hX dM_state_0 rfl rfl (by first | rfl | exact g_rfr _) 1 rfl ?_
  refine g_iconst hX dM_state_1 (v := 0) (by decide) 2 rfl ?_
  refine g_put0 hX dM_state_2 fM_75 (w_m hW.r) (w_baseM hW 30 (by decide) (by decide)) rfl rfl (Nat.le_of_ble_eq_true rfl) 5 rfl ?_
  refine g_stepM hW 30 (q_up2 S 13 1 _) (by decide) (by decide) w_hc13 rfl (fun h hW => ?_)
  refine g_aload_n hX dM_state_5 rfl rfl (by first | rfl | exact g_rfr _) 6 rfl ?_
  refine g_aload_n hX dM_state_6 rfl rfl (by first | rfl | exact g_rfr _) 7 rfl ?_
  refine g_get hX dM_state_7 fM_142 (w_m hW.r) rfl 10 rfl ?_
  refine g_cV1r (wt := 0) hX (c_M_slide hX.tr hW.r hB _) dM_state_10 (w_m hW.r) kM_145 (g_rm.of hR (by decide) (by decide)) (by first | exact Nat.zero_le _ | (rw [hR]; decide)) (by first | exact Nat.zero_le _ | (rw [hR]; decide)) (by first | decide | (simp [Value.category])) 13 rfl ?_
  refine g_istore_n hX (L' := [_, _, _]) dM_state_13 rfl (by decide) rfl 14 rfl ?_
  refine g_iload_n hX dM_state_14 rfl rfl 15 rfl ?_
  refine g_tableIn hX (off := 51) 66 dM_state_15 (by decide) (by decide) (by decide) (by decide) ?_
  refine g_aload_n hX dM_state_66 rfl rfl (by first | rfl | exact g_rfr _) 67 rfl ?_
  refine g_get hX dM_state_67 fM_139 (w_m hW.r) rfl 70 rfl ?_
  exact g_iret hX rfl rfl dM_state_70 ⟨rfl, hW⟩ rfl (Nat.zero_le _) (Nat.zero_le _)
set_option maxRecDepth 100000 in
set_option maxHeartbeats 4000000 in
theorem c_M_state_3n {l : Launch} (hl : l.stackTraces = false) {E : g_E} {A : w_A} {Sc S : q_S} {h : g_H} (hW : w_W E A Sc S h) (hB : w_B S)  (hs : q_slide S (nI (q_at S)) = none) : g_Ct l mM_state 3 47 0 0 [.ref (A 30 0), .int 3] E h (false, fun r h' => r = .inr (some (.int (0))) ∧ w_W E A Sc (q_up2 S 13 1 0) h') := by
  refine g_Ct.of hl (by decide) rfl (Nat.le_of_ble_eq_true rfl) ?_
  intro X hX hXl hR
  obtain ⟨hnp, hns, hne, hpar, hhome, hact⟩ := id hB
  have hs0 := hs
  rw [← v_slide S 0] at hs
  show g_Go E X _ h true 0 0 0 [some (.ref (A 30 0)), some (.int 3), none] []
  refine g_aload_n hX dM_state_0 rfl rfl (by first | rfl | exact g_rfr _) 1 rfl ?_
  refine g_iconst hX dM_state_1 (v := 0) (by decide) 2 rfl ?_
  refine g_put0 hX dM_state_2 fM_75 (w_m hW.r) (w_baseM hW 30 (by decide) (by decide)) rfl rfl (Nat.le_of_ble_eq_true rfl) 5 rfl ?_
  refine g_stepM hW 30 (q_up2 S 13 1 _) (by decide) (by decide) w_hc13 rfl (fun h hW => ?_)
  refine g_aload_n hX dM_state_5 rfl rfl (by first | rfl | exact g_rfr _) 6 rfl ?_
  refine g_aload_n hX dM_state_6 rfl rfl (by first | rfl | exact g_rfr _) 7 rfl ?_
  refine g_get hX dM_state_7 fM_142 (w_m hW.r) rfl 10 rfl ?_
  refine g_cV1r (wt := 0) hX (c_M_slide hX.tr hW.r hB _) dM_state_10 (w_m hW.r) kM_145 (g_rm.of hR (by decide) (by decide)) (by first | exact Nat.zero_le _ | (rw [hR]; decide)) (by first | exact Nat.zero_le _ | (rw [hR]; decide)) (by first | decide | (simp [Value.category])) 13 rfl ?_
  refine g_istore_n hX (L' := [_, _, _]) dM_state_13 rfl (by decide) rfl 14 rfl ?_
  refine g_iload_n hX dM_state_14 rfl rfl 15 rfl ?_
  refine g_tableIn hX (off := 56) 71 dM_state_15 (by decide) (by decide) (by decide) (by decide) ?_
  refine g_iload_n hX dM_state_71 rfl rfl 72 rfl ?_
  refine g_if_ge hX dM_state_72 79 75 (by decide) rfl (fun c72 => ?_) (fun c72 => ?_)
  · exact absurd c72 (q_oin hs)
  · refine g_iconst hX dM_state_75 (v := 0) (by decide) 76 rfl ?_
    refine g_goto hX dM_state_76 84 (by decide) ?_
    exact g_iret hX rfl rfl dM_state_84 ⟨rfl, hW⟩ rfl (Nat.zero_le _) (Nat.zero_le _)
set_option maxRecDepth 100000 in
set_option maxHeartbeats 4000000 in
theorem c_M_state_3s {l : Launch} (hl : l.stackTraces = false) {E : g_E} {A : w_A} {Sc S : q_S} {h : g_H} (hW : w_W E A Sc S h) (hB : w_B S) {p : Nat} (hs : q_slide S (nI (q_at S)) = some p) : g_Ct l mM_state 3 47 0 0 [.ref (A 30 0), .int 3] E h (false, fun r h' => r = .inr (some (.int (nI (q_last S p)))) ∧ w_W E A Sc (q_up2 S 13 1 0) h') := by
  refine g_Ct.of hl (by decide) rfl (Nat.le_of_ble_eq_true rfl) ?_
  intro X hX hXl hR
  obtain ⟨hnp, hns, hne, hpar, hhome, hact⟩ := id hB
  have hs0 := hs
  rw [← v_slide S 0] at hs
  show g_Go E X _ h true 0 0 0 [some (.ref (A 30 0)), some (.int 3), none] []
  refine g_aload_n hX dM_state_0 rfl rfl (by first | rfl | exact g_rfr _) 1 rfl ?_
  refine g_iconst hX dM_state_1 (v := 0) (by decide) 2 rfl ?_
  refine g_put0 hX dM_state_2 fM_75 (w_m hW.r) (w_baseM hW 30 (by decide) (by decide)) rfl rfl (Nat.le_of_ble_eq_true rfl) 5 rfl ?_
  refine g_stepM hW 30 (q_up2 S 13 1 _) (by decide) (by decide) w_hc13 rfl (fun h hW => ?_)
  refine g_aload_n hX dM_state_5 rfl rfl (by first | rfl | exact g_rfr _) 6 rfl ?_
  refine g_aload_n hX dM_state_6 rfl rfl (by first | rfl | exact g_rfr _) 7 rfl ?_
  refine g_get hX dM_state_7 fM_142 (w_m hW.r) rfl 10 rfl ?_
  refine g_cV1r (wt := 0) hX (c_M_slide hX.tr hW.r hB _) dM_state_10 (w_m hW.r) kM_145 (g_rm.of hR (by decide) (by decide)) (by first | exact Nat.zero_le _ | (rw [hR]; decide)) (by first | exact Nat.zero_le _ | (rw [hR]; decide)) (by first | decide | (simp [Value.category])) 13 rfl ?_
  refine g_istore_n hX (L' := [_, _, _]) dM_state_13 rfl (by decide) rfl 14 rfl ?_
  refine g_iload_n hX dM_state_14 rfl rfl 15 rfl ?_
  refine g_tableIn hX (off := 56) 71 dM_state_15 (by decide) (by decide) (by decide) (by decide) ?_
  refine g_iload_n hX dM_state_71 rfl rfl 72 rfl ?_
  refine g_if_ge hX dM_state_72 79 75 (by decide) rfl (fun c72 => ?_) (fun c72 => ?_)
  · refine g_aload_n hX dM_state_79 rfl rfl (by first | rfl | exact g_rfr _) 80 rfl ?_
    refine g_iload_n hX dM_state_80 rfl rfl 81 rfl ?_
    refine g_cV1r (wt := 0) hX ((show g_Rd X.l mM_lastBuild 0 0 [.ref (A 30 0), .int (q_oi (q_slide (q_up2 S 13 1 0) (nI (q_at S))))] E h (some (.int (nI (q_last (q_up2 S 13 1 0) p)))) by rw [hs]; exact c_M_lastBuild hX.tr hW.r hB (q_slide_b (S := q_up2 S 13 1 0) hB hs))) dM_state_81 (w_m hW.r) kM_151 (g_rm.of hR (by decide) (by decide)) (by first | exact Nat.zero_le _ | (rw [hR]; decide)) (by first | exact Nat.zero_le _ | (rw [hR]; decide)) (by first | decide | (simp [Value.category])) 84 rfl ?_
    exact g_iret hX rfl rfl dM_state_84 ⟨by rw [v_last], hW⟩ rfl (Nat.zero_le _) (Nat.zero_le _)
  · exact absurd (q_ois hs (q_slide_b (S := q_up2 S 13 1 0) hB hs)) c72
set_option maxRecDepth 100000 in
set_option maxHeartbeats 4000000 in
theorem c_M_state_4n {l : Launch} (hl : l.stackTraces = false) {E : g_E} {A : w_A} {Sc S : q_S} {h : g_H} (hW : w_W E A Sc S h) (hB : w_B S)  (hs : q_slide S (nI (q_at S)) = none) : g_Ct l mM_state 3 47 0 0 [.ref (A 30 0), .int 4] E h (false, fun r h' => r = .inr (some (.int (0))) ∧ w_W E A Sc (q_up2 S 13 1 0) h') := by
  refine g_Ct.of hl (by decide) rfl (Nat.le_of_ble_eq_true rfl) ?_
  intro X hX hXl hR
  obtain ⟨hnp, hns, hne, hpar, hhome, hact⟩ := id hB
  have hs0 := hs
  rw [← v_slide S 0] at hs
  show g_Go E X _ h true 0 0 0 [some (.ref (A 30 0)), some (.int 4), none] []
  refine g_aload_n hX dM_state_0 rfl rfl (by first | rfl | exact g_rfr _) 1 rfl ?_
  refine g_iconst hX dM_state_1 (v := 0) (by decide) 2 rfl ?_
  refine g_put0 hX dM_state_2 fM_75 (w_m hW.r) (w_baseM hW 30 (by decide) (by decide)) rfl rfl (Nat.le_of_ble_eq_true rfl) 5 rfl ?_
  refine g_stepM hW 30 (q_up2 S 13 1 _) (by decide) (by decide) w_hc13 rfl (fun h hW => ?_)
  refine g_aload_n hX dM_state_5 rfl rfl (by first | rfl | exact g_rfr _) 6 rfl ?_
  refine g_aload_n hX dM_state_6 rfl rfl (by first | rfl | exact g_rfr _) 7 rfl ?_
  refine g_get hX dM_state_7 fM_142 (w_m hW.r) rfl 10 rfl ?_
  refine g_cV1r (wt := 0) hX (c_M_slide hX.tr hW.r hB _) dM_state_10 (w_m hW.r) kM_145 (g_rm.of hR (by decide) (by decide)) (by first | exact Nat.zero_le _ | (rw [hR]; decide)) (by first | exact Nat.zero_le _ | (rw [hR]; decide)) (by first | decide | (simp [Value.category])) 13 rfl ?_
  refine g_istore_n hX (L' := [_, _, _]) dM_state_13 rfl (by decide) rfl 14 rfl ?_
  refine g_iload_n hX dM_state_14 rfl rfl 15 rfl ?_
  refine g_tableIn hX (off := 70) 85 dM_state_15 (by decide) (by decide) (by decide) (by decide) ?_
  refine g_iload_n hX dM_state_85 rfl rfl 86 rfl ?_
  refine g_if_ge hX dM_state_86 93 89 (by decide) rfl (fun c86 => ?_) (fun c86 => ?_)
  · exact absurd c86 (q_oin hs)
  · refine g_iconst hX dM_state_89 (v := 0) (by decide) 90 rfl ?_
    refine g_goto hX dM_state_90 102 (by decide) ?_
    exact g_iret hX rfl rfl dM_state_102 ⟨rfl, hW⟩ rfl (Nat.zero_le _) (Nat.zero_le _)
set_option maxRecDepth 100000 in
set_option maxHeartbeats 4000000 in
theorem c_M_state_4s {l : Launch} (hl : l.stackTraces = false) {E : g_E} {A : w_A} {Sc S : q_S} {h : g_H} (hW : w_W E A Sc S h) (hB : w_B S) {p : Nat} (hs : q_slide S (nI (q_at S)) = some p) : g_Ct l mM_state 3 47 0 0 [.ref (A 30 0), .int 4] E h (false, fun r h' => r = .inr (some (.int (q_len S p (nI (q_clicks S)) (q_ne S)))) ∧ w_W E A Sc (q_up2 S 13 1 0) h') := by
  refine g_Ct.of hl (by decide) rfl (Nat.le_of_ble_eq_true rfl) ?_
  intro X hX hXl hR
  obtain ⟨hnp, hns, hne, hpar, hhome, hact⟩ := id hB
  have hs0 := hs
  rw [← v_slide S 0] at hs
  show g_Go E X _ h true 0 0 0 [some (.ref (A 30 0)), some (.int 4), none] []
  refine g_aload_n hX dM_state_0 rfl rfl (by first | rfl | exact g_rfr _) 1 rfl ?_
  refine g_iconst hX dM_state_1 (v := 0) (by decide) 2 rfl ?_
  refine g_put0 hX dM_state_2 fM_75 (w_m hW.r) (w_baseM hW 30 (by decide) (by decide)) rfl rfl (Nat.le_of_ble_eq_true rfl) 5 rfl ?_
  refine g_stepM hW 30 (q_up2 S 13 1 _) (by decide) (by decide) w_hc13 rfl (fun h hW => ?_)
  refine g_aload_n hX dM_state_5 rfl rfl (by first | rfl | exact g_rfr _) 6 rfl ?_
  refine g_aload_n hX dM_state_6 rfl rfl (by first | rfl | exact g_rfr _) 7 rfl ?_
  refine g_get hX dM_state_7 fM_142 (w_m hW.r) rfl 10 rfl ?_
  refine g_cV1r (wt := 0) hX (c_M_slide hX.tr hW.r hB _) dM_state_10 (w_m hW.r) kM_145 (g_rm.of hR (by decide) (by decide)) (by first | exact Nat.zero_le _ | (rw [hR]; decide)) (by first | exact Nat.zero_le _ | (rw [hR]; decide)) (by first | decide | (simp [Value.category])) 13 rfl ?_
  refine g_istore_n hX (L' := [_, _, _]) dM_state_13 rfl (by decide) rfl 14 rfl ?_
  refine g_iload_n hX dM_state_14 rfl rfl 15 rfl ?_
  refine g_tableIn hX (off := 70) 85 dM_state_15 (by decide) (by decide) (by decide) (by decide) ?_
  refine g_iload_n hX dM_state_85 rfl rfl 86 rfl ?_
  refine g_if_ge hX dM_state_86 93 89 (by decide) rfl (fun c86 => ?_) (fun c86 => ?_)
  · refine g_aload_n hX dM_state_93 rfl rfl (by first | rfl | exact g_rfr _) 94 rfl ?_
    refine g_iload_n hX dM_state_94 rfl rfl 95 rfl ?_
    refine g_aload_n hX dM_state_95 rfl rfl (by first | rfl | exact g_rfr _) 96 rfl ?_
    refine g_get hX dM_state_96 fM_136 (w_m hW.r) rfl 99 rfl ?_
    refine g_cV2r (wt := 0) hX ((show g_Rd X.l mM_length 2 31 [.ref (A 30 0), .int (q_oi (q_slide (q_up2 S 13 1 0) (nI (q_at S)))), .int (nI (q_clicks S))] E h (some (.int (q_len (q_up2 S 13 1 0) p (nI (q_clicks S)) (q_ne S)))) by rw [hs]; exact c_M_length hX.tr hW.r hB (q_slide_b (S := q_up2 S 13 1 0) hB hs) _)) dM_state_99 (w_m hW.r) kM_154 (g_rm.of hR (by decide) (by decide)) (by first | exact Nat.zero_le _ | (rw [hR]; decide)) (by first | exact Nat.zero_le _ | (rw [hR]; decide)) (by first | decide | (simp [Value.category])) 102 rfl ?_
    exact g_iret hX rfl rfl dM_state_102 ⟨by rw [v_len], hW⟩ rfl (Nat.zero_le _) (Nat.zero_le _)
  · exact absurd (q_ois hs (q_slide_b (S := q_up2 S 13 1 0) hB hs)) c86
set_option maxRecDepth 100000 in
set_option maxHeartbeats 4000000 in
theorem c_M_state_5 {l : Launch} (hl : l.stackTraces = false) {E : g_E} {A : w_A} {Sc S : q_S} {h : g_H} (hW : w_W E A Sc S h) (hB : w_B S) {w : Int32} (hw : w.toInt < 0 ∨ 4 < w.toInt) : g_Ct l mM_state 3 47 0 0 [.ref (A 30 0), .int w] E h (false, fun r h' => r = .inr (some (.int (-1))) ∧ w_W E A Sc (q_up2 S 13 1 0) h') := by
  refine g_Ct.of hl (by decide) rfl (Nat.le_of_ble_eq_true rfl) ?_
  intro X hX hXl hR
  obtain ⟨hnp, hns, hne, hpar, hhome, hact⟩ := id hB
  show g_Go E X _ h true 0 0 0 [some (.ref (A 30 0)), some (.int w), none] []
  refine g_aload_n hX dM_state_0 rfl rfl (by first | rfl | exact g_rfr _) 1 rfl ?_
  refine g_iconst hX dM_state_1 (v := 0) (by decide) 2 rfl ?_
  refine g_put0 hX dM_state_2 fM_75 (w_m hW.r) (w_baseM hW 30 (by decide) (by decide)) rfl rfl (Nat.le_of_ble_eq_true rfl) 5 rfl ?_
  refine g_stepM hW 30 (q_up2 S 13 1 _) (by decide) (by decide) w_hc13 rfl (fun h hW => ?_)
  refine g_aload_n hX dM_state_5 rfl rfl (by first | rfl | exact g_rfr _) 6 rfl ?_
  refine g_aload_n hX dM_state_6 rfl rfl (by first | rfl | exact g_rfr _) 7 rfl ?_
  refine g_get hX dM_state_7 fM_142 (w_m hW.r) rfl 10 rfl ?_
  refine g_cV1r (wt := 0) hX (c_M_slide hX.tr hW.r hB _) dM_state_10 (w_m hW.r) kM_145 (g_rm.of hR (by decide) (by decide)) (by first | exact Nat.zero_le _ | (rw [hR]; decide)) (by first | exact Nat.zero_le _ | (rw [hR]; decide)) (by first | decide | (simp [Value.category])) 13 rfl ?_
  refine g_istore_n hX (L' := [_, _, _]) dM_state_13 rfl (by decide) rfl 14 rfl ?_
  refine g_iload_n hX dM_state_14 rfl rfl 15 rfl ?_
  refine g_tableOut hX 103 dM_state_15 hw (by decide) ?_
  refine g_iconst hX dM_state_103 (v := (-1)) (by decide) 104 rfl ?_
  exact g_iret hX rfl rfl dM_state_104 ⟨rfl, hW⟩ rfl (Nat.zero_le _) (Nat.zero_le _)
set_option maxRecDepth 100000 in
set_option maxHeartbeats 4000000 in
theorem c_M_pixel_1 {l : Launch} (hl : l.stackTraces = false) {E : g_E} {A : w_A} {Sc S : q_S} {h : g_H} (hW : w_W E A Sc S h) (hB : w_B S) {x y : Int32} (hx : x < 0 ∨ 24 ≤ x ∨ y < 0 ∨ ¬ y < 16) : g_Ct l mM_pixel 7 127 0 0 [.ref (A 30 0), .int x, .int y] E h (false, fun r h' => r = .inr (some (.int (-1))) ∧ w_W E A Sc (q_up2 S 13 1 0) h') := by
  refine g_Ct.of hl (by decide) rfl (Nat.le_of_ble_eq_true rfl) ?_
  intro X hX hXl hR
  obtain ⟨hnp, hns, hne, hpar, hhome, hact⟩ := id hB
  show g_Go E X _ h true 0 0 0 [some (.ref (A 30 0)), some (.int x), some (.int y), none, none] []
  refine g_aload_n hX dM_pixel_0 rfl rfl (by first | rfl | exact g_rfr _) 1 rfl ?_
  refine g_iconst hX dM_pixel_1 (v := 0) (by decide) 2 rfl ?_
  refine g_put0 hX dM_pixel_2 fM_75 (w_m hW.r) (w_baseM hW 30 (by decide) (by decide)) rfl rfl (Nat.le_of_ble_eq_true rfl) 5 rfl ?_
  refine g_stepM hW 30 (q_up2 S 13 1 _) (by decide) (by decide) w_hc13 rfl (fun h hW => ?_)
  refine g_iload_n hX dM_pixel_5 rfl rfl 6 rfl ?_
  refine g_if_lt hX dM_pixel_6 25 9 (by decide) rfl (fun c6 => ?_) (fun c6 => ?_)
  · refine g_iconst hX dM_pixel_25 (v := (-1)) (by decide) 26 rfl ?_
    exact g_iret hX rfl rfl dM_pixel_26 ⟨rfl, hW⟩ rfl (Nat.zero_le _) (Nat.zero_le _)
  · refine g_iload_n hX dM_pixel_9 rfl rfl 10 rfl ?_
    refine g_bipush hX dM_pixel_10 (v := 24) (by decide) 12 rfl ?_
    refine g_icmp_ge hX dM_pixel_12 25 15 (by decide) rfl (fun c12 => ?_) (fun c12 => ?_)
    · refine g_iconst hX dM_pixel_25 (v := (-1)) (by decide) 26 rfl ?_
      exact g_iret hX rfl rfl dM_pixel_26 ⟨rfl, hW⟩ rfl (Nat.zero_le _) (Nat.zero_le _)
    · refine g_iload_n hX dM_pixel_15 rfl rfl 16 rfl ?_
      refine g_if_lt hX dM_pixel_16 25 19 (by decide) rfl (fun c16 => ?_) (fun c16 => ?_)
      · refine g_iconst hX dM_pixel_25 (v := (-1)) (by decide) 26 rfl ?_
        exact g_iret hX rfl rfl dM_pixel_26 ⟨rfl, hW⟩ rfl (Nat.zero_le _) (Nat.zero_le _)
      · refine g_iload_n hX dM_pixel_19 rfl rfl 20 rfl ?_
        refine g_bipush hX dM_pixel_20 (v := 16) (by decide) 22 rfl ?_
        refine g_icmp_lt hX dM_pixel_22 27 25 (by decide) rfl (fun c22 => ?_) (fun c22 => ?_)
        · exact absurd hx (fun q => by rcases q with q | q | q | q <;> contradiction)
        · refine g_iconst hX dM_pixel_25 (v := (-1)) (by decide) 26 rfl ?_
          exact g_iret hX rfl rfl dM_pixel_26 ⟨rfl, hW⟩ rfl (Nat.zero_le _) (Nat.zero_le _)
set_option maxRecDepth 100000 in
set_option maxHeartbeats 4000000 in
theorem c_M_pixel_n {l : Launch} (hl : l.stackTraces = false) {E : g_E} {A : w_A} {Sc S : q_S} {h : g_H} (hW : w_W E A Sc S h) (hB : w_B S) {x y : Int32} (hx : ¬ x < 0) (hx2 : ¬ 24 ≤ x) (hy : ¬ y < 0) (hy2 : y < 16) (hs : q_slide S (nI (q_at S)) = none) : g_Ct l mM_pixel 7 127 0 0 [.ref (A 30 0), .int x, .int y] E h (false, fun r h' => r = .inr (some (.int (16777215))) ∧ w_W E A Sc (q_up2 S 13 1 0) h') := by
  refine g_Ct.of hl (by decide) rfl (Nat.le_of_ble_eq_true rfl) ?_
  intro X hX hXl hR
  obtain ⟨hnp, hns, hne, hpar, hhome, hact⟩ := id hB
  have hs0 := hs
  rw [← v_slide S 0] at hs
  show g_Go E X _ h true 0 0 0 [some (.ref (A 30 0)), some (.int x), some (.int y), none, none] []
  refine g_aload_n hX dM_pixel_0 rfl rfl (by first | rfl | exact g_rfr _) 1 rfl ?_
  refine g_iconst hX dM_pixel_1 (v := 0) (by decide) 2 rfl ?_
  refine g_put0 hX dM_pixel_2 fM_75 (w_m hW.r) (w_baseM hW 30 (by decide) (by decide)) rfl rfl (Nat.le_of_ble_eq_true rfl) 5 rfl ?_
  refine g_stepM hW 30 (q_up2 S 13 1 _) (by decide) (by decide) w_hc13 rfl (fun h hW => ?_)
  refine g_iload_n hX dM_pixel_5 rfl rfl 6 rfl ?_
  refine g_if_lt hX dM_pixel_6 25 9 (by decide) rfl (fun c6 => ?_) (fun c6 => ?_)
  · contradiction
  · refine g_iload_n hX dM_pixel_9 rfl rfl 10 rfl ?_
    refine g_bipush hX dM_pixel_10 (v := 24) (by decide) 12 rfl ?_
    refine g_icmp_ge hX dM_pixel_12 25 15 (by decide) rfl (fun c12 => ?_) (fun c12 => ?_)
    · contradiction
    · refine g_iload_n hX dM_pixel_15 rfl rfl 16 rfl ?_
      refine g_if_lt hX dM_pixel_16 25 19 (by decide) rfl (fun c16 => ?_) (fun c16 => ?_)
      · contradiction
      · refine g_iload_n hX dM_pixel_19 rfl rfl 20 rfl ?_
        refine g_bipush hX dM_pixel_20 (v := 16) (by decide) 22 rfl ?_
        refine g_icmp_lt hX dM_pixel_22 27 25 (by decide) rfl (fun c22 => ?_) (fun c22 => ?_)
        · refine g_aload_n hX dM_pixel_27 rfl rfl (by first | rfl | exact g_rfr _) 28 rfl ?_
          refine g_aload_n hX dM_pixel_28 rfl rfl (by first | rfl | exact g_rfr _) 29 rfl ?_
          refine g_get hX dM_pixel_29 fM_142 (w_m hW.r) rfl 32 rfl ?_
          refine g_cV1r (wt := 0) hX (c_M_slide hX.tr hW.r hB _) dM_pixel_32 (w_m hW.r) kM_145 (g_rm.of hR (by decide) (by decide)) (by first | exact Nat.zero_le _ | (rw [hR]; decide)) (by first | exact Nat.zero_le _ | (rw [hR]; decide)) (by first | decide | (simp [Value.category])) 35 rfl ?_
          refine g_istore_n hX (L' := [_, _, _, _, _]) dM_pixel_35 rfl (by decide) rfl 36 rfl ?_
          refine g_iload_n hX dM_pixel_36 rfl rfl 37 rfl ?_
          refine g_if_ge hX dM_pixel_37 43 40 (by decide) rfl (fun c37 => ?_) (fun c37 => ?_)
          · exact absurd c37 (q_oin hs)
          · refine g_ldc hX dM_pixel_40 lM_93 42 rfl ?_
            exact g_iret hX rfl rfl dM_pixel_42 ⟨rfl, hW⟩ rfl (Nat.zero_le _) (Nat.zero_le _)
        · contradiction
set_option maxRecDepth 100000 in
set_option maxHeartbeats 4000000 in
theorem c_M_pixel_s {l : Launch} (hl : l.stackTraces = false) {E : g_E} {A : w_A} {Sc S : q_S} {h : g_H} (hW : w_W E A Sc S h) (hB : w_B S) {x y : Int32} {p q m : Nat} (hx : ¬ x < 0) (hx2 : ¬ 24 ≤ x) (hy : ¬ y < 0) (hy2 : y < 16) (hs : q_slide S (nI (q_at S)) = some p) (hq : S.1 1 p = q + 1) (hm : S.1 1 q = m + 1) : g_Ct l mM_pixel 7 127 0 0 [.ref (A 30 0), .int x, .int y] E h (false, fun r h' => r = .inr (some (.int (q_paint S p 1 x y (q_paint S q 0 x y (q_paint S m 0 x y 16777215 (q_ns S)) (q_ns S)) (q_ns S)))) ∧ w_W E A Sc (q_up2 S 13 1 0) h') := by
  refine g_Ct.of hl (by decide) rfl (Nat.le_of_ble_eq_true rfl) ?_
  intro X hX hXl hR
  obtain ⟨hnp, hns, hne, hpar, hhome, hact⟩ := id hB
  have hs0 := hs
  rw [← v_slide S 0] at hs
  have hp9 : p < q_np S := q_slide_lt hs0
  have h91 : S.1 1 p ≤ p := hpar p hp9
  have h92 : q < q_np S := by omega
  have h93 : S.1 1 q ≤ q := hpar q h92
  have h94 : m < q_np S := by omega
  show g_Go E X _ h true 0 0 0 [some (.ref (A 30 0)), some (.int x), some (.int y), none, none] []
  refine g_aload_n hX dM_pixel_0 rfl rfl (by first | rfl | exact g_rfr _) 1 rfl ?_
  refine g_iconst hX dM_pixel_1 (v := 0) (by decide) 2 rfl ?_
  refine g_put0 hX dM_pixel_2 fM_75 (w_m hW.r) (w_baseM hW 30 (by decide) (by decide)) rfl rfl (Nat.le_of_ble_eq_true rfl) 5 rfl ?_
  refine g_stepM hW 30 (q_up2 S 13 1 _) (by decide) (by decide) w_hc13 rfl (fun h hW => ?_)
  refine g_iload_n hX dM_pixel_5 rfl rfl 6 rfl ?_
  refine g_if_lt hX dM_pixel_6 25 9 (by decide) rfl (fun c6 => ?_) (fun c6 => ?_)
  · contradiction
  · refine g_iload_n hX dM_pixel_9 rfl rfl 10 rfl ?_
    refine g_bipush hX dM_pixel_10 (v := 24) (by decide) 12 rfl ?_
    refine g_icmp_ge hX dM_pixel_12 25 15 (by decide) rfl (fun c12 => ?_) (fun c12 => ?_)
    · contradiction
    · refine g_iload_n hX dM_pixel_15 rfl rfl 16 rfl ?_
      refine g_if_lt hX dM_pixel_16 25 19 (by decide) rfl (fun c16 => ?_) (fun c16 => ?_)
      · contradiction
      · refine g_iload_n hX dM_pixel_19 rfl rfl 20 rfl ?_
        refine g_bipush hX dM_pixel_20 (v := 16) (by decide) 22 rfl ?_
        refine g_icmp_lt hX dM_pixel_22 27 25 (by decide) rfl (fun c22 => ?_) (fun c22 => ?_)
        · refine g_aload_n hX dM_pixel_27 rfl rfl (by first | rfl | exact g_rfr _) 28 rfl ?_
          refine g_aload_n hX dM_pixel_28 rfl rfl (by first | rfl | exact g_rfr _) 29 rfl ?_
          refine g_get hX dM_pixel_29 fM_142 (w_m hW.r) rfl 32 rfl ?_
          refine g_cV1r (wt := 0) hX ((show g_Rd X.l mM_slide 0 0 [.ref (A 30 0), .int (nI (q_at S))] E h (some (.int (nI p))) by have h9 := c_M_slide hX.tr hW.r hB (nI (q_at S)); rw [hs] at h9; exact h9)) dM_pixel_32 (w_m hW.r) kM_145 (g_rm.of hR (by decide) (by decide)) (by first | exact Nat.zero_le _ | (rw [hR]; decide)) (by first | exact Nat.zero_le _ | (rw [hR]; decide)) (by first | decide | (simp [Value.category])) 35 rfl ?_
          refine g_istore_n hX (L' := [_, _, _, _, _]) dM_pixel_35 rfl (by decide) rfl 36 rfl ?_
          refine g_iload_n hX dM_pixel_36 rfl rfl 37 rfl ?_
          refine g_if_ge hX dM_pixel_37 43 40 (by decide) rfl (fun c37 => ?_) (fun c37 => ?_)
          · refine g_aload_n hX dM_pixel_43 rfl rfl (by first | rfl | exact g_rfr _) 44 rfl ?_
            refine g_get hX dM_pixel_44 fM_13 (w_m hW.r) rfl 47 rfl ?_
            refine g_iload_n hX dM_pixel_47 rfl rfl 48 rfl ?_
            refine g_iald hX dM_pixel_48 (w_ar hW.r 32 (by decide)) (g_ix.nat (show p < 12 by omega) (by decide)) 49 rfl ?_
            rw [show ((nI ((q_up2 S 13 1 0).1 1 p) - 1 : Int32)) = nI q from by rw [show (q_up2 S 13 1 0).1 1 p = q + 1 from hq]; exact nI_pred q]
            refine g_istore hX (L' := [_, _, _, _, _]) dM_pixel_49 (by decide) rfl 51 rfl ?_
            refine g_aload_n hX dM_pixel_51 rfl rfl (by first | rfl | exact g_rfr _) 52 rfl ?_
            refine g_iload_n hX dM_pixel_52 rfl rfl 53 rfl ?_
            refine g_iconst hX dM_pixel_53 (v := 1) (by decide) 54 rfl ?_
            refine g_iload_n hX dM_pixel_54 rfl rfl 55 rfl ?_
            refine g_iload_n hX dM_pixel_55 rfl rfl 56 rfl ?_
            refine g_aload_n hX dM_pixel_56 rfl rfl (by first | rfl | exact g_rfr _) 57 rfl ?_
            refine g_iload hX dM_pixel_57 rfl 59 rfl ?_
            refine g_iconst hX dM_pixel_59 (v := 0) (by decide) 60 rfl ?_
            refine g_iload_n hX dM_pixel_60 rfl rfl 61 rfl ?_
            refine g_iload_n hX dM_pixel_61 rfl rfl 62 rfl ?_
            refine g_aload_n hX dM_pixel_62 rfl rfl (by first | rfl | exact g_rfr _) 63 rfl ?_
            refine g_aload_n hX dM_pixel_63 rfl rfl (by first | rfl | exact g_rfr _) 64 rfl ?_
            refine g_get hX dM_pixel_64 fM_13 (w_m hW.r) rfl 67 rfl ?_
            refine g_iload hX dM_pixel_67 rfl 69 rfl ?_
            refine g_iald hX dM_pixel_69 (w_ar hW.r 32 (by decide)) (g_ix.nat (show q < 12 by omega) (by decide)) 70 rfl ?_
            rw [show ((nI ((q_up2 S 13 1 0).1 1 q) - 1 : Int32)) = nI m from by rw [show (q_up2 S 13 1 0).1 1 q = m + 1 from hm]; exact nI_pred m]
            refine g_iconst hX dM_pixel_70 (v := 0) (by decide) 71 rfl ?_
            refine g_iload_n hX dM_pixel_71 rfl rfl 72 rfl ?_
            refine g_iload_n hX dM_pixel_72 rfl rfl 73 rfl ?_
            refine g_ldc hX dM_pixel_73 lM_93 75 rfl ?_
            refine g_cV5r (wt := 10) hX (c_M_painted (p := m) hX.tr hW.r hB (by omega) 0 x y _) dM_pixel_75 (w_m hW.r) kM_181 (g_rm.of hR (by decide) (by decide)) (by first | exact Nat.zero_le _ | (rw [hR]; decide)) (by first | exact Nat.zero_le _ | (rw [hR]; decide)) (by first | decide | (simp [Value.category])) 78 rfl ?_
            refine g_cV5r (wt := 5) hX (c_M_painted (p := q) hX.tr hW.r hB (by omega) 0 x y _) dM_pixel_78 (w_m hW.r) kM_181 (g_rm.of hR (by decide) (by decide)) (by first | exact Nat.zero_le _ | (rw [hR]; decide)) (by first | exact Nat.zero_le _ | (rw [hR]; decide)) (by first | decide | (simp [Value.category])) 81 rfl ?_
            refine g_cV5r (wt := 0) hX (c_M_painted (p := p) hX.tr hW.r hB (by omega) 1 x y _) dM_pixel_81 (w_m hW.r) kM_181 (g_rm.of hR (by decide) (by decide)) (by first | exact Nat.zero_le _ | (rw [hR]; decide)) (by first | exact Nat.zero_le _ | (rw [hR]; decide)) (by first | decide | (simp [Value.category])) 84 rfl ?_
            exact g_iret hX rfl rfl dM_pixel_84 ⟨by rw [v_paint, v_paint, v_paint]; rfl, hW⟩ rfl (Nat.zero_le _) (Nat.zero_le _)
          · exact absurd (nI_pos' (by omega)) c37
        · contradiction
