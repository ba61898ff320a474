set_option maxRecDepth 100000 in
set_option maxHeartbeats 4000000 in
theorem c_M_resolved_1 {l : Launch} (hl : l.stackTraces = false) {E : g_E} {A : w_A} {Sc S : q_S} {h : g_H} (hW : w_W E A Sc S h) (hB : w_B S) {s : Int32} (p : Int32) (hs : r_noShape S s = 1) : g_Ct l mM_resolved 3 46 0 0 [.ref (A 30 0), .int s, .int p] E h (false, fun r h' => r = .inr (some (.int 0)) ∧ w_W E A Sc (q_up2 S 13 1 1) h') := by
  refine g_Ct.of hl (by decide) rfl (Nat.le_of_ble_eq_true rfl) ?_
  intro X hX hXl hR
  obtain ⟨hnp, hns, hne, hpar, hhome, hact⟩ := id hB
  show g_Go E X _ h true 0 0 0 [some (.ref (A 30 0)), some (.int s), some (.int p)] []
  refine g_aload_n hX dM_resolved_0 rfl rfl (by first | rfl | exact g_rfr _) 1 rfl ?_
  refine g_aload_n hX dM_resolved_1 rfl rfl (by first | rfl | exact g_rfr _) 2 rfl ?_
  refine g_iload_n hX dM_resolved_2 rfl rfl 3 rfl ?_
  refine g_cV1r (wt := 1) hX (c_M_noShape hX.tr hW.r hB _) dM_resolved_3 (w_m hW.r) kM_98 (g_rm.of hR (by decide) (by decide)) (by first | exact Nat.zero_le _ | (rw [hR]; decide)) (by first | exact Nat.zero_le _ | (rw [hR]; decide)) (by first | decide | (simp [Value.category])) 6 rfl ?_
  refine g_if_eq hX dM_resolved_6 13 9 (by decide) rfl (fun c6 => ?_) (fun c6 => ?_)
  · exact absurd (c6.symm.trans hs) (by decide)
  · refine g_iconst hX dM_resolved_9 (v := 1) (by decide) 10 rfl ?_
    refine g_goto hX dM_resolved_10 25 (by decide) ?_
    refine g_put0 hX dM_resolved_25 fM_75 (w_m hW.r) (w_baseM hW 30 (by decide) (by decide)) rfl rfl (Nat.le_of_ble_eq_true rfl) 28 rfl ?_
    refine g_stepM hW 30 (q_up2 S 13 1 _) (by decide) (by decide) w_hc13 rfl (fun h hW => ?_)
    refine g_aload_n hX dM_resolved_28 rfl rfl (by first | rfl | exact g_rfr _) 29 rfl ?_
    refine g_get hX dM_resolved_29 fM_75 (w_m hW.r) rfl 32 rfl ?_
    refine g_if_le hX dM_resolved_32 39 35 (by decide) rfl (fun c32 => ?_) (fun c32 => ?_)
    · exact absurd c32 (show ¬ (1 : Int32) ≤ 0 by decide)
    · refine g_iconst hX dM_resolved_35 (v := 0) (by decide) 36 rfl ?_
      refine g_goto hX dM_resolved_36 45 (by decide) ?_
      exact g_iret hX rfl rfl dM_resolved_45 ⟨rfl, hW⟩ rfl (Nat.zero_le _) (Nat.zero_le _)
set_option maxRecDepth 100000 in
set_option maxHeartbeats 4000000 in
theorem c_M_resolved_2 {l : Launch} (hl : l.stackTraces = false) {E : g_E} {A : w_A} {Sc S : q_S} {h : g_H} (hW : w_W E A Sc S h) (hB : w_B S) {j : Nat} (hj : j < q_ns S) {p : Int32} (hp : r_noProperty p = 1) : g_Ct l mM_resolved 3 46 0 0 [.ref (A 30 0), .int (nI j), .int p] E h (false, fun r h' => r = .inr (some (.int 0)) ∧ w_W E A Sc (q_up2 S 13 1 2) h') := by
  refine g_Ct.of hl (by decide) rfl (Nat.le_of_ble_eq_true rfl) ?_
  intro X hX hXl hR
  obtain ⟨hnp, hns, hne, hpar, hhome, hact⟩ := id hB
  show g_Go E X _ h true 0 0 0 [some (.ref (A 30 0)), some (.int (nI j)), some (.int p)] []
  refine g_aload_n hX dM_resolved_0 rfl rfl (by first | rfl | exact g_rfr _) 1 rfl ?_
  refine g_aload_n hX dM_resolved_1 rfl rfl (by first | rfl | exact g_rfr _) 2 rfl ?_
  refine g_iload_n hX dM_resolved_2 rfl rfl 3 rfl ?_
  refine g_cV1r (wt := 1) hX (c_M_noShape hX.tr hW.r hB _) dM_resolved_3 (w_m hW.r) kM_98 (g_rm.of hR (by decide) (by decide)) (by first | exact Nat.zero_le _ | (rw [hR]; decide)) (by first | exact Nat.zero_le _ | (rw [hR]; decide)) (by first | decide | (simp [Value.category])) 6 rfl ?_
  refine g_if_eq hX dM_resolved_6 13 9 (by decide) rfl (fun c6 => ?_) (fun c6 => ?_)
  · refine g_iload_n hX dM_resolved_13 rfl rfl 14 rfl ?_
    refine g_cS1r (wt := 1) hX (c_M_noProperty hX.tr E h _) dM_resolved_14 kM_101 (g_rm.of hR (by decide) (by decide)) (by first | exact Nat.zero_le _ | (rw [hR]; decide)) (by first | exact Nat.zero_le _ | (rw [hR]; decide)) (by first | decide | (simp [Value.category])) 17 rfl ?_
    refine g_if_eq hX dM_resolved_17 24 20 (by decide) rfl (fun c17 => ?_) (fun c17 => ?_)
    · exact absurd (c17.symm.trans hp) (by decide)
    · refine g_iconst hX dM_resolved_20 (v := 2) (by decide) 21 rfl ?_
      refine g_goto hX dM_resolved_21 25 (by decide) ?_
      refine g_put0 hX dM_resolved_25 fM_75 (w_m hW.r) (w_baseM hW 30 (by decide) (by decide)) rfl rfl (Nat.le_of_ble_eq_true rfl) 28 rfl ?_
      refine g_stepM hW 30 (q_up2 S 13 1 _) (by decide) (by decide) w_hc13 rfl (fun h hW => ?_)
      refine g_aload_n hX dM_resolved_28 rfl rfl (by first | rfl | exact g_rfr _) 29 rfl ?_
      refine g_get hX dM_resolved_29 fM_75 (w_m hW.r) rfl 32 rfl ?_
      refine g_if_le hX dM_resolved_32 39 35 (by decide) rfl (fun c32 => ?_) (fun c32 => ?_)
      · exact absurd c32 (show ¬ (2 : Int32) ≤ 0 by decide)
      · refine g_iconst hX dM_resolved_35 (v := 0) (by decide) 36 rfl ?_
        refine g_goto hX dM_resolved_36 45 (by decide) ?_
        exact g_iret hX rfl rfl dM_resolved_45 ⟨rfl, hW⟩ rfl (Nat.zero_le _) (Nat.zero_le _)
  · exact absurd (r_noShape_ok hB hj) c6
set_option maxRecDepth 100000 in
set_option maxHeartbeats 4000000 in
theorem c_M_resolved_0 {l : Launch} (hl : l.stackTraces = false) {E : g_E} {A : w_A} {Sc S : q_S} {h : g_H} (hW : w_W E A Sc S h) (hB : w_B S) {j pr : Nat} (hj : j < q_ns S) (hpr : pr < 7)  : g_Ct l mM_resolved 3 46 0 0 [.ref (A 30 0), .int (nI j), .int (nI pr)] E h (false, fun r h' => r = .inr (some (.int (q_value S j pr))) ∧ w_W E A Sc (q_up2 S 13 1 0) h') := by
  refine g_Ct.of hl (by decide) rfl (Nat.le_of_ble_eq_true rfl) ?_
  intro X hX hXl hR
  obtain ⟨hnp, hns, hne, hpar, hhome, hact⟩ := id hB
  show g_Go E X _ h true 0 0 0 [some (.ref (A 30 0)), some (.int (nI j)), some (.int (nI pr))] []
  refine g_aload_n hX dM_resolved_0 rfl rfl (by first | rfl | exact g_rfr _) 1 rfl ?_
  refine g_aload_n hX dM_resolved_1 rfl rfl (by first | rfl | exact g_rfr _) 2 rfl ?_
  refine g_iload_n hX dM_resolved_2 rfl rfl 3 rfl ?_
  refine g_cV1r (wt := 1) hX (c_M_noShape hX.tr hW.r hB _) dM_resolved_3 (w_m hW.r) kM_98 (g_rm.of hR (by decide) (by decide)) (by first | exact Nat.zero_le _ | (rw [hR]; decide)) (by first | exact Nat.zero_le _ | (rw [hR]; decide)) (by first | decide | (simp [Value.category])) 6 rfl ?_
  refine g_if_eq hX dM_resolved_6 13 9 (by decide) rfl (fun c6 => ?_) (fun c6 => ?_)
  · refine g_iload_n hX dM_resolved_13 rfl rfl 14 rfl ?_
    refine g_cS1r (wt := 1) hX (c_M_noProperty hX.tr E h _) dM_resolved_14 kM_101 (g_rm.of hR (by decide) (by decide)) (by first | exact Nat.zero_le _ | (rw [hR]; decide)) (by first | exact Nat.zero_le _ | (rw [hR]; decide)) (by first | decide | (simp [Value.category])) 17 rfl ?_
    refine g_if_eq hX dM_resolved_17 24 20 (by decide) rfl (fun c17 => ?_) (fun c17 => ?_)
    · refine g_iconst hX dM_resolved_24 (v := 0) (by decide) 25 rfl ?_
      refine g_put0 hX dM_resolved_25 fM_75 (w_m hW.r) (w_baseM hW 30 (by decide) (by decide)) rfl rfl (Nat.le_of_ble_eq_true rfl) 28 rfl ?_
      refine g_stepM hW 30 (q_up2 S 13 1 _) (by decide) (by decide) w_hc13 rfl (fun h hW => ?_)
      refine g_aload_n hX dM_resolved_28 rfl rfl (by first | rfl | exact g_rfr _) 29 rfl ?_
      refine g_get hX dM_resolved_29 fM_75 (w_m hW.r) rfl 32 rfl ?_
      refine g_if_le hX dM_resolved_32 39 35 (by decide) rfl (fun c32 => ?_) (fun c32 => ?_)
      · refine g_aload_n hX dM_resolved_39 rfl rfl (by first | rfl | exact g_rfr _) 40 rfl ?_
        refine g_iload_n hX dM_resolved_40 rfl rfl 41 rfl ?_
        refine g_iload_n hX dM_resolved_41 rfl rfl 42 rfl ?_
        refine g_cV2r (wt := 0) hX (c_M_value hX.tr hW.r hB hj hpr) dM_resolved_42 (w_m hW.r) kM_107 (g_rm.of hR (by decide) (by decide)) (by first | exact Nat.zero_le _ | (rw [hR]; decide)) (by first | exact Nat.zero_le _ | (rw [hR]; decide)) (by first | decide | (simp [Value.category])) 45 rfl ?_
        exact g_iret hX rfl rfl dM_resolved_45 ⟨by rw [v_value], hW⟩ rfl (Nat.zero_le _) (Nat.zero_le _)
      · exact absurd (show (0 : Int32) ≤ 0 by decide) c32
    · exact absurd (r_noProperty_ok hpr) c17
  · exact absurd (r_noShape_ok hB hj) c6
set_option maxRecDepth 100000 in
set_option maxHeartbeats 4000000 in
theorem c_M_origin_1 {l : Launch} (hl : l.stackTraces = false) {E : g_E} {A : w_A} {Sc S : q_S} {h : g_H} (hW : w_W E A Sc S h) (hB : w_B S) {s : Int32} (p : Int32) (hs : r_noShape S s = 1) : g_Ct l mM_origin 2 31 0 0 [.ref (A 30 0), .int s, .int p] E h (false, fun r h' => r = .inr (some (.int 0)) ∧ w_W E A Sc (q_up2 S 13 1 1) h') := by
  refine g_Ct.of hl (by decide) rfl (Nat.le_of_ble_eq_true rfl) ?_
  intro X hX hXl hR
  obtain ⟨hnp, hns, hne, hpar, hhome, hact⟩ := id hB
  show g_Go E X _ h true 0 0 0 [some (.ref (A 30 0)), some (.int s), some (.int p)] []
  refine g_aload_n hX dM_origin_0 rfl rfl (by first | rfl | exact g_rfr _) 1 rfl ?_
  refine g_aload_n hX dM_origin_1 rfl rfl (by first | rfl | exact g_rfr _) 2 rfl ?_
  refine g_iload_n hX dM_origin_2 rfl rfl 3 rfl ?_
  refine g_cV1r (wt := 1) hX (c_M_noShape hX.tr hW.r hB _) dM_origin_3 (w_m hW.r) kM_98 (g_rm.of hR (by decide) (by decide)) (by first | exact Nat.zero_le _ | (rw [hR]; decide)) (by first | exact Nat.zero_le _ | (rw [hR]; decide)) (by first | decide | (simp [Value.category])) 6 rfl ?_
  refine g_if_eq hX dM_origin_6 13 9 (by decide) rfl (fun c6 => ?_) (fun c6 => ?_)
  · exact absurd (c6.symm.trans hs) (by decide)
  · refine g_iconst hX dM_origin_9 (v := 1) (by decide) 10 rfl ?_
    refine g_goto hX dM_origin_10 25 (by decide) ?_
    refine g_put0 hX dM_origin_25 fM_75 (w_m hW.r) (w_baseM hW 30 (by decide) (by decide)) rfl rfl (Nat.le_of_ble_eq_true rfl) 28 rfl ?_
    refine g_stepM hW 30 (q_up2 S 13 1 _) (by decide) (by decide) w_hc13 rfl (fun h hW => ?_)
    refine g_aload_n hX dM_origin_28 rfl rfl (by first | rfl | exact g_rfr _) 29 rfl ?_
    refine g_get hX dM_origin_29 fM_75 (w_m hW.r) rfl 32 rfl ?_
    refine g_if_le hX dM_origin_32 39 35 (by decide) rfl (fun c32 => ?_) (fun c32 => ?_)
    · exact absurd c32 (show ¬ (1 : Int32) ≤ 0 by decide)
    · refine g_iconst hX dM_origin_35 (v := 0) (by decide) 36 rfl ?_
      refine g_goto hX dM_origin_36 45 (by decide) ?_
      exact g_iret hX rfl rfl dM_origin_45 ⟨rfl, hW⟩ rfl (Nat.zero_le _) (Nat.zero_le _)
set_option maxRecDepth 100000 in
set_option maxHeartbeats 4000000 in
theorem c_M_origin_2 {l : Launch} (hl : l.stackTraces = false) {E : g_E} {A : w_A} {Sc S : q_S} {h : g_H} (hW : w_W E A Sc S h) (hB : w_B S) {j : Nat} (hj : j < q_ns S) {p : Int32} (hp : r_noProperty p = 1) : g_Ct l mM_origin 2 31 0 0 [.ref (A 30 0), .int (nI j), .int p] E h (false, fun r h' => r = .inr (some (.int 0)) ∧ w_W E A Sc (q_up2 S 13 1 2) h') := by
  refine g_Ct.of hl (by decide) rfl (Nat.le_of_ble_eq_true rfl) ?_
  intro X hX hXl hR
  obtain ⟨hnp, hns, hne, hpar, hhome, hact⟩ := id hB
  show g_Go E X _ h true 0 0 0 [some (.ref (A 30 0)), some (.int (nI j)), some (.int p)] []
  refine g_aload_n hX dM_origin_0 rfl rfl (by first | rfl | exact g_rfr _) 1 rfl ?_
  refine g_aload_n hX dM_origin_1 rfl rfl (by first | rfl | exact g_rfr _) 2 rfl ?_
  refine g_iload_n hX dM_origin_2 rfl rfl 3 rfl ?_
  refine g_cV1r (wt := 1) hX (c_M_noShape hX.tr hW.r hB _) dM_origin_3 (w_m hW.r) kM_98 (g_rm.of hR (by decide) (by decide)) (by first | exact Nat.zero_le _ | (rw [hR]; decide)) (by first | exact Nat.zero_le _ | (rw [hR]; decide)) (by first | decide | (simp [Value.category])) 6 rfl ?_
  refine g_if_eq hX dM_origin_6 13 9 (by decide) rfl (fun c6 => ?_) (fun c6 => ?_)
  · refine g_iload_n hX dM_origin_13 rfl rfl 14 rfl ?_
    refine g_cS1r (wt := 1) hX (c_M_noProperty hX.tr E h _) dM_origin_14 kM_101 (g_rm.of hR (by decide) (by decide)) (by first | exact Nat.zero_le _ | (rw [hR]; decide)) (by first | exact Nat.zero_le _ | (rw [hR]; decide)) (by first | decide | (simp [Value.category])) 17 rfl ?_
    refine g_if_eq hX dM_origin_17 24 20 (by decide) rfl (fun c17 => ?_) (fun c17 => ?_)
    · exact absurd (c17.symm.trans hp) (by decide)
    · refine g_iconst hX dM_origin_20 (v := 2) (by decide) 21 rfl ?_
      refine g_goto hX dM_origin_21 25 (by decide) ?_
      refine g_put0 hX dM_origin_25 fM_75 (w_m hW.r) (w_baseM hW 30 (by decide) (by decide)) rfl rfl (Nat.le_of_ble_eq_true rfl) 28 rfl ?_
      refine g_stepM hW 30 (q_up2 S 13 1 _) (by decide) (by decide) w_hc13 rfl (fun h hW => ?_)
      refine g_aload_n hX dM_origin_28 rfl rfl (by first | rfl | exact g_rfr _) 29 rfl ?_
      refine g_get hX dM_origin_29 fM_75 (w_m hW.r) rfl 32 rfl ?_
      refine g_if_le hX dM_origin_32 39 35 (by decide) rfl (fun c32 => ?_) (fun c32 => ?_)
      · exact absurd c32 (show ¬ (2 : Int32) ≤ 0 by decide)
      · refine g_iconst hX dM_origin_35 (v := 0) (by decide) 36 rfl ?_
        refine g_goto hX dM_origin_36 45 (by decide) ?_
        exact g_iret hX rfl rfl dM_origin_45 ⟨rfl, hW⟩ rfl (Nat.zero_le _) (Nat.zero_le _)
  · exact absurd (r_noShape_ok hB hj) c6
set_option maxRecDepth 100000 in
set_option maxHeartbeats 4000000 in
theorem c_M_origin_0 {l : Launch} (hl : l.stackTraces = false) {E : g_E} {A : w_A} {Sc S : q_S} {h : g_H} (hW : w_W E A Sc S h) (hB : w_B S) {j pr : Nat} (hj : j < q_ns S) (hpr : pr < 7)  : g_Ct l mM_origin 2 31 0 0 [.ref (A 30 0), .int (nI j), .int (nI pr)] E h (false, fun r h' => r = .inr (some (.int (q_oi (q_source S j pr)))) ∧ w_W E A Sc (q_up2 S 13 1 0) h') := by
  refine g_Ct.of hl (by decide) rfl (Nat.le_of_ble_eq_true rfl) ?_
  intro X hX hXl hR
  obtain ⟨hnp, hns, hne, hpar, hhome, hact⟩ := id hB
  show g_Go E X _ h true 0 0 0 [some (.ref (A 30 0)), some (.int (nI j)), some (.int (nI pr))] []
  refine g_aload_n hX dM_origin_0 rfl rfl (by first | rfl | exact g_rfr _) 1 rfl ?_
  refine g_aload_n hX dM_origin_1 rfl rfl (by first | rfl | exact g_rfr _) 2 rfl ?_
  refine g_iload_n hX dM_origin_2 rfl rfl 3 rfl ?_
  refine g_cV1r (wt := 1) hX (c_M_noShape hX.tr hW.r hB _) dM_origin_3 (w_m hW.r) kM_98 (g_rm.of hR (by decide) (by decide)) (by first | exact Nat.zero_le _ | (rw [hR]; decide)) (by first | exact Nat.zero_le _ | (rw [hR]; decide)) (by first | decide | (simp [Value.category])) 6 rfl ?_
  refine g_if_eq hX dM_origin_6 13 9 (by decide) rfl (fun c6 => ?_) (fun c6 => ?_)
  · refine g_iload_n hX dM_origin_13 rfl rfl 14 rfl ?_
    refine g_cS1r (wt := 1) hX (c_M_noProperty hX.tr E h _) dM_origin_14 kM_101 (g_rm.of hR (by decide) (by decide)) (by first | exact Nat.zero_le _ | (rw [hR]; decide)) (by first | exact Nat.zero_le _ | (rw [hR]; decide)) (by first | decide | (simp [Value.category])) 17 rfl ?_
    refine g_if_eq hX dM_origin_17 24 20 (by decide) rfl (fun c17 => ?_) (fun c17 => ?_)
    · refine g_iconst hX dM_origin_24 (v := 0) (by decide) 25 rfl ?_
      refine g_put0 hX dM_origin_25 fM_75 (w_m hW.r) (w_baseM hW 30 (by decide) (by decide)) rfl rfl (Nat.le_of_ble_eq_true rfl) 28 rfl ?_
      refine g_stepM hW 30 (q_up2 S 13 1 _) (by decide) (by decide) w_hc13 rfl (fun h hW => ?_)
      refine g_aload_n hX dM_origin_28 rfl rfl (by first | rfl | exact g_rfr _) 29 rfl ?_
      refine g_get hX dM_origin_29 fM_75 (w_m hW.r) rfl 32 rfl ?_
      refine g_if_le hX dM_origin_32 39 35 (by decide) rfl (fun c32 => ?_) (fun c32 => ?_)
      · refine g_aload_n hX dM_origin_39 rfl rfl (by first | rfl | exact g_rfr _) 40 rfl ?_
        refine g_iload_n hX dM_origin_40 rfl rfl 41 rfl ?_
        refine g_iload_n hX dM_origin_41 rfl rfl 42 rfl ?_
        refine g_cV2r (wt := 0) hX (c_M_source hX.tr hW.r hB hj hpr) dM_origin_42 (w_m hW.r) kM_104 (g_rm.of hR (by decide) (by decide)) (by first | exact Nat.zero_le _ | (rw [hR]; decide)) (by first | exact Nat.zero_le _ | (rw [hR]; decide)) (by first | decide | (simp [Value.category])) 45 rfl ?_
        exact g_iret hX rfl rfl dM_origin_45 ⟨by rw [v_source], hW⟩ rfl (Nat.zero_le _) (Nat.zero_le _)
      · exact absurd (show (0 : Int32) ≤ 0 by decide) c32
    · exact absurd (r_noProperty_ok hpr) c17
  · exact absurd (r_noShape_ok hB hj) c6
set_option maxRecDepth 100000 in
set_option maxHeartbeats 4000000 in
theorem c_M_now_1 {l : Launch} (hl : l.stackTraces = false) {E : g_E} {A : w_A} {Sc S : q_S} {h : g_H} (hW : w_W E A Sc S h) (hB : w_B S) {s : Int32} (p : Int32) (hs : r_noShape S s = 1) : g_Ct l mM_now 5 80 0 0 [.ref (A 30 0), .int s, .int p] E h (false, fun r h' => r = .inr (some (.int 0)) ∧ w_W E A Sc (q_up2 S 13 1 1) h') := by
  refine g_Ct.of hl (by decide) rfl (Nat.le_of_ble_eq_true rfl) ?_
  intro X hX hXl hR
  obtain ⟨hnp, hns, hne, hpar, hhome, hact⟩ := id hB
  show g_Go E X _ h true 0 0 0 [some (.ref (A 30 0)), some (.int s), some (.int p)] []
  refine g_aload_n hX dM_now_0 rfl rfl (by first | rfl | exact g_rfr _) 1 rfl ?_
  refine g_aload_n hX dM_now_1 rfl rfl (by first | rfl | exact g_rfr _) 2 rfl ?_
  refine g_iload_n hX dM_now_2 rfl rfl 3 rfl ?_
  refine g_cV1r (wt := 1) hX (c_M_noShape hX.tr hW.r hB _) dM_now_3 (w_m hW.r) kM_98 (g_rm.of hR (by decide) (by decide)) (by first | exact Nat.zero_le _ | (rw [hR]; decide)) (by first | exact Nat.zero_le _ | (rw [hR]; decide)) (by first | decide | (simp [Value.category])) 6 rfl ?_
  refine g_if_eq hX dM_now_6 13 9 (by decide) rfl (fun c6 => ?_) (fun c6 => ?_)
  · exact absurd (c6.symm.trans hs) (by decide)
  · refine g_iconst hX dM_now_9 (v := 1) (by decide) 10 rfl ?_
    refine g_goto hX dM_now_10 25 (by decide) ?_
    refine g_put0 hX dM_now_25 fM_75 (w_m hW.r) (w_baseM hW 30 (by decide) (by decide)) rfl rfl (Nat.le_of_ble_eq_true rfl) 28 rfl ?_
    refine g_stepM hW 30 (q_up2 S 13 1 _) (by decide) (by decide) w_hc13 rfl (fun h hW => ?_)
    refine g_aload_n hX dM_now_28 rfl rfl (by first | rfl | exact g_rfr _) 29 rfl ?_
    refine g_get hX dM_now_29 fM_75 (w_m hW.r) rfl 32 rfl ?_
    refine g_if_le hX dM_now_32 39 35 (by decide) rfl (fun c32 => ?_) (fun c32 => ?_)
    · exact absurd c32 (show ¬ (1 : Int32) ≤ 0 by decide)
    · refine g_iconst hX dM_now_35 (v := 0) (by decide) 36 rfl ?_
      refine g_goto hX dM_now_36 45 (by decide) ?_
      exact g_iret hX rfl rfl dM_now_45 ⟨rfl, hW⟩ rfl (Nat.zero_le _) (Nat.zero_le _)
set_option maxRecDepth 100000 in
set_option maxHeartbeats 4000000 in
theorem c_M_now_2 {l : Launch} (hl : l.stackTraces = false) {E : g_E} {A : w_A} {Sc S : q_S} {h : g_H} (hW : w_W E A Sc S h) (hB : w_B S) {j : Nat} (hj : j < q_ns S) {p : Int32} (hp : r_noProperty p = 1) : g_Ct l mM_now 5 80 0 0 [.ref (A 30 0), .int (nI j), .int p] E h (false, fun r h' => r = .inr (some (.int 0)) ∧ w_W E A Sc (q_up2 S 13 1 2) h') := by
  refine g_Ct.of hl (by decide) rfl (Nat.le_of_ble_eq_true rfl) ?_
  intro X hX hXl hR
  obtain ⟨hnp, hns, hne, hpar, hhome, hact⟩ := id hB
  show g_Go E X _ h true 0 0 0 [some (.ref (A 30 0)), some (.int (nI j)), some (.int p)] []
  refine g_aload_n hX dM_now_0 rfl rfl (by first | rfl | exact g_rfr _) 1 rfl ?_
  refine g_aload_n hX dM_now_1 rfl rfl (by first | rfl | exact g_rfr _) 2 rfl ?_
  refine g_iload_n hX dM_now_2 rfl rfl 3 rfl ?_
  refine g_cV1r (wt := 1) hX (c_M_noShape hX.tr hW.r hB _) dM_now_3 (w_m hW.r) kM_98 (g_rm.of hR (by decide) (by decide)) (by first | exact Nat.zero_le _ | (rw [hR]; decide)) (by first | exact Nat.zero_le _ | (rw [hR]; decide)) (by first | decide | (simp [Value.category])) 6 rfl ?_
  refine g_if_eq hX dM_now_6 13 9 (by decide) rfl (fun c6 => ?_) (fun c6 => ?_)
  · refine g_iload_n hX dM_now_13 rfl rfl 14 rfl ?_
    refine g_cS1r (wt := 1) hX (c_M_noProperty hX.tr E h _) dM_now_14 kM_101 (g_rm.of hR (by decide) (by decide)) (by first | exact Nat.zero_le _ | (rw [hR]; decide)) (by first | exact Nat.zero_le _ | (rw [hR]; decide)) (by first | decide | (simp [Value.category])) 17 rfl ?_
    refine g_if_eq hX dM_now_17 24 20 (by decide) rfl (fun c17 => ?_) (fun c17 => ?_)
    · exact absurd (c17.symm.trans hp) (by decide)
    · refine g_iconst hX dM_now_20 (v := 2) (by decide) 21 rfl ?_
      refine g_goto hX dM_now_21 25 (by decide) ?_
      refine g_put0 hX dM_now_25 fM_75 (w_m hW.r) (w_baseM hW 30 (by decide) (by decide)) rfl rfl (Nat.le_of_ble_eq_true rfl) 28 rfl ?_
      refine g_stepM hW 30 (q_up2 S 13 1 _) (by decide) (by decide) w_hc13 rfl (fun h hW => ?_)
      refine g_aload_n hX dM_now_28 rfl rfl (by first | rfl | exact g_rfr _) 29 rfl ?_
      refine g_get hX dM_now_29 fM_75 (w_m hW.r) rfl 32 rfl ?_
      refine g_if_le hX dM_now_32 39 35 (by decide) rfl (fun c32 => ?_) (fun c32 => ?_)
      · exact absurd c32 (show ¬ (2 : Int32) ≤ 0 by decide)
      · refine g_iconst hX dM_now_35 (v := 0) (by decide) 36 rfl ?_
        refine g_goto hX dM_now_36 45 (by decide) ?_
        exact g_iret hX rfl rfl dM_now_45 ⟨rfl, hW⟩ rfl (Nat.zero_le _) (Nat.zero_le _)
  · exact absurd (r_noShape_ok hB hj) c6
set_option maxRecDepth 100000 in
set_option maxHeartbeats 4000000 in
theorem c_M_now_0 {l : Launch} (hl : l.stackTraces = false) {E : g_E} {A : w_A} {Sc S : q_S} {h : g_H} (hW : w_W E A Sc S h) (hB : w_B S) {j pr : Nat} (hj : j < q_ns S) (hpr : pr < 7)  : g_Ct l mM_now 5 80 0 0 [.ref (A 30 0), .int (nI j), .int (nI pr)] E h (false, fun r h' => r = .inr (some (.int (q_now S j pr))) ∧ w_W E A Sc (q_up2 S 13 1 0) h') := by
  refine g_Ct.of hl (by decide) rfl (Nat.le_of_ble_eq_true rfl) ?_
  intro X hX hXl hR
  obtain ⟨hnp, hns, hne, hpar, hhome, hact⟩ := id hB
  show g_Go E X _ h true 0 0 0 [some (.ref (A 30 0)), some (.int (nI j)), some (.int (nI pr))] []
  refine g_aload_n hX dM_now_0 rfl rfl (by first | rfl | exact g_rfr _) 1 rfl ?_
  refine g_aload_n hX dM_now_1 rfl rfl (by first | rfl | exact g_rfr _) 2 rfl ?_
  refine g_iload_n hX dM_now_2 rfl rfl 3 rfl ?_
  refine g_cV1r (wt := 1) hX (c_M_noShape hX.tr hW.r hB _) dM_now_3 (w_m hW.r) kM_98 (g_rm.of hR (by decide) (by decide)) (by first | exact Nat.zero_le _ | (rw [hR]; decide)) (by first | exact Nat.zero_le _ | (rw [hR]; decide)) (by first | decide | (simp [Value.category])) 6 rfl ?_
  refine g_if_eq hX dM_now_6 13 9 (by decide) rfl (fun c6 => ?_) (fun c6 => ?_)
  · refine g_iload_n hX dM_now_13 rfl rfl 14 rfl ?_
    refine g_cS1r (wt := 1) hX (c_M_noProperty hX.tr E h _) dM_now_14 kM_101 (g_rm.of hR (by decide) (by decide)) (by first | exact Nat.zero_le _ | (rw [hR]; decide)) (by first | exact Nat.zero_le _ | (rw [hR]; decide)) (by first | decide | (simp [Value.category])) 17 rfl ?_
    refine g_if_eq hX dM_now_17 24 20 (by decide) rfl (fun c17 => ?_) (fun c17 => ?_)
    · refine g_iconst hX dM_now_24 (v := 0) (by decide) 25 rfl ?_
      refine g_put0 hX dM_now_25 fM_75 (w_m hW.r) (w_baseM hW 30 (by decide) (by decide)) rfl rfl (Nat.le_of_ble_eq_true rfl) 28 rfl ?_
      refine g_stepM hW 30 (q_up2 S 13 1 _) (by decide) (by decide) w_hc13 rfl (fun h hW => ?_)
      refine g_aload_n hX dM_now_28 rfl rfl (by first | rfl | exact g_rfr _) 29 rfl ?_
      refine g_get hX dM_now_29 fM_75 (w_m hW.r) rfl 32 rfl ?_
      refine g_if_le hX dM_now_32 39 35 (by decide) rfl (fun c32 => ?_) (fun c32 => ?_)
      · refine g_aload_n hX dM_now_39 rfl rfl (by first | rfl | exact g_rfr _) 40 rfl ?_
        refine g_iload_n hX dM_now_40 rfl rfl 41 rfl ?_
        refine g_iload_n hX dM_now_41 rfl rfl 42 rfl ?_
        refine g_cV2r (wt := 0) hX (c_M_valueNow hX.tr hW.r hB hj hpr) dM_now_42 (w_m hW.r) kM_167 (g_rm.of hR (by decide) (by decide)) (by first | exact Nat.zero_le _ | (rw [hR]; decide)) (by first | exact Nat.zero_le _ | (rw [hR]; decide)) (by first | decide | (simp [Value.category])) 45 rfl ?_
        exact g_iret hX rfl rfl dM_now_45 ⟨by rw [v_now], hW⟩ rfl (Nat.zero_le _) (Nat.zero_le _)
      · exact absurd (show (0 : Int32) ≤ 0 by decide) c32
    · exact absurd (r_noProperty_ok hpr) c17
  · exact absurd (r_noShape_ok hB hj) c6
