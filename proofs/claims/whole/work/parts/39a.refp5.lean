set_option maxRecDepth 100000 in
set_option maxHeartbeats 4000000 in
theorem c_M_page_1 {l : Launch} (hl : l.stackTraces = false) {E : g_E} {A : w_A} {Sc S : q_S} {h : g_H} (hW : w_W E A Sc S h) (hB : w_B S) {k : Int32} (f : Int32) (hk : k < 0 ∨ ¬ k ≤ 2) : g_Ct l mM_page 1 13 0 0 [.ref (A 30 0), .int k, .int f] E h (false, fun r h' => r = .inr (some (.int 0)) ∧ w_W E A Sc (q_up2 S 13 1 1) h') := by
  refine g_Ct.of hl (by decide) rfl (Nat.le_of_ble_eq_true rfl) ?_
  intro X hX hXl hR
  obtain ⟨hnp, hns, hne, hpar, hhome, hact⟩ := id hB
  show g_Go E X _ h true 0 0 0 [some (.ref (A 30 0)), some (.int k), some (.int f), none] []
  refine g_iload_n hX dM_page_0 rfl rfl 1 rfl ?_
  refine g_if_ne hX dM_page_1 17 4 (by decide) rfl (fun c1 => ?_) (fun c1 => ?_)
  · refine g_aload_n hX dM_page_17 rfl rfl (by first | rfl | exact g_rfr _) 18 rfl ?_
    refine g_iload_n hX dM_page_18 rfl rfl 19 rfl ?_
    refine g_cV1r (wt := 0) hX (c_M_noPage hX.tr hW.r hB _) dM_page_19 (w_m hW.r) kM_85 (g_rm.of hR (by decide) (by decide)) (by first | exact Nat.zero_le _ | (rw [hR]; decide)) (by first | exact Nat.zero_le _ | (rw [hR]; decide)) (by first | decide | (simp [Value.category])) 22 rfl ?_
    refine g_if_ne hX dM_page_22 41 25 (by decide) rfl (fun c22 => ?_) (fun c22 => ?_)
    · refine g_iconst hX dM_page_41 (v := 0) (by decide) 42 rfl ?_
      refine g_istore_n hX (L' := [_, _, _, _]) dM_page_42 rfl (by decide) rfl 43 rfl ?_
      refine g_aload_n hX dM_page_43 rfl rfl (by first | rfl | exact g_rfr _) 44 rfl ?_
      refine g_iload_n hX dM_page_44 rfl rfl 45 rfl ?_
      refine g_if_lt hX dM_page_45 53 48 (by decide) rfl (fun c45 => ?_) (fun c45 => ?_)
      · refine g_iconst hX dM_page_53 (v := 1) (by decide) 54 rfl ?_
        refine g_goto hX dM_page_54 79 (by decide) ?_
        refine g_put0 hX dM_page_79 fM_75 (w_m hW.r) (w_baseM hW 30 (by decide) (by decide)) rfl rfl (Nat.le_of_ble_eq_true rfl) 82 rfl ?_
        refine g_stepM hW 30 (q_up2 S 13 1 _) (by decide) (by decide) w_hc13 rfl (fun h hW => ?_)
        refine g_aload_n hX dM_page_82 rfl rfl (by first | rfl | exact g_rfr _) 83 rfl ?_
        refine g_get hX dM_page_83 fM_75 (w_m hW.r) rfl 86 rfl ?_
        refine g_if_le hX dM_page_86 91 89 (by decide) rfl (fun c86 => ?_) (fun c86 => ?_)
        · exact absurd c86 (show ¬ (1 : Int32) ≤ 0 by decide)
        · refine g_iconst hX dM_page_89 (v := 0) (by decide) 90 rfl ?_
          exact g_iret hX rfl rfl dM_page_90 ⟨rfl, hW⟩ rfl (Nat.zero_le _) (Nat.zero_le _)
      · refine g_iload_n hX dM_page_48 rfl rfl 49 rfl ?_
        refine g_iconst hX dM_page_49 (v := 2) (by decide) 50 rfl ?_
        refine g_icmp_le hX dM_page_50 57 53 (by decide) rfl (fun c50 => ?_) (fun c50 => ?_)
        · exact absurd hk (fun q => q.elim c45 (fun q => q c50))
        · refine g_iconst hX dM_page_53 (v := 1) (by decide) 54 rfl ?_
          refine g_goto hX dM_page_54 79 (by decide) ?_
          refine g_put0 hX dM_page_79 fM_75 (w_m hW.r) (w_baseM hW 30 (by decide) (by decide)) rfl rfl (Nat.le_of_ble_eq_true rfl) 82 rfl ?_
          refine g_stepM hW 30 (q_up2 S 13 1 _) (by decide) (by decide) w_hc13 rfl (fun h hW => ?_)
          refine g_aload_n hX dM_page_82 rfl rfl (by first | rfl | exact g_rfr _) 83 rfl ?_
          refine g_get hX dM_page_83 fM_75 (w_m hW.r) rfl 86 rfl ?_
          refine g_if_le hX dM_page_86 91 89 (by decide) rfl (fun c86 => ?_) (fun c86 => ?_)
          · exact absurd c86 (show ¬ (1 : Int32) ≤ 0 by decide)
          · refine g_iconst hX dM_page_89 (v := 0) (by decide) 90 rfl ?_
            exact g_iret hX rfl rfl dM_page_90 ⟨rfl, hW⟩ rfl (Nat.zero_le _) (Nat.zero_le _)
    · obtain ⟨p, hp, rfl⟩ := r_noPage_0 hB c22
      refine g_aload_n hX dM_page_25 rfl rfl rfl 26 rfl ?_
      refine g_get hX dM_page_26 fM_7 (w_m hW.r) rfl 29 rfl ?_
      refine g_iload_n hX dM_page_29 rfl rfl 30 rfl ?_
      refine g_iald hX dM_page_30 (w_ar hW.r _ (by decide)) (g_ix.nat (show p < 12 by omega) (by decide)) 31 rfl ?_
      refine g_iload_n hX dM_page_31 rfl rfl 32 rfl ?_
      refine g_iconst hX dM_page_32 (v := 1) (by decide) 33 rfl ?_
      refine g_isub hX dM_page_33 34 rfl ?_
      refine g_icmp_ne hX dM_page_34 41 37 (by decide) rfl (fun c34 => ?_) (fun c34 => ?_)
      · refine g_iconst hX dM_page_41 (v := 0) (by decide) 42 rfl ?_
        refine g_istore_n hX (L' := [_, _, _, _]) dM_page_42 rfl (by decide) rfl 43 rfl ?_
        refine g_aload_n hX dM_page_43 rfl rfl (by first | rfl | exact g_rfr _) 44 rfl ?_
        refine g_iload_n hX dM_page_44 rfl rfl 45 rfl ?_
        refine g_if_lt hX dM_page_45 53 48 (by decide) rfl (fun c45 => ?_) (fun c45 => ?_)
        · refine g_iconst hX dM_page_53 (v := 1) (by decide) 54 rfl ?_
          refine g_goto hX dM_page_54 79 (by decide) ?_
          refine g_put0 hX dM_page_79 fM_75 (w_m hW.r) (w_baseM hW 30 (by decide) (by decide)) rfl rfl (Nat.le_of_ble_eq_true rfl) 82 rfl ?_
          refine g_stepM hW 30 (q_up2 S 13 1 _) (by decide) (by decide) w_hc13 rfl (fun h hW => ?_)
          refine g_aload_n hX dM_page_82 rfl rfl (by first | rfl | exact g_rfr _) 83 rfl ?_
          refine g_get hX dM_page_83 fM_75 (w_m hW.r) rfl 86 rfl ?_
          refine g_if_le hX dM_page_86 91 89 (by decide) rfl (fun c86 => ?_) (fun c86 => ?_)
          · exact absurd c86 (show ¬ (1 : Int32) ≤ 0 by decide)
          · refine g_iconst hX dM_page_89 (v := 0) (by decide) 90 rfl ?_
            exact g_iret hX rfl rfl dM_page_90 ⟨rfl, hW⟩ rfl (Nat.zero_le _) (Nat.zero_le _)
        · refine g_iload_n hX dM_page_48 rfl rfl 49 rfl ?_
          refine g_iconst hX dM_page_49 (v := 2) (by decide) 50 rfl ?_
          refine g_icmp_le hX dM_page_50 57 53 (by decide) rfl (fun c50 => ?_) (fun c50 => ?_)
          · exact absurd hk (fun q => q.elim c45 (fun q => q c50))
          · refine g_iconst hX dM_page_53 (v := 1) (by decide) 54 rfl ?_
            refine g_goto hX dM_page_54 79 (by decide) ?_
            refine g_put0 hX dM_page_79 fM_75 (w_m hW.r) (w_baseM hW 30 (by decide) (by decide)) rfl rfl (Nat.le_of_ble_eq_true rfl) 82 rfl ?_
            refine g_stepM hW 30 (q_up2 S 13 1 _) (by decide) (by decide) w_hc13 rfl (fun h hW => ?_)
            refine g_aload_n hX dM_page_82 rfl rfl (by first | rfl | exact g_rfr _) 83 rfl ?_
            refine g_get hX dM_page_83 fM_75 (w_m hW.r) rfl 86 rfl ?_
            refine g_if_le hX dM_page_86 91 89 (by decide) rfl (fun c86 => ?_) (fun c86 => ?_)
            · exact absurd c86 (show ¬ (1 : Int32) ≤ 0 by decide)
            · refine g_iconst hX dM_page_89 (v := 0) (by decide) 90 rfl ?_
              exact g_iret hX rfl rfl dM_page_90 ⟨rfl, hW⟩ rfl (Nat.zero_le _) (Nat.zero_le _)
      · refine g_iconst hX dM_page_37 (v := 1) (by decide) 38 rfl ?_
        refine g_goto hX dM_page_38 42 (by decide) ?_
        refine g_istore_n hX (L' := [_, _, _, _]) dM_page_42 rfl (by decide) rfl 43 rfl ?_
        refine g_aload_n hX dM_page_43 rfl rfl (by first | rfl | exact g_rfr _) 44 rfl ?_
        refine g_iload_n hX dM_page_44 rfl rfl 45 rfl ?_
        refine g_if_lt hX dM_page_45 53 48 (by decide) rfl (fun c45 => ?_) (fun c45 => ?_)
        · refine g_iconst hX dM_page_53 (v := 1) (by decide) 54 rfl ?_
          refine g_goto hX dM_page_54 79 (by decide) ?_
          refine g_put0 hX dM_page_79 fM_75 (w_m hW.r) (w_baseM hW 30 (by decide) (by decide)) rfl rfl (Nat.le_of_ble_eq_true rfl) 82 rfl ?_
          refine g_stepM hW 30 (q_up2 S 13 1 _) (by decide) (by decide) w_hc13 rfl (fun h hW => ?_)
          refine g_aload_n hX dM_page_82 rfl rfl (by first | rfl | exact g_rfr _) 83 rfl ?_
          refine g_get hX dM_page_83 fM_75 (w_m hW.r) rfl 86 rfl ?_
          refine g_if_le hX dM_page_86 91 89 (by decide) rfl (fun c86 => ?_) (fun c86 => ?_)
          · exact absurd c86 (show ¬ (1 : Int32) ≤ 0 by decide)
          · refine g_iconst hX dM_page_89 (v := 0) (by decide) 90 rfl ?_
            exact g_iret hX rfl rfl dM_page_90 ⟨rfl, hW⟩ rfl (Nat.zero_le _) (Nat.zero_le _)
        · refine g_iload_n hX dM_page_48 rfl rfl 49 rfl ?_
          refine g_iconst hX dM_page_49 (v := 2) (by decide) 50 rfl ?_
          refine g_icmp_le hX dM_page_50 57 53 (by decide) rfl (fun c50 => ?_) (fun c50 => ?_)
          · exact absurd hk (fun q => q.elim c45 (fun q => q c50))
          · refine g_iconst hX dM_page_53 (v := 1) (by decide) 54 rfl ?_
            refine g_goto hX dM_page_54 79 (by decide) ?_
            refine g_put0 hX dM_page_79 fM_75 (w_m hW.r) (w_baseM hW 30 (by decide) (by decide)) rfl rfl (Nat.le_of_ble_eq_true rfl) 82 rfl ?_
            refine g_stepM hW 30 (q_up2 S 13 1 _) (by decide) (by decide) w_hc13 rfl (fun h hW => ?_)
            refine g_aload_n hX dM_page_82 rfl rfl (by first | rfl | exact g_rfr _) 83 rfl ?_
            refine g_get hX dM_page_83 fM_75 (w_m hW.r) rfl 86 rfl ?_
            refine g_if_le hX dM_page_86 91 89 (by decide) rfl (fun c86 => ?_) (fun c86 => ?_)
            · exact absurd c86 (show ¬ (1 : Int32) ≤ 0 by decide)
            · refine g_iconst hX dM_page_89 (v := 0) (by decide) 90 rfl ?_
              exact g_iret hX rfl rfl dM_page_90 ⟨rfl, hW⟩ rfl (Nat.zero_le _) (Nat.zero_le _)
  · exact absurd hk (by rw [c1]; decide)
set_option maxRecDepth 100000 in
set_option maxHeartbeats 4000000 in
theorem c_M_page_2a {l : Launch} (hl : l.stackTraces = false) {E : g_E} {A : w_A} {Sc S : q_S} {h : g_H} (hW : w_W E A Sc S h) (hB : w_B S) {f : Int32} (hf : ¬ f = -1) : g_Ct l mM_page 1 13 0 0 [.ref (A 30 0), .int 0, .int f] E h (false, fun r h' => r = .inr (some (.int 0)) ∧ w_W E A Sc (q_up2 S 13 1 2) h') := by
  refine g_Ct.of hl (by decide) rfl (Nat.le_of_ble_eq_true rfl) ?_
  intro X hX hXl hR
  obtain ⟨hnp, hns, hne, hpar, hhome, hact⟩ := id hB
  show g_Go E X _ h true 0 0 0 [some (.ref (A 30 0)), some (.int 0), some (.int f), none] []
  refine g_iload_n hX dM_page_0 rfl rfl 1 rfl ?_
  refine g_if_ne hX dM_page_1 17 4 (by decide) rfl (fun c1 => ?_) (fun c1 => ?_)
  · exact absurd rfl c1
  · refine g_iload_n hX dM_page_4 rfl rfl 5 rfl ?_
    refine g_iconst hX dM_page_5 (v := (-1)) (by decide) 6 rfl ?_
    refine g_icmp_ne hX dM_page_6 13 9 (by decide) rfl (fun c6 => ?_) (fun c6 => ?_)
    · refine g_iconst hX dM_page_13 (v := 0) (by decide) 14 rfl ?_
      refine g_goto hX dM_page_14 42 (by decide) ?_
      refine g_istore_n hX (L' := [_, _, _, _]) dM_page_42 rfl (by decide) rfl 43 rfl ?_
      refine g_aload_n hX dM_page_43 rfl rfl (by first | rfl | exact g_rfr _) 44 rfl ?_
      refine g_iload_n hX dM_page_44 rfl rfl 45 rfl ?_
      refine g_if_lt hX dM_page_45 53 48 (by decide) rfl (fun c45 => ?_) (fun c45 => ?_)
      · exact absurd c45 (by decide)
      · refine g_iload_n hX dM_page_48 rfl rfl 49 rfl ?_
        refine g_iconst hX dM_page_49 (v := 2) (by decide) 50 rfl ?_
        refine g_icmp_le hX dM_page_50 57 53 (by decide) rfl (fun c50 => ?_) (fun c50 => ?_)
        · refine g_iload_n hX dM_page_57 rfl rfl 58 rfl ?_
          refine g_if_ne hX dM_page_58 65 61 (by decide) rfl (fun c58 => ?_) (fun c58 => ?_)
          · exact absurd rfl c58
          · refine g_iconst hX dM_page_61 (v := 2) (by decide) 62 rfl ?_
            refine g_goto hX dM_page_62 79 (by decide) ?_
            refine g_put0 hX dM_page_79 fM_75 (w_m hW.r) (w_baseM hW 30 (by decide) (by decide)) rfl rfl (Nat.le_of_ble_eq_true rfl) 82 rfl ?_
            refine g_stepM hW 30 (q_up2 S 13 1 _) (by decide) (by decide) w_hc13 rfl (fun h hW => ?_)
            refine g_aload_n hX dM_page_82 rfl rfl (by first | rfl | exact g_rfr _) 83 rfl ?_
            refine g_get hX dM_page_83 fM_75 (w_m hW.r) rfl 86 rfl ?_
            refine g_if_le hX dM_page_86 91 89 (by decide) rfl (fun c86 => ?_) (fun c86 => ?_)
            · exact absurd c86 (show ¬ (2 : Int32) ≤ 0 by decide)
            · refine g_iconst hX dM_page_89 (v := 0) (by decide) 90 rfl ?_
              exact g_iret hX rfl rfl dM_page_90 ⟨rfl, hW⟩ rfl (Nat.zero_le _) (Nat.zero_le _)
        · exact absurd (by decide) c50
    · exact absurd c6 hf
set_option maxRecDepth 100000 in
set_option maxHeartbeats 4000000 in
theorem c_M_page_2b {l : Launch} (hl : l.stackTraces = false) {E : g_E} {A : w_A} {Sc S : q_S} {h : g_H} (hW : w_W E A Sc S h) (hB : w_B S) {k f : Int32} (hk0 : ¬ k < 0) (hk2 : k ≤ 2) (hk : ¬ k = 0) (hf : ∀ p, p < q_np S → f = nI p → ¬ S.2 0 p = k - 1) : g_Ct l mM_page 1 13 0 0 [.ref (A 30 0), .int k, .int f] E h (false, fun r h' => r = .inr (some (.int 0)) ∧ w_W E A Sc (q_up2 S 13 1 2) h') := by
  refine g_Ct.of hl (by decide) rfl (Nat.le_of_ble_eq_true rfl) ?_
  intro X hX hXl hR
  obtain ⟨hnp, hns, hne, hpar, hhome, hact⟩ := id hB
  show g_Go E X _ h true 0 0 0 [some (.ref (A 30 0)), some (.int k), some (.int f), none] []
  refine g_iload_n hX dM_page_0 rfl rfl 1 rfl ?_
  refine g_if_ne hX dM_page_1 17 4 (by decide) rfl (fun c1 => ?_) (fun c1 => ?_)
  · refine g_aload_n hX dM_page_17 rfl rfl (by first | rfl | exact g_rfr _) 18 rfl ?_
    refine g_iload_n hX dM_page_18 rfl rfl 19 rfl ?_
    refine g_cV1r (wt := 0) hX (c_M_noPage hX.tr hW.r hB _) dM_page_19 (w_m hW.r) kM_85 (g_rm.of hR (by decide) (by decide)) (by first | exact Nat.zero_le _ | (rw [hR]; decide)) (by first | exact Nat.zero_le _ | (rw [hR]; decide)) (by first | decide | (simp [Value.category])) 22 rfl ?_
    refine g_if_ne hX dM_page_22 41 25 (by decide) rfl (fun c22 => ?_) (fun c22 => ?_)
    · refine g_iconst hX dM_page_41 (v := 0) (by decide) 42 rfl ?_
      refine g_istore_n hX (L' := [_, _, _, _]) dM_page_42 rfl (by decide) rfl 43 rfl ?_
      refine g_aload_n hX dM_page_43 rfl rfl (by first | rfl | exact g_rfr _) 44 rfl ?_
      refine g_iload_n hX dM_page_44 rfl rfl 45 rfl ?_
      refine g_if_lt hX dM_page_45 53 48 (by decide) rfl (fun c45 => ?_) (fun c45 => ?_)
      · contradiction
      · refine g_iload_n hX dM_page_48 rfl rfl 49 rfl ?_
        refine g_iconst hX dM_page_49 (v := 2) (by decide) 50 rfl ?_
        refine g_icmp_le hX dM_page_50 57 53 (by decide) rfl (fun c50 => ?_) (fun c50 => ?_)
        · refine g_iload_n hX dM_page_57 rfl rfl 58 rfl ?_
          refine g_if_ne hX dM_page_58 65 61 (by decide) rfl (fun c58 => ?_) (fun c58 => ?_)
          · exact absurd rfl c58
          · refine g_iconst hX dM_page_61 (v := 2) (by decide) 62 rfl ?_
            refine g_goto hX dM_page_62 79 (by decide) ?_
            refine g_put0 hX dM_page_79 fM_75 (w_m hW.r) (w_baseM hW 30 (by decide) (by decide)) rfl rfl (Nat.le_of_ble_eq_true rfl) 82 rfl ?_
            refine g_stepM hW 30 (q_up2 S 13 1 _) (by decide) (by decide) w_hc13 rfl (fun h hW => ?_)
            refine g_aload_n hX dM_page_82 rfl rfl (by first | rfl | exact g_rfr _) 83 rfl ?_
            refine g_get hX dM_page_83 fM_75 (w_m hW.r) rfl 86 rfl ?_
            refine g_if_le hX dM_page_86 91 89 (by decide) rfl (fun c86 => ?_) (fun c86 => ?_)
            · exact absurd c86 (show ¬ (2 : Int32) ≤ 0 by decide)
            · refine g_iconst hX dM_page_89 (v := 0) (by decide) 90 rfl ?_
              exact g_iret hX rfl rfl dM_page_90 ⟨rfl, hW⟩ rfl (Nat.zero_le _) (Nat.zero_le _)
        · contradiction
    · obtain ⟨p, hp, rfl⟩ := r_noPage_0 hB c22
      refine g_aload_n hX dM_page_25 rfl rfl rfl 26 rfl ?_
      refine g_get hX dM_page_26 fM_7 (w_m hW.r) rfl 29 rfl ?_
      refine g_iload_n hX dM_page_29 rfl rfl 30 rfl ?_
      refine g_iald hX dM_page_30 (w_ar hW.r _ (by decide)) (g_ix.nat (show p < 12 by omega) (by decide)) 31 rfl ?_
      refine g_iload_n hX dM_page_31 rfl rfl 32 rfl ?_
      refine g_iconst hX dM_page_32 (v := 1) (by decide) 33 rfl ?_
      refine g_isub hX dM_page_33 34 rfl ?_
      refine g_icmp_ne hX dM_page_34 41 37 (by decide) rfl (fun c34 => ?_) (fun c34 => ?_)
      · refine g_iconst hX dM_page_41 (v := 0) (by decide) 42 rfl ?_
        refine g_istore_n hX (L' := [_, _, _, _]) dM_page_42 rfl (by decide) rfl 43 rfl ?_
        refine g_aload_n hX dM_page_43 rfl rfl (by first | rfl | exact g_rfr _) 44 rfl ?_
        refine g_iload_n hX dM_page_44 rfl rfl 45 rfl ?_
        refine g_if_lt hX dM_page_45 53 48 (by decide) rfl (fun c45 => ?_) (fun c45 => ?_)
        · contradiction
        · refine g_iload_n hX dM_page_48 rfl rfl 49 rfl ?_
          refine g_iconst hX dM_page_49 (v := 2) (by decide) 50 rfl ?_
          refine g_icmp_le hX dM_page_50 57 53 (by decide) rfl (fun c50 => ?_) (fun c50 => ?_)
          · refine g_iload_n hX dM_page_57 rfl rfl 58 rfl ?_
            refine g_if_ne hX dM_page_58 65 61 (by decide) rfl (fun c58 => ?_) (fun c58 => ?_)
            · exact absurd rfl c58
            · refine g_iconst hX dM_page_61 (v := 2) (by decide) 62 rfl ?_
              refine g_goto hX dM_page_62 79 (by decide) ?_
              refine g_put0 hX dM_page_79 fM_75 (w_m hW.r) (w_baseM hW 30 (by decide) (by decide)) rfl rfl (Nat.le_of_ble_eq_true rfl) 82 rfl ?_
              refine g_stepM hW 30 (q_up2 S 13 1 _) (by decide) (by decide) w_hc13 rfl (fun h hW => ?_)
              refine g_aload_n hX dM_page_82 rfl rfl (by first | rfl | exact g_rfr _) 83 rfl ?_
              refine g_get hX dM_page_83 fM_75 (w_m hW.r) rfl 86 rfl ?_
              refine g_if_le hX dM_page_86 91 89 (by decide) rfl (fun c86 => ?_) (fun c86 => ?_)
              · exact absurd c86 (show ¬ (2 : Int32) ≤ 0 by decide)
              · refine g_iconst hX dM_page_89 (v := 0) (by decide) 90 rfl ?_
                exact g_iret hX rfl rfl dM_page_90 ⟨rfl, hW⟩ rfl (Nat.zero_le _) (Nat.zero_le _)
          · contradiction
      · exact absurd c34 (hf p hp rfl)
  · contradiction
set_option maxRecDepth 100000 in
set_option maxHeartbeats 4000000 in
theorem c_M_page_3a {l : Launch} (hl : l.stackTraces = false) {E : g_E} {A : w_A} {Sc S : q_S} {h : g_H} (hW : w_W E A Sc S h) (hB : w_B S)  (hn : q_np S = 12) : g_Ct l mM_page 1 13 0 0 [.ref (A 30 0), .int 0, .int (-1)] E h (false, fun r h' => r = .inr (some (.int 0)) ∧ w_W E A Sc (q_up2 S 13 1 3) h') := by
  refine g_Ct.of hl (by decide) rfl (Nat.le_of_ble_eq_true rfl) ?_
  intro X hX hXl hR
  obtain ⟨hnp, hns, hne, hpar, hhome, hact⟩ := id hB
  show g_Go E X _ h true 0 0 0 [some (.ref (A 30 0)), some (.int 0), some (.int (-1)), none] []
  refine g_iload_n hX dM_page_0 rfl rfl 1 rfl ?_
  refine g_if_ne hX dM_page_1 17 4 (by decide) rfl (fun c1 => ?_) (fun c1 => ?_)
  · exact absurd rfl c1
  · refine g_iload_n hX dM_page_4 rfl rfl 5 rfl ?_
    refine g_iconst hX dM_page_5 (v := (-1)) (by decide) 6 rfl ?_
    refine g_icmp_ne hX dM_page_6 13 9 (by decide) rfl (fun c6 => ?_) (fun c6 => ?_)
    · exact absurd rfl c6
    · refine g_iconst hX dM_page_9 (v := 1) (by decide) 10 rfl ?_
      refine g_goto hX dM_page_10 42 (by decide) ?_
      refine g_istore_n hX (L' := [_, _, _, _]) dM_page_42 rfl (by decide) rfl 43 rfl ?_
      refine g_aload_n hX dM_page_43 rfl rfl (by first | rfl | exact g_rfr _) 44 rfl ?_
      refine g_iload_n hX dM_page_44 rfl rfl 45 rfl ?_
      refine g_if_lt hX dM_page_45 53 48 (by decide) rfl (fun c45 => ?_) (fun c45 => ?_)
      · exact absurd c45 (by decide)
      · refine g_iload_n hX dM_page_48 rfl rfl 49 rfl ?_
        refine g_iconst hX dM_page_49 (v := 2) (by decide) 50 rfl ?_
        refine g_icmp_le hX dM_page_50 57 53 (by decide) rfl (fun c50 => ?_) (fun c50 => ?_)
        · refine g_iload_n hX dM_page_57 rfl rfl 58 rfl ?_
          refine g_if_ne hX dM_page_58 65 61 (by decide) rfl (fun c58 => ?_) (fun c58 => ?_)
          · refine g_aload_n hX dM_page_65 rfl rfl (by first | rfl | exact g_rfr _) 66 rfl ?_
            refine g_get hX dM_page_66 fM_79 (w_m hW.r) rfl 69 rfl ?_
            refine g_bipush hX dM_page_69 (v := 12) (by decide) 71 rfl ?_
            refine g_icmp_ne hX dM_page_71 78 74 (by decide) rfl (fun c71 => ?_) (fun c71 => ?_)
            · exact absurd (congrArg nI hn) c71
            · refine g_iconst hX dM_page_74 (v := 3) (by decide) 75 rfl ?_
              refine g_goto hX dM_page_75 79 (by decide) ?_
              refine g_put0 hX dM_page_79 fM_75 (w_m hW.r) (w_baseM hW 30 (by decide) (by decide)) rfl rfl (Nat.le_of_ble_eq_true rfl) 82 rfl ?_
              refine g_stepM hW 30 (q_up2 S 13 1 _) (by decide) (by decide) w_hc13 rfl (fun h hW => ?_)
              refine g_aload_n hX dM_page_82 rfl rfl (by first | rfl | exact g_rfr _) 83 rfl ?_
              refine g_get hX dM_page_83 fM_75 (w_m hW.r) rfl 86 rfl ?_
              refine g_if_le hX dM_page_86 91 89 (by decide) rfl (fun c86 => ?_) (fun c86 => ?_)
              · exact absurd c86 (show ¬ (3 : Int32) ≤ 0 by decide)
              · refine g_iconst hX dM_page_89 (v := 0) (by decide) 90 rfl ?_
                exact g_iret hX rfl rfl dM_page_90 ⟨rfl, hW⟩ rfl (Nat.zero_le _) (Nat.zero_le _)
          · exact absurd c58 (by decide)
        · exact absurd (by decide) c50
set_option maxRecDepth 100000 in
set_option maxHeartbeats 4000000 in
theorem c_M_page_0a {l : Launch} (hl : l.stackTraces = false) {E : g_E} {A : w_A} {Sc S : q_S} {h : g_H} (hW : w_W E A Sc S h) (hB : w_B S)  (hn : q_np S < 12) : g_Ct l mM_page 1 13 0 0 [.ref (A 30 0), .int 0, .int (-1)] E h (false, fun r h' => r = .inr (some (.int (nI (q_np S)))) ∧ w_W E A Sc (q_up1 (q_up1 (q_up2 (q_up2 S 13 1 0) 0 (q_np S) 0) 1 (q_np S) 0) 0 0 (q_np S + 1)) h') := by
  refine g_Ct.of hl (by decide) rfl (Nat.le_of_ble_eq_true rfl) ?_
  intro X hX hXl hR
  obtain ⟨hnp, hns, hne, hpar, hhome, hact⟩ := id hB
  show g_Go E X _ h true 0 0 0 [some (.ref (A 30 0)), some (.int 0), some (.int (-1)), none] []
  refine g_iload_n hX dM_page_0 rfl rfl 1 rfl ?_
  refine g_if_ne hX dM_page_1 17 4 (by decide) rfl (fun c1 => ?_) (fun c1 => ?_)
  · exact absurd rfl c1
  · refine g_iload_n hX dM_page_4 rfl rfl 5 rfl ?_
    refine g_iconst hX dM_page_5 (v := (-1)) (by decide) 6 rfl ?_
    refine g_icmp_ne hX dM_page_6 13 9 (by decide) rfl (fun c6 => ?_) (fun c6 => ?_)
    · exact absurd rfl c6
    · refine g_iconst hX dM_page_9 (v := 1) (by decide) 10 rfl ?_
      refine g_goto hX dM_page_10 42 (by decide) ?_
      refine g_istore_n hX (L' := [_, _, _, _]) dM_page_42 rfl (by decide) rfl 43 rfl ?_
      refine g_aload_n hX dM_page_43 rfl rfl (by first | rfl | exact g_rfr _) 44 rfl ?_
      refine g_iload_n hX dM_page_44 rfl rfl 45 rfl ?_
      refine g_if_lt hX dM_page_45 53 48 (by decide) rfl (fun c45 => ?_) (fun c45 => ?_)
      · exact absurd c45 (by decide)
      · refine g_iload_n hX dM_page_48 rfl rfl 49 rfl ?_
        refine g_iconst hX dM_page_49 (v := 2) (by decide) 50 rfl ?_
        refine g_icmp_le hX dM_page_50 57 53 (by decide) rfl (fun c50 => ?_) (fun c50 => ?_)
        · refine g_iload_n hX dM_page_57 rfl rfl 58 rfl ?_
          refine g_if_ne hX dM_page_58 65 61 (by decide) rfl (fun c58 => ?_) (fun c58 => ?_)
          · refine g_aload_n hX dM_page_65 rfl rfl (by first | rfl | exact g_rfr _) 66 rfl ?_
            refine g_get hX dM_page_66 fM_79 (w_m hW.r) rfl 69 rfl ?_
            refine g_bipush hX dM_page_69 (v := 12) (by decide) 71 rfl ?_
            refine g_icmp_ne hX dM_page_71 78 74 (by decide) rfl (fun c71 => ?_) (fun c71 => ?_)
            · refine g_iconst hX dM_page_78 (v := 0) (by decide) 79 rfl ?_
              refine g_put0 hX dM_page_79 fM_75 (w_m hW.r) (w_baseM hW 30 (by decide) (by decide)) rfl rfl (Nat.le_of_ble_eq_true rfl) 82 rfl ?_
              refine g_stepM hW 30 (q_up2 S 13 1 _) (by decide) (by decide) w_hc13 rfl (fun h hW => ?_)
              refine g_aload_n hX dM_page_82 rfl rfl (by first | rfl | exact g_rfr _) 83 rfl ?_
              refine g_get hX dM_page_83 fM_75 (w_m hW.r) rfl 86 rfl ?_
              refine g_if_le hX dM_page_86 91 89 (by decide) rfl (fun c86 => ?_) (fun c86 => ?_)
              · refine g_aload_n hX dM_page_91 rfl rfl (by first | rfl | exact g_rfr _) 92 rfl ?_
                refine g_get hX dM_page_92 fM_7 (w_m hW.r) rfl 95 rfl ?_
                refine g_aload_n hX dM_page_95 rfl rfl (by first | rfl | exact g_rfr _) 96 rfl ?_
                refine g_get hX dM_page_96 fM_79 (w_m hW.r) rfl 99 rfl ?_
                refine g_iload_n hX dM_page_99 rfl rfl 100 rfl ?_
                refine g_iast hX dM_page_100 (w_ar hW.r 31 (by decide)) (w_baseM hW 31 (by decide) (by decide)) (g_ix.nat hn (by decide)) 101 rfl ?_
                refine g_stepM hW 31 (q_up2 (q_up2 S 13 1 0) 0 (q_np S) 0) (by decide) (by decide) w_hv0 rfl (fun h hW => ?_)
                refine g_aload_n hX dM_page_101 rfl rfl (by first | rfl | exact g_rfr _) 102 rfl ?_
                refine g_get hX dM_page_102 fM_13 (w_m hW.r) rfl 105 rfl ?_
                refine g_aload_n hX dM_page_105 rfl rfl (by first | rfl | exact g_rfr _) 106 rfl ?_
                refine g_get hX dM_page_106 fM_79 (w_m hW.r) rfl 109 rfl ?_
                refine g_iload_n hX dM_page_109 rfl rfl 110 rfl ?_
                refine g_iast hX dM_page_110 (w_ar hW.r 32 (by decide)) (w_baseM hW 32 (by decide) (by decide)) (g_ix.nat hn (by decide)) 111 rfl ?_
                refine g_stepM hW 32 (q_up1 (q_up2 (q_up2 S 13 1 0) 0 (q_np S) 0) 1 (q_np S) 0) (by decide) (by decide) w_hn1 (congrArg (g_ints E 12) (q_updp (S.1 1) (q_np S) 0)) (fun h hW => ?_)
                refine g_aload_n hX dM_page_111 rfl rfl (by first | rfl | exact g_rfr _) 112 rfl ?_
                refine g_dup hX dM_page_112 rfl 113 rfl ?_
                refine g_get hX dM_page_113 fM_79 (w_m hW.r) rfl 116 rfl ?_
                refine g_iconst hX dM_page_116 (v := 1) (by decide) 117 rfl ?_
                refine g_iadd hX dM_page_117 118 rfl ?_
                refine g_put0 hX dM_page_118 fM_79 (w_m hW.r) (w_baseM hW 30 (by decide) (by decide)) rfl rfl (Nat.le_of_ble_eq_true rfl) 121 rfl ?_
                refine g_stepM hW 30 (q_up1 (q_up1 (q_up2 (q_up2 S 13 1 0) 0 (q_np S) 0) 1 (q_np S) 0) 0 0 (q_np S + 1)) (by decide) (by decide) w_hc0 (by rw [nI_1]; rfl) (fun h hW => ?_)
                refine g_aload_n hX dM_page_121 rfl rfl (by first | rfl | exact g_rfr _) 122 rfl ?_
                refine g_get hX dM_page_122 fM_79 (w_m hW.r) rfl 125 rfl ?_
                refine g_iconst hX dM_page_125 (v := 1) (by decide) 126 rfl ?_
                refine g_isub hX dM_page_126 127 rfl ?_
                exact g_iret hX rfl rfl dM_page_127 ⟨by rw [← nI_pred (q_np S)]; rfl, hW⟩ rfl (Nat.zero_le _) (Nat.zero_le _)
              · exact absurd (show (0 : Int32) ≤ 0 by decide) c86
            · exact absurd (q_inj (b := 12) c71 (show q_np S < 2 ^ 31 by omega) (by decide)) (show ¬ q_np S = 12 by omega)
          · exact absurd c58 (by decide)
        · exact absurd (by decide) c50
set_option maxRecDepth 100000 in
set_option maxHeartbeats 4000000 in
theorem c_M_page_3b {l : Launch} (hl : l.stackTraces = false) {E : g_E} {A : w_A} {Sc S : q_S} {h : g_H} (hW : w_W E A Sc S h) (hB : w_B S) {k : Int32} {p : Nat} (hp : p < q_np S) (hk0 : ¬ k < 0) (hk2 : k ≤ 2) (hk : ¬ k = 0) (hf : S.2 0 p = k - 1) (hn : q_np S = 12) : g_Ct l mM_page 1 13 0 0 [.ref (A 30 0), .int k, .int (nI p)] E h (false, fun r h' => r = .inr (some (.int 0)) ∧ w_W E A Sc (q_up2 S 13 1 3) h') := by
  refine g_Ct.of hl (by decide) rfl (Nat.le_of_ble_eq_true rfl) ?_
  intro X hX hXl hR
  obtain ⟨hnp, hns, hne, hpar, hhome, hact⟩ := id hB
  show g_Go E X _ h true 0 0 0 [some (.ref (A 30 0)), some (.int k), some (.int (nI p)), none] []
  refine g_iload_n hX dM_page_0 rfl rfl 1 rfl ?_
  refine g_if_ne hX dM_page_1 17 4 (by decide) rfl (fun c1 => ?_) (fun c1 => ?_)
  · refine g_aload_n hX dM_page_17 rfl rfl (by first | rfl | exact g_rfr _) 18 rfl ?_
    refine g_iload_n hX dM_page_18 rfl rfl 19 rfl ?_
    refine g_cV1r (wt := 0) hX (c_M_noPage hX.tr hW.r hB _) dM_page_19 (w_m hW.r) kM_85 (g_rm.of hR (by decide) (by decide)) (by first | exact Nat.zero_le _ | (rw [hR]; decide)) (by first | exact Nat.zero_le _ | (rw [hR]; decide)) (by first | decide | (simp [Value.category])) 22 rfl ?_
    refine g_if_ne hX dM_page_22 41 25 (by decide) rfl (fun c22 => ?_) (fun c22 => ?_)
    · exact absurd (r_noPage_ok hB hp) c22
    · refine g_aload_n hX dM_page_25 rfl rfl (by first | rfl | exact g_rfr _) 26 rfl ?_
      refine g_get hX dM_page_26 fM_7 (w_m hW.r) rfl 29 rfl ?_
      refine g_iload_n hX dM_page_29 rfl rfl 30 rfl ?_
      refine g_iald hX dM_page_30 (w_ar hW.r _ (by decide)) (g_ix.nat (show p < 12 by omega) (by decide)) 31 rfl ?_
      refine g_iload_n hX dM_page_31 rfl rfl 32 rfl ?_
      refine g_iconst hX dM_page_32 (v := 1) (by decide) 33 rfl ?_
      refine g_isub hX dM_page_33 34 rfl ?_
      refine g_icmp_ne hX dM_page_34 41 37 (by decide) rfl (fun c34 => ?_) (fun c34 => ?_)
      · exact absurd hf c34
      · refine g_iconst hX dM_page_37 (v := 1) (by decide) 38 rfl ?_
        refine g_goto hX dM_page_38 42 (by decide) ?_
        refine g_istore_n hX (L' := [_, _, _, _]) dM_page_42 rfl (by decide) rfl 43 rfl ?_
        refine g_aload_n hX dM_page_43 rfl rfl (by first | rfl | exact g_rfr _) 44 rfl ?_
        refine g_iload_n hX dM_page_44 rfl rfl 45 rfl ?_
        refine g_if_lt hX dM_page_45 53 48 (by decide) rfl (fun c45 => ?_) (fun c45 => ?_)
        · contradiction
        · refine g_iload_n hX dM_page_48 rfl rfl 49 rfl ?_
          refine g_iconst hX dM_page_49 (v := 2) (by decide) 50 rfl ?_
          refine g_icmp_le hX dM_page_50 57 53 (by decide) rfl (fun c50 => ?_) (fun c50 => ?_)
          · refine g_iload_n hX dM_page_57 rfl rfl 58 rfl ?_
            refine g_if_ne hX dM_page_58 65 61 (by decide) rfl (fun c58 => ?_) (fun c58 => ?_)
            · refine g_aload_n hX dM_page_65 rfl rfl (by first | rfl | exact g_rfr _) 66 rfl ?_
              refine g_get hX dM_page_66 fM_79 (w_m hW.r) rfl 69 rfl ?_
              refine g_bipush hX dM_page_69 (v := 12) (by decide) 71 rfl ?_
              refine g_icmp_ne hX dM_page_71 78 74 (by decide) rfl (fun c71 => ?_) (fun c71 => ?_)
              · exact absurd (congrArg nI hn) c71
              · refine g_iconst hX dM_page_74 (v := 3) (by decide) 75 rfl ?_
                refine g_goto hX dM_page_75 79 (by decide) ?_
                refine g_put0 hX dM_page_79 fM_75 (w_m hW.r) (w_baseM hW 30 (by decide) (by decide)) rfl rfl (Nat.le_of_ble_eq_true rfl) 82 rfl ?_
                refine g_stepM hW 30 (q_up2 S 13 1 _) (by decide) (by decide) w_hc13 rfl (fun h hW => ?_)
                refine g_aload_n hX dM_page_82 rfl rfl (by first | rfl | exact g_rfr _) 83 rfl ?_
                refine g_get hX dM_page_83 fM_75 (w_m hW.r) rfl 86 rfl ?_
                refine g_if_le hX dM_page_86 91 89 (by decide) rfl (fun c86 => ?_) (fun c86 => ?_)
                · exact absurd c86 (show ¬ (3 : Int32) ≤ 0 by decide)
                · refine g_iconst hX dM_page_89 (v := 0) (by decide) 90 rfl ?_
                  exact g_iret hX rfl rfl dM_page_90 ⟨rfl, hW⟩ rfl (Nat.zero_le _) (Nat.zero_le _)
            · exact absurd c58 (by decide)
          · contradiction
  · contradiction
set_option maxRecDepth 100000 in
set_option maxHeartbeats 4000000 in
theorem c_M_page_0b {l : Launch} (hl : l.stackTraces = false) {E : g_E} {A : w_A} {Sc S : q_S} {h : g_H} (hW : w_W E A Sc S h) (hB : w_B S) {k : Int32} {p : Nat} (hp : p < q_np S) (hk0 : ¬ k < 0) (hk2 : k ≤ 2) (hk : ¬ k = 0) (hf : S.2 0 p = k - 1) (hn : q_np S < 12) : g_Ct l mM_page 1 13 0 0 [.ref (A 30 0), .int k, .int (nI p)] E h (false, fun r h' => r = .inr (some (.int (nI (q_np S)))) ∧ w_W E A Sc (q_up1 (q_up1 (q_up2 (q_up2 S 13 1 0) 0 (q_np S) k) 1 (q_np S) (p + 1)) 0 0 (q_np S + 1)) h') := by
  refine g_Ct.of hl (by decide) rfl (Nat.le_of_ble_eq_true rfl) ?_
  intro X hX hXl hR
  obtain ⟨hnp, hns, hne, hpar, hhome, hact⟩ := id hB
  show g_Go E X _ h true 0 0 0 [some (.ref (A 30 0)), some (.int k), some (.int (nI p)), none] []
  refine g_iload_n hX dM_page_0 rfl rfl 1 rfl ?_
  refine g_if_ne hX dM_page_1 17 4 (by decide) rfl (fun c1 => ?_) (fun c1 => ?_)
  · refine g_aload_n hX dM_page_17 rfl rfl (by first | rfl | exact g_rfr _) 18 rfl ?_
    refine g_iload_n hX dM_page_18 rfl rfl 19 rfl ?_
    refine g_cV1r (wt := 0) hX (c_M_noPage hX.tr hW.r hB _) dM_page_19 (w_m hW.r) kM_85 (g_rm.of hR (by decide) (by decide)) (by first | exact Nat.zero_le _ | (rw [hR]; decide)) (by first | exact Nat.zero_le _ | (rw [hR]; decide)) (by first | decide | (simp [Value.category])) 22 rfl ?_
    refine g_if_ne hX dM_page_22 41 25 (by decide) rfl (fun c22 => ?_) (fun c22 => ?_)
    · exact absurd (r_noPage_ok hB hp) c22
    · refine g_aload_n hX dM_page_25 rfl rfl (by first | rfl | exact g_rfr _) 26 rfl ?_
      refine g_get hX dM_page_26 fM_7 (w_m hW.r) rfl 29 rfl ?_
      refine g_iload_n hX dM_page_29 rfl rfl 30 rfl ?_
      refine g_iald hX dM_page_30 (w_ar hW.r _ (by decide)) (g_ix.nat (show p < 12 by omega) (by decide)) 31 rfl ?_
      refine g_iload_n hX dM_page_31 rfl rfl 32 rfl ?_
      refine g_iconst hX dM_page_32 (v := 1) (by decide) 33 rfl ?_
      refine g_isub hX dM_page_33 34 rfl ?_
      refine g_icmp_ne hX dM_page_34 41 37 (by decide) rfl (fun c34 => ?_) (fun c34 => ?_)
      · exact absurd hf c34
      · refine g_iconst hX dM_page_37 (v := 1) (by decide) 38 rfl ?_
        refine g_goto hX dM_page_38 42 (by decide) ?_
        refine g_istore_n hX (L' := [_, _, _, _]) dM_page_42 rfl (by decide) rfl 43 rfl ?_
        refine g_aload_n hX dM_page_43 rfl rfl (by first | rfl | exact g_rfr _) 44 rfl ?_
        refine g_iload_n hX dM_page_44 rfl rfl 45 rfl ?_
        refine g_if_lt hX dM_page_45 53 48 (by decide) rfl (fun c45 => ?_) (fun c45 => ?_)
        · contradiction
        · refine g_iload_n hX dM_page_48 rfl rfl 49 rfl ?_
          refine g_iconst hX dM_page_49 (v := 2) (by decide) 50 rfl ?_
          refine g_icmp_le hX dM_page_50 57 53 (by decide) rfl (fun c50 => ?_) (fun c50 => ?_)
          · refine g_iload_n hX dM_page_57 rfl rfl 58 rfl ?_
            refine g_if_ne hX dM_page_58 65 61 (by decide) rfl (fun c58 => ?_) (fun c58 => ?_)
            · refine g_aload_n hX dM_page_65 rfl rfl (by first | rfl | exact g_rfr _) 66 rfl ?_
              refine g_get hX dM_page_66 fM_79 (w_m hW.r) rfl 69 rfl ?_
              refine g_bipush hX dM_page_69 (v := 12) (by decide) 71 rfl ?_
              refine g_icmp_ne hX dM_page_71 78 74 (by decide) rfl (fun c71 => ?_) (fun c71 => ?_)
              · refine g_iconst hX dM_page_78 (v := 0) (by decide) 79 rfl ?_
                refine g_put0 hX dM_page_79 fM_75 (w_m hW.r) (w_baseM hW 30 (by decide) (by decide)) rfl rfl (Nat.le_of_ble_eq_true rfl) 82 rfl ?_
                refine g_stepM hW 30 (q_up2 S 13 1 _) (by decide) (by decide) w_hc13 rfl (fun h hW => ?_)
                refine g_aload_n hX dM_page_82 rfl rfl (by first | rfl | exact g_rfr _) 83 rfl ?_
                refine g_get hX dM_page_83 fM_75 (w_m hW.r) rfl 86 rfl ?_
                refine g_if_le hX dM_page_86 91 89 (by decide) rfl (fun c86 => ?_) (fun c86 => ?_)
                · refine g_aload_n hX dM_page_91 rfl rfl (by first | rfl | exact g_rfr _) 92 rfl ?_
                  refine g_get hX dM_page_92 fM_7 (w_m hW.r) rfl 95 rfl ?_
                  refine g_aload_n hX dM_page_95 rfl rfl (by first | rfl | exact g_rfr _) 96 rfl ?_
                  refine g_get hX dM_page_96 fM_79 (w_m hW.r) rfl 99 rfl ?_
                  refine g_iload_n hX dM_page_99 rfl rfl 100 rfl ?_
                  refine g_iast hX dM_page_100 (w_ar hW.r 31 (by decide)) (w_baseM hW 31 (by decide) (by decide)) (g_ix.nat hn (by decide)) 101 rfl ?_
                  refine g_stepM hW 31 (q_up2 (q_up2 S 13 1 0) 0 (q_np S) k) (by decide) (by decide) w_hv0 rfl (fun h hW => ?_)
                  refine g_aload_n hX dM_page_101 rfl rfl (by first | rfl | exact g_rfr _) 102 rfl ?_
                  refine g_get hX dM_page_102 fM_13 (w_m hW.r) rfl 105 rfl ?_
                  refine g_aload_n hX dM_page_105 rfl rfl (by first | rfl | exact g_rfr _) 106 rfl ?_
                  refine g_get hX dM_page_106 fM_79 (w_m hW.r) rfl 109 rfl ?_
                  refine g_iload_n hX dM_page_109 rfl rfl 110 rfl ?_
                  refine g_iast hX dM_page_110 (w_ar hW.r 32 (by decide)) (w_baseM hW 32 (by decide) (by decide)) (g_ix.nat hn (by decide)) 111 rfl ?_
                  refine g_stepM hW 32 (q_up1 (q_up2 (q_up2 S 13 1 0) 0 (q_np S) k) 1 (q_np S) (p + 1)) (by decide) (by decide) w_hn1 (by rw [← nI_pred p]; exact congrArg (g_ints E 12) (q_updp (S.1 1) (q_np S) (p + 1))) (fun h hW => ?_)
                  refine g_aload_n hX dM_page_111 rfl rfl (by first | rfl | exact g_rfr _) 112 rfl ?_
                  refine g_dup hX dM_page_112 rfl 113 rfl ?_
                  refine g_get hX dM_page_113 fM_79 (w_m hW.r) rfl 116 rfl ?_
                  refine g_iconst hX dM_page_116 (v := 1) (by decide) 117 rfl ?_
                  refine g_iadd hX dM_page_117 118 rfl ?_
                  refine g_put0 hX dM_page_118 fM_79 (w_m hW.r) (w_baseM hW 30 (by decide) (by decide)) rfl rfl (Nat.le_of_ble_eq_true rfl) 121 rfl ?_
                  refine g_stepM hW 30 (q_up1 (q_up1 (q_up2 (q_up2 S 13 1 0) 0 (q_np S) k) 1 (q_np S) (p + 1)) 0 0 (q_np S + 1)) (by decide) (by decide) w_hc0 (by rw [nI_1]; rfl) (fun h hW => ?_)
                  refine g_aload_n hX dM_page_121 rfl rfl (by first | rfl | exact g_rfr _) 122 rfl ?_
                  refine g_get hX dM_page_122 fM_79 (w_m hW.r) rfl 125 rfl ?_
                  refine g_iconst hX dM_page_125 (v := 1) (by decide) 126 rfl ?_
                  refine g_isub hX dM_page_126 127 rfl ?_
                  exact g_iret hX rfl rfl dM_page_127 ⟨by rw [← nI_pred (q_np S)]; rfl, hW⟩ rfl (Nat.zero_le _) (Nat.zero_le _)
                · exact absurd (show (0 : Int32) ≤ 0 by decide) c86
              · exact absurd (q_inj (b := 12) c71 (show q_np S < 2 ^ 31 by omega) (by decide)) (show ¬ q_np S = 12 by omega)
            · exact absurd c58 (by decide)
          · contradiction
  · contradiction
set_option maxRecDepth 100000 in
set_option maxHeartbeats 4000000 in
theorem c_M_shape_1 {l : Launch} (hl : l.stackTraces = false) {E : g_E} {A : w_A} {Sc S : q_S} {h : g_H} (hW : w_W E A Sc S h) (hB : w_B S) {f : Int32} (s : Int32) (hf : r_noPage S f = 1) : g_Ct l mM_shape 1 16 0 0 [.ref (A 30 0), .int f, .int s] E h (false, fun r h' => r = .inr (some (.int 0)) ∧ w_W E A Sc (q_up2 S 13 1 1) h') := by
  refine g_Ct.of hl (by decide) rfl (Nat.le_of_ble_eq_true rfl) ?_
  intro X hX hXl hR
  obtain ⟨hnp, hns, hne, hpar, hhome, hact⟩ := id hB
  show g_Go E X _ h true 0 0 0 [some (.ref (A 30 0)), some (.int f), some (.int s)] []
  refine g_aload_n hX dM_shape_0 rfl rfl (by first | rfl | exact g_rfr _) 1 rfl ?_
  refine g_aload_n hX dM_shape_1 rfl rfl (by first | rfl | exact g_rfr _) 2 rfl ?_
  refine g_iload_n hX dM_shape_2 rfl rfl 3 rfl ?_
  refine g_cV1r (wt := 1) hX (c_M_noPage hX.tr hW.r hB _) dM_shape_3 (w_m hW.r) kM_85 (g_rm.of hR (by decide) (by decide)) (by first | exact Nat.zero_le _ | (rw [hR]; decide)) (by first | exact Nat.zero_le _ | (rw [hR]; decide)) (by first | decide | (simp [Value.category])) 6 rfl ?_
  refine g_if_eq hX dM_shape_6 13 9 (by decide) rfl (fun c6 => ?_) (fun c6 => ?_)
  · exact absurd (c6.symm.trans hf) (by decide)
  · refine g_iconst hX dM_shape_9 (v := 1) (by decide) 10 rfl ?_
    refine g_goto hX dM_shape_10 59 (by decide) ?_
    refine g_put0 hX dM_shape_59 fM_75 (w_m hW.r) (w_baseM hW 30 (by decide) (by decide)) rfl rfl (Nat.le_of_ble_eq_true rfl) 62 rfl ?_
    refine g_stepM hW 30 (q_up2 S 13 1 _) (by decide) (by decide) w_hc13 rfl (fun h hW => ?_)
    refine g_aload_n hX dM_shape_62 rfl rfl (by first | rfl | exact g_rfr _) 63 rfl ?_
    refine g_get hX dM_shape_63 fM_75 (w_m hW.r) rfl 66 rfl ?_
    refine g_if_le hX dM_shape_66 71 69 (by decide) rfl (fun c66 => ?_) (fun c66 => ?_)
    · exact absurd c66 (show ¬ (1 : Int32) ≤ 0 by decide)
    · refine g_iconst hX dM_shape_69 (v := 0) (by decide) 70 rfl ?_
      exact g_iret hX rfl rfl dM_shape_70 ⟨rfl, hW⟩ rfl (Nat.zero_le _) (Nat.zero_le _)
set_option maxRecDepth 100000 in
set_option maxHeartbeats 4000000 in
theorem c_M_shape_2 {l : Launch} (hl : l.stackTraces = false) {E : g_E} {A : w_A} {Sc S : q_S} {h : g_H} (hW : w_W E A Sc S h) (hB : w_B S) {p : Nat} (hp : p < q_np S) {s : Int32} (hs : s < -1 ∨ ¬ s ≤ 7) : g_Ct l mM_shape 1 16 0 0 [.ref (A 30 0), .int (nI p), .int s] E h (false, fun r h' => r = .inr (some (.int 0)) ∧ w_W E A Sc (q_up2 S 13 1 2) h') := by
  refine g_Ct.of hl (by decide) rfl (Nat.le_of_ble_eq_true rfl) ?_
  intro X hX hXl hR
  obtain ⟨hnp, hns, hne, hpar, hhome, hact⟩ := id hB
  show g_Go E X _ h true 0 0 0 [some (.ref (A 30 0)), some (.int (nI p)), some (.int s)] []
  refine g_aload_n hX dM_shape_0 rfl rfl (by first | rfl | exact g_rfr _) 1 rfl ?_
  refine g_aload_n hX dM_shape_1 rfl rfl (by first | rfl | exact g_rfr _) 2 rfl ?_
  refine g_iload_n hX dM_shape_2 rfl rfl 3 rfl ?_
  refine g_cV1r (wt := 1) hX (c_M_noPage hX.tr hW.r hB _) dM_shape_3 (w_m hW.r) kM_85 (g_rm.of hR (by decide) (by decide)) (by first | exact Nat.zero_le _ | (rw [hR]; decide)) (by first | exact Nat.zero_le _ | (rw [hR]; decide)) (by first | decide | (simp [Value.category])) 6 rfl ?_
  refine g_if_eq hX dM_shape_6 13 9 (by decide) rfl (fun c6 => ?_) (fun c6 => ?_)
  · refine g_iload_n hX dM_shape_13 rfl rfl 14 rfl ?_
    refine g_iconst hX dM_shape_14 (v := (-1)) (by decide) 15 rfl ?_
    refine g_icmp_lt hX dM_shape_15 24 18 (by decide) rfl (fun c15 => ?_) (fun c15 => ?_)
    · refine g_iconst hX dM_shape_24 (v := 2) (by decide) 25 rfl ?_
      refine g_goto hX dM_shape_25 59 (by decide) ?_
      refine g_put0 hX dM_shape_59 fM_75 (w_m hW.r) (w_baseM hW 30 (by decide) (by decide)) rfl rfl (Nat.le_of_ble_eq_true rfl) 62 rfl ?_
      refine g_stepM hW 30 (q_up2 S 13 1 _) (by decide) (by decide) w_hc13 rfl (fun h hW => ?_)
      refine g_aload_n hX dM_shape_62 rfl rfl (by first | rfl | exact g_rfr _) 63 rfl ?_
      refine g_get hX dM_shape_63 fM_75 (w_m hW.r) rfl 66 rfl ?_
      refine g_if_le hX dM_shape_66 71 69 (by decide) rfl (fun c66 => ?_) (fun c66 => ?_)
      · exact absurd c66 (show ¬ (2 : Int32) ≤ 0 by decide)
      · refine g_iconst hX dM_shape_69 (v := 0) (by decide) 70 rfl ?_
        exact g_iret hX rfl rfl dM_shape_70 ⟨rfl, hW⟩ rfl (Nat.zero_le _) (Nat.zero_le _)
    · refine g_iload_n hX dM_shape_18 rfl rfl 19 rfl ?_
      refine g_bipush hX dM_shape_19 (v := 7) (by decide) 21 rfl ?_
      refine g_icmp_le hX dM_shape_21 28 24 (by decide) rfl (fun c21 => ?_) (fun c21 => ?_)
      · exact absurd hs (fun q => q.elim c15 (fun q => q c21))
      · refine g_iconst hX dM_shape_24 (v := 2) (by decide) 25 rfl ?_
        refine g_goto hX dM_shape_25 59 (by decide) ?_
        refine g_put0 hX dM_shape_59 fM_75 (w_m hW.r) (w_baseM hW 30 (by decide) (by decide)) rfl rfl (Nat.le_of_ble_eq_true rfl) 62 rfl ?_
        refine g_stepM hW 30 (q_up2 S 13 1 _) (by decide) (by decide) w_hc13 rfl (fun h hW => ?_)
        refine g_aload_n hX dM_shape_62 rfl rfl (by first | rfl | exact g_rfr _) 63 rfl ?_
        refine g_get hX dM_shape_63 fM_75 (w_m hW.r) rfl 66 rfl ?_
        refine g_if_le hX dM_shape_66 71 69 (by decide) rfl (fun c66 => ?_) (fun c66 => ?_)
        · exact absurd c66 (show ¬ (2 : Int32) ≤ 0 by decide)
        · refine g_iconst hX dM_shape_69 (v := 0) (by decide) 70 rfl ?_
          exact g_iret hX rfl rfl dM_shape_70 ⟨rfl, hW⟩ rfl (Nat.zero_le _) (Nat.zero_le _)
  · exact absurd (r_noPage_ok hB hp) c6
set_option maxRecDepth 100000 in
set_option maxHeartbeats 4000000 in
theorem c_M_shape_3 {l : Launch} (hl : l.stackTraces = false) {E : g_E} {A : w_A} {Sc S : q_S} {h : g_H} (hW : w_W E A Sc S h) (hB : w_B S) {p x : Nat} (hp : p < q_np S) {s : Int32} (hs1 : ¬ s < -1) (hs2 : s ≤ 7) (hs0 : ¬ s < 0) (hx : q_slotted S p s = some x) : g_Ct l mM_shape 1 16 0 0 [.ref (A 30 0), .int (nI p), .int s] E h (false, fun r h' => r = .inr (some (.int 0)) ∧ w_W E A Sc (q_up2 S 13 1 3) h') := by
  refine g_Ct.of hl (by decide) rfl (Nat.le_of_ble_eq_true rfl) ?_
  intro X hX hXl hR
  obtain ⟨hnp, hns, hne, hpar, hhome, hact⟩ := id hB
  show g_Go E X _ h true 0 0 0 [some (.ref (A 30 0)), some (.int (nI p)), some (.int s)] []
  refine g_aload_n hX dM_shape_0 rfl rfl (by first | rfl | exact g_rfr _) 1 rfl ?_
  refine g_aload_n hX dM_shape_1 rfl rfl (by first | rfl | exact g_rfr _) 2 rfl ?_
  refine g_iload_n hX dM_shape_2 rfl rfl 3 rfl ?_
  refine g_cV1r (wt := 1) hX (c_M_noPage hX.tr hW.r hB _) dM_shape_3 (w_m hW.r) kM_85 (g_rm.of hR (by decide) (by decide)) (by first | exact Nat.zero_le _ | (rw [hR]; decide)) (by first | exact Nat.zero_le _ | (rw [hR]; decide)) (by first | decide | (simp [Value.category])) 6 rfl ?_
  refine g_if_eq hX dM_shape_6 13 9 (by decide) rfl (fun c6 => ?_) (fun c6 => ?_)
  · refine g_iload_n hX dM_shape_13 rfl rfl 14 rfl ?_
    refine g_iconst hX dM_shape_14 (v := (-1)) (by decide) 15 rfl ?_
    refine g_icmp_lt hX dM_shape_15 24 18 (by decide) rfl (fun c15 => ?_) (fun c15 => ?_)
    · contradiction
    · refine g_iload_n hX dM_shape_18 rfl rfl 19 rfl ?_
      refine g_bipush hX dM_shape_19 (v := 7) (by decide) 21 rfl ?_
      refine g_icmp_le hX dM_shape_21 28 24 (by decide) rfl (fun c21 => ?_) (fun c21 => ?_)
      · refine g_iload_n hX dM_shape_28 rfl rfl 29 rfl ?_
        refine g_if_lt hX dM_shape_29 45 32 (by decide) rfl (fun c29 => ?_) (fun c29 => ?_)
        · contradiction
        · refine g_aload_n hX dM_shape_32 rfl rfl (by first | rfl | exact g_rfr _) 33 rfl ?_
          refine g_iload_n hX dM_shape_33 rfl rfl 34 rfl ?_
          refine g_iload_n hX dM_shape_34 rfl rfl 35 rfl ?_
          refine g_cV2r (wt := 1) hX (c_M_slotted hX.tr hW.r hB (by omega) _) dM_shape_35 (w_m hW.r) kM_89 (g_rm.of hR (by decide) (by decide)) (by first | exact Nat.zero_le _ | (rw [hR]; decide)) (by first | exact Nat.zero_le _ | (rw [hR]; decide)) (by first | decide | (simp [Value.category])) 38 rfl ?_
          refine g_if_lt hX dM_shape_38 45 41 (by decide) rfl (fun c38 => ?_) (fun c38 => ?_)
          · exact absurd c38 (q_ois' hx (by have := q_slotted_lt hx; omega))
          · refine g_iconst hX dM_shape_41 (v := 3) (by decide) 42 rfl ?_
            refine g_goto hX dM_shape_42 59 (by decide) ?_
            refine g_put0 hX dM_shape_59 fM_75 (w_m hW.r) (w_baseM hW 30 (by decide) (by decide)) rfl rfl (Nat.le_of_ble_eq_true rfl) 62 rfl ?_
            refine g_stepM hW 30 (q_up2 S 13 1 _) (by decide) (by decide) w_hc13 rfl (fun h hW => ?_)
            refine g_aload_n hX dM_shape_62 rfl rfl (by first | rfl | exact g_rfr _) 63 rfl ?_
            refine g_get hX dM_shape_63 fM_75 (w_m hW.r) rfl 66 rfl ?_
            refine g_if_le hX dM_shape_66 71 69 (by decide) rfl (fun c66 => ?_) (fun c66 => ?_)
            · exact absurd c66 (show ¬ (3 : Int32) ≤ 0 by decide)
            · refine g_iconst hX dM_shape_69 (v := 0) (by decide) 70 rfl ?_
              exact g_iret hX rfl rfl dM_shape_70 ⟨rfl, hW⟩ rfl (Nat.zero_le _) (Nat.zero_le _)
      · contradiction
  · exact absurd (r_noPage_ok hB hp) c6
set_option maxRecDepth 100000 in
set_option maxHeartbeats 4000000 in
theorem c_M_shape_4 {l : Launch} (hl : l.stackTraces = false) {E : g_E} {A : w_A} {Sc S : q_S} {h : g_H} (hW : w_W E A Sc S h) (hB : w_B S) {p : Nat} (hp : p < q_np S) {s : Int32} (hs1 : ¬ s < -1) (hs2 : s ≤ 7) (hx : s < 0 ∨ q_slotted S p s = none) (hn : q_ns S = 24) : g_Ct l mM_shape 1 16 0 0 [.ref (A 30 0), .int (nI p), .int s] E h (false, fun r h' => r = .inr (some (.int 0)) ∧ w_W E A Sc (q_up2 S 13 1 4) h') := by
  refine g_Ct.of hl (by decide) rfl (Nat.le_of_ble_eq_true rfl) ?_
  intro X hX hXl hR
  obtain ⟨hnp, hns, hne, hpar, hhome, hact⟩ := id hB
  show g_Go E X _ h true 0 0 0 [some (.ref (A 30 0)), some (.int (nI p)), some (.int s)] []
  refine g_aload_n hX dM_shape_0 rfl rfl (by first | rfl | exact g_rfr _) 1 rfl ?_
  refine g_aload_n hX dM_shape_1 rfl rfl (by first | rfl | exact g_rfr _) 2 rfl ?_
  refine g_iload_n hX dM_shape_2 rfl rfl 3 rfl ?_
  refine g_cV1r (wt := 1) hX (c_M_noPage hX.tr hW.r hB _) dM_shape_3 (w_m hW.r) kM_85 (g_rm.of hR (by decide) (by decide)) (by first | exact Nat.zero_le _ | (rw [hR]; decide)) (by first | exact Nat.zero_le _ | (rw [hR]; decide)) (by first | decide | (simp [Value.category])) 6 rfl ?_
  refine g_if_eq hX dM_shape_6 13 9 (by decide) rfl (fun c6 => ?_) (fun c6 => ?_)
  · refine g_iload_n hX dM_shape_13 rfl rfl 14 rfl ?_
    refine g_iconst hX dM_shape_14 (v := (-1)) (by decide) 15 rfl ?_
    refine g_icmp_lt hX dM_shape_15 24 18 (by decide) rfl (fun c15 => ?_) (fun c15 => ?_)
    · contradiction
    · refine g_iload_n hX dM_shape_18 rfl rfl 19 rfl ?_
      refine g_bipush hX dM_shape_19 (v := 7) (by decide) 21 rfl ?_
      refine g_icmp_le hX dM_shape_21 28 24 (by decide) rfl (fun c21 => ?_) (fun c21 => ?_)
      · refine g_iload_n hX dM_shape_28 rfl rfl 29 rfl ?_
        refine g_if_lt hX dM_shape_29 45 32 (by decide) rfl (fun c29 => ?_) (fun c29 => ?_)
        · refine g_aload_n hX dM_shape_45 rfl rfl (by first | rfl | exact g_rfr _) 46 rfl ?_
          refine g_get hX dM_shape_46 fM_82 (w_m hW.r) rfl 49 rfl ?_
          refine g_bipush hX dM_shape_49 (v := 24) (by decide) 51 rfl ?_
          refine g_icmp_ne hX dM_shape_51 58 54 (by decide) rfl (fun c51 => ?_) (fun c51 => ?_)
          · exact absurd (congrArg nI hn) c51
          · refine g_iconst hX dM_shape_54 (v := 4) (by decide) 55 rfl ?_
            refine g_goto hX dM_shape_55 59 (by decide) ?_
            refine g_put0 hX dM_shape_59 fM_75 (w_m hW.r) (w_baseM hW 30 (by decide) (by decide)) rfl rfl (Nat.le_of_ble_eq_true rfl) 62 rfl ?_
            refine g_stepM hW 30 (q_up2 S 13 1 _) (by decide) (by decide) w_hc13 rfl (fun h hW => ?_)
            refine g_aload_n hX dM_shape_62 rfl rfl (by first | rfl | exact g_rfr _) 63 rfl ?_
            refine g_get hX dM_shape_63 fM_75 (w_m hW.r) rfl 66 rfl ?_
            refine g_if_le hX dM_shape_66 71 69 (by decide) rfl (fun c66 => ?_) (fun c66 => ?_)
            · exact absurd c66 (show ¬ (4 : Int32) ≤ 0 by decide)
            · refine g_iconst hX dM_shape_69 (v := 0) (by decide) 70 rfl ?_
              exact g_iret hX rfl rfl dM_shape_70 ⟨rfl, hW⟩ rfl (Nat.zero_le _) (Nat.zero_le _)
        · refine g_aload_n hX dM_shape_32 rfl rfl (by first | rfl | exact g_rfr _) 33 rfl ?_
          refine g_iload_n hX dM_shape_33 rfl rfl 34 rfl ?_
          refine g_iload_n hX dM_shape_34 rfl rfl 35 rfl ?_
          refine g_cV2r (wt := 1) hX (c_M_slotted hX.tr hW.r hB (by omega) _) dM_shape_35 (w_m hW.r) kM_89 (g_rm.of hR (by decide) (by decide)) (by first | exact Nat.zero_le _ | (rw [hR]; decide)) (by first | exact Nat.zero_le _ | (rw [hR]; decide)) (by first | decide | (simp [Value.category])) 38 rfl ?_
          refine g_if_lt hX dM_shape_38 45 41 (by decide) rfl (fun c38 => ?_) (fun c38 => ?_)
          · refine g_aload_n hX dM_shape_45 rfl rfl (by first | rfl | exact g_rfr _) 46 rfl ?_
            refine g_get hX dM_shape_46 fM_82 (w_m hW.r) rfl 49 rfl ?_
            refine g_bipush hX dM_shape_49 (v := 24) (by decide) 51 rfl ?_
            refine g_icmp_ne hX dM_shape_51 58 54 (by decide) rfl (fun c51 => ?_) (fun c51 => ?_)
            · exact absurd (congrArg nI hn) c51
            · refine g_iconst hX dM_shape_54 (v := 4) (by decide) 55 rfl ?_
              refine g_goto hX dM_shape_55 59 (by decide) ?_
              refine g_put0 hX dM_shape_59 fM_75 (w_m hW.r) (w_baseM hW 30 (by decide) (by decide)) rfl rfl (Nat.le_of_ble_eq_true rfl) 62 rfl ?_
              refine g_stepM hW 30 (q_up2 S 13 1 _) (by decide) (by decide) w_hc13 rfl (fun h hW => ?_)
              refine g_aload_n hX dM_shape_62 rfl rfl (by first | rfl | exact g_rfr _) 63 rfl ?_
              refine g_get hX dM_shape_63 fM_75 (w_m hW.r) rfl 66 rfl ?_
              refine g_if_le hX dM_shape_66 71 69 (by decide) rfl (fun c66 => ?_) (fun c66 => ?_)
              · exact absurd c66 (show ¬ (4 : Int32) ≤ 0 by decide)
              · refine g_iconst hX dM_shape_69 (v := 0) (by decide) 70 rfl ?_
                exact g_iret hX rfl rfl dM_shape_70 ⟨rfl, hW⟩ rfl (Nat.zero_le _) (Nat.zero_le _)
          · exact absurd hx (fun q => q.elim c29 (fun q => c38 (q_oin' q)))
      · contradiction
  · exact absurd (r_noPage_ok hB hp) c6
set_option maxRecDepth 100000 in
set_option maxHeartbeats 4000000 in
theorem c_M_shape_0 {l : Launch} (hl : l.stackTraces = false) {E : g_E} {A : w_A} {Sc S : q_S} {h : g_H} (hW : w_W E A Sc S h) (hB : w_B S) {p : Nat} (hp : p < q_np S) {s : Int32} (hs1 : ¬ s < -1) (hs2 : s ≤ 7) (hx : s < 0 ∨ q_slotted S p s = none) (hn : q_ns S < 24) : g_Ct l mM_shape 1 16 0 0 [.ref (A 30 0), .int (nI p), .int s] E h (false, fun r h' => r = .inr (some (.int (nI (q_ns S)))) ∧ w_W E A Sc (q_up1 (q_up1 (q_up2 (q_up1 (q_up2 S 13 1 0) 2 (q_ns S) p) 1 (q_ns S) s) 3 (q_ns S) 0) 0 1 (q_ns S + 1)) h') := by
  refine g_Ct.of hl (by decide) rfl (Nat.le_of_ble_eq_true rfl) ?_
  intro X hX hXl hR
  obtain ⟨hnp, hns, hne, hpar, hhome, hact⟩ := id hB
  show g_Go E X _ h true 0 0 0 [some (.ref (A 30 0)), some (.int (nI p)), some (.int s)] []
  refine g_aload_n hX dM_shape_0 rfl rfl (by first | rfl | exact g_rfr _) 1 rfl ?_
  refine g_aload_n hX dM_shape_1 rfl rfl (by first | rfl | exact g_rfr _) 2 rfl ?_
  refine g_iload_n hX dM_shape_2 rfl rfl 3 rfl ?_
  refine g_cV1r (wt := 1) hX (c_M_noPage hX.tr hW.r hB _) dM_shape_3 (w_m hW.r) kM_85 (g_rm.of hR (by decide) (by decide)) (by first | exact Nat.zero_le _ | (rw [hR]; decide)) (by first | exact Nat.zero_le _ | (rw [hR]; decide)) (by first | decide | (simp [Value.category])) 6 rfl ?_
  refine g_if_eq hX dM_shape_6 13 9 (by decide) rfl (fun c6 => ?_) (fun c6 => ?_)
  · refine g_iload_n hX dM_shape_13 rfl rfl 14 rfl ?_
    refine g_iconst hX dM_shape_14 (v := (-1)) (by decide) 15 rfl ?_
    refine g_icmp_lt hX dM_shape_15 24 18 (by decide) rfl (fun c15 => ?_) (fun c15 => ?_)
    · contradiction
    · refine g_iload_n hX dM_shape_18 rfl rfl 19 rfl ?_
      refine g_bipush hX dM_shape_19 (v := 7) (by decide) 21 rfl ?_
      refine g_icmp_le hX dM_shape_21 28 24 (by decide) rfl (fun c21 => ?_) (fun c21 => ?_)
      · refine g_iload_n hX dM_shape_28 rfl rfl 29 rfl ?_
        refine g_if_lt hX dM_shape_29 45 32 (by decide) rfl (fun c29 => ?_) (fun c29 => ?_)
        · refine g_aload_n hX dM_shape_45 rfl rfl (by first | rfl | exact g_rfr _) 46 rfl ?_
          refine g_get hX dM_shape_46 fM_82 (w_m hW.r) rfl 49 rfl ?_
          refine g_bipush hX dM_shape_49 (v := 24) (by decide) 51 rfl ?_
          refine g_icmp_ne hX dM_shape_51 58 54 (by decide) rfl (fun c51 => ?_) (fun c51 => ?_)
          · refine g_iconst hX dM_shape_58 (v := 0) (by decide) 59 rfl ?_
            refine g_put0 hX dM_shape_59 fM_75 (w_m hW.r) (w_baseM hW 30 (by decide) (by decide)) rfl rfl (Nat.le_of_ble_eq_true rfl) 62 rfl ?_
            refine g_stepM hW 30 (q_up2 S 13 1 _) (by decide) (by decide) w_hc13 rfl (fun h hW => ?_)
            refine g_aload_n hX dM_shape_62 rfl rfl (by first | rfl | exact g_rfr _) 63 rfl ?_
            refine g_get hX dM_shape_63 fM_75 (w_m hW.r) rfl 66 rfl ?_
            refine g_if_le hX dM_shape_66 71 69 (by decide) rfl (fun c66 => ?_) (fun c66 => ?_)
            · refine g_aload_n hX dM_shape_71 rfl rfl (by first | rfl | exact g_rfr _) 72 rfl ?_
              refine g_get hX dM_shape_72 fM_16 (w_m hW.r) rfl 75 rfl ?_
              refine g_aload_n hX dM_shape_75 rfl rfl (by first | rfl | exact g_rfr _) 76 rfl ?_
              refine g_get hX dM_shape_76 fM_82 (w_m hW.r) rfl 79 rfl ?_
              refine g_iload_n hX dM_shape_79 rfl rfl 80 rfl ?_
              refine g_iast hX dM_shape_80 (w_ar hW.r 33 (by decide)) (w_baseM hW 33 (by decide) (by decide)) (g_ix.nat hn (by decide)) 81 rfl ?_
              refine g_stepM hW 33 (q_up1 (q_up2 S 13 1 0) 2 (q_ns S) p) (by decide) (by decide) w_hn2 (by rw [q_updn]; rfl) (fun h hW => ?_)
              refine g_aload_n hX dM_shape_81 rfl rfl (by first | rfl | exact g_rfr _) 82 rfl ?_
              refine g_get hX dM_shape_82 fM_19 (w_m hW.r) rfl 85 rfl ?_
              refine g_aload_n hX dM_shape_85 rfl rfl (by first | rfl | exact g_rfr _) 86 rfl ?_
              refine g_get hX dM_shape_86 fM_82 (w_m hW.r) rfl 89 rfl ?_
              refine g_iload_n hX dM_shape_89 rfl rfl 90 rfl ?_
              refine g_iast hX dM_shape_90 (w_ar hW.r 34 (by decide)) (w_baseM hW 34 (by decide) (by decide)) (g_ix.nat hn (by decide)) 91 rfl ?_
              refine g_stepM hW 34 (q_up2 (q_up1 (q_up2 S 13 1 0) 2 (q_ns S) p) 1 (q_ns S) s) (by decide) (by decide) w_hv1 rfl (fun h hW => ?_)
              refine g_aload_n hX dM_shape_91 rfl rfl (by first | rfl | exact g_rfr _) 92 rfl ?_
              refine g_get hX dM_shape_92 fM_33 (w_m hW.r) rfl 95 rfl ?_
              refine g_aload_n hX dM_shape_95 rfl rfl (by first | rfl | exact g_rfr _) 96 rfl ?_
              refine g_get hX dM_shape_96 fM_82 (w_m hW.r) rfl 99 rfl ?_
              refine g_iconst hX dM_shape_99 (v := 0) (by decide) 100 rfl ?_
              refine g_iast hX dM_shape_100 (w_ar hW.r 38 (by decide)) (w_baseM hW 38 (by decide) (by decide)) (g_ix.nat hn (by decide)) 101 rfl ?_
              refine g_stepM hW 38 (q_up1 (q_up2 (q_up1 (q_up2 S 13 1 0) 2 (q_ns S) p) 1 (q_ns S) s) 3 (q_ns S) 0) (by decide) (by decide) w_hn3 (congrArg (g_ints E 24) (q_updn (S.1 3) (q_ns S) 0)) (fun h hW => ?_)
              refine g_aload_n hX dM_shape_101 rfl rfl (by first | rfl | exact g_rfr _) 102 rfl ?_
              refine g_dup hX dM_shape_102 rfl 103 rfl ?_
              refine g_get hX dM_shape_103 fM_82 (w_m hW.r) rfl 106 rfl ?_
              refine g_iconst hX dM_shape_106 (v := 1) (by decide) 107 rfl ?_
              refine g_iadd hX dM_shape_107 108 rfl ?_
              refine g_put0 hX dM_shape_108 fM_82 (w_m hW.r) (w_baseM hW 30 (by decide) (by decide)) rfl rfl (Nat.le_of_ble_eq_true rfl) 111 rfl ?_
              refine g_stepM hW 30 (q_up1 (q_up1 (q_up2 (q_up1 (q_up2 S 13 1 0) 2 (q_ns S) p) 1 (q_ns S) s) 3 (q_ns S) 0) 0 1 (q_ns S + 1)) (by decide) (by decide) w_hc0 (by rw [nI_1]; rfl) (fun h hW => ?_)
              refine g_aload_n hX dM_shape_111 rfl rfl (by first | rfl | exact g_rfr _) 112 rfl ?_
              refine g_get hX dM_shape_112 fM_82 (w_m hW.r) rfl 115 rfl ?_
              refine g_iconst hX dM_shape_115 (v := 1) (by decide) 116 rfl ?_
              refine g_isub hX dM_shape_116 117 rfl ?_
              exact g_iret hX rfl rfl dM_shape_117 ⟨by rw [← nI_pred (q_ns S)]; rfl, hW⟩ rfl (Nat.zero_le _) (Nat.zero_le _)
            · exact absurd (show (0 : Int32) ≤ 0 by decide) c66
          · exact absurd (q_inj (b := 24) c51 (show q_ns S < 2 ^ 31 by omega) (by decide)) (show ¬ q_ns S = 24 by omega)
        · refine g_aload_n hX dM_shape_32 rfl rfl (by first | rfl | exact g_rfr _) 33 rfl ?_
          refine g_iload_n hX dM_shape_33 rfl rfl 34 rfl ?_
          refine g_iload_n hX dM_shape_34 rfl rfl 35 rfl ?_
          refine g_cV2r (wt := 1) hX (c_M_slotted hX.tr hW.r hB (by omega) _) dM_shape_35 (w_m hW.r) kM_89 (g_rm.of hR (by decide) (by decide)) (by first | exact Nat.zero_le _ | (rw [hR]; decide)) (by first | exact Nat.zero_le _ | (rw [hR]; decide)) (by first | decide | (simp [Value.category])) 38 rfl ?_
          refine g_if_lt hX dM_shape_38 45 41 (by decide) rfl (fun c38 => ?_) (fun c38 => ?_)
          · refine g_aload_n hX dM_shape_45 rfl rfl (by first | rfl | exact g_rfr _) 46 rfl ?_
            refine g_get hX dM_shape_46 fM_82 (w_m hW.r) rfl 49 rfl ?_
            refine g_bipush hX dM_shape_49 (v := 24) (by decide) 51 rfl ?_
            refine g_icmp_ne hX dM_shape_51 58 54 (by decide) rfl (fun c51 => ?_) (fun c51 => ?_)
            · refine g_iconst hX dM_shape_58 (v := 0) (by decide) 59 rfl ?_
              refine g_put0 hX dM_shape_59 fM_75 (w_m hW.r) (w_baseM hW 30 (by decide) (by decide)) rfl rfl (Nat.le_of_ble_eq_true rfl) 62 rfl ?_
              refine g_stepM hW 30 (q_up2 S 13 1 _) (by decide) (by decide) w_hc13 rfl (fun h hW => ?_)
              refine g_aload_n hX dM_shape_62 rfl rfl (by first | rfl | exact g_rfr _) 63 rfl ?_
              refine g_get hX dM_shape_63 fM_75 (w_m hW.r) rfl 66 rfl ?_
              refine g_if_le hX dM_shape_66 71 69 (by decide) rfl (fun c66 => ?_) (fun c66 => ?_)
              · refine g_aload_n hX dM_shape_71 rfl rfl (by first | rfl | exact g_rfr _) 72 rfl ?_
                refine g_get hX dM_shape_72 fM_16 (w_m hW.r) rfl 75 rfl ?_
                refine g_aload_n hX dM_shape_75 rfl rfl (by first | rfl | exact g_rfr _) 76 rfl ?_
                refine g_get hX dM_shape_76 fM_82 (w_m hW.r) rfl 79 rfl ?_
                refine g_iload_n hX dM_shape_79 rfl rfl 80 rfl ?_
                refine g_iast hX dM_shape_80 (w_ar hW.r 33 (by decide)) (w_baseM hW 33 (by decide) (by decide)) (g_ix.nat hn (by decide)) 81 rfl ?_
                refine g_stepM hW 33 (q_up1 (q_up2 S 13 1 0) 2 (q_ns S) p) (by decide) (by decide) w_hn2 (by rw [q_updn]; rfl) (fun h hW => ?_)
                refine g_aload_n hX dM_shape_81 rfl rfl (by first | rfl | exact g_rfr _) 82 rfl ?_
                refine g_get hX dM_shape_82 fM_19 (w_m hW.r) rfl 85 rfl ?_
                refine g_aload_n hX dM_shape_85 rfl rfl (by first | rfl | exact g_rfr _) 86 rfl ?_
                refine g_get hX dM_shape_86 fM_82 (w_m hW.r) rfl 89 rfl ?_
                refine g_iload_n hX dM_shape_89 rfl rfl 90 rfl ?_
                refine g_iast hX dM_shape_90 (w_ar hW.r 34 (by decide)) (w_baseM hW 34 (by decide) (by decide)) (g_ix.nat hn (by decide)) 91 rfl ?_
                refine g_stepM hW 34 (q_up2 (q_up1 (q_up2 S 13 1 0) 2 (q_ns S) p) 1 (q_ns S) s) (by decide) (by decide) w_hv1 rfl (fun h hW => ?_)
                refine g_aload_n hX dM_shape_91 rfl rfl (by first | rfl | exact g_rfr _) 92 rfl ?_
                refine g_get hX dM_shape_92 fM_33 (w_m hW.r) rfl 95 rfl ?_
                refine g_aload_n hX dM_shape_95 rfl rfl (by first | rfl | exact g_rfr _) 96 rfl ?_
                refine g_get hX dM_shape_96 fM_82 (w_m hW.r) rfl 99 rfl ?_
                refine g_iconst hX dM_shape_99 (v := 0) (by decide) 100 rfl ?_
                refine g_iast hX dM_shape_100 (w_ar hW.r 38 (by decide)) (w_baseM hW 38 (by decide) (by decide)) (g_ix.nat hn (by decide)) 101 rfl ?_
                refine g_stepM hW 38 (q_up1 (q_up2 (q_up1 (q_up2 S 13 1 0) 2 (q_ns S) p) 1 (q_ns S) s) 3 (q_ns S) 0) (by decide) (by decide) w_hn3 (congrArg (g_ints E 24) (q_updn (S.1 3) (q_ns S) 0)) (fun h hW => ?_)
                refine g_aload_n hX dM_shape_101 rfl rfl (by first | rfl | exact g_rfr _) 102 rfl ?_
                refine g_dup hX dM_shape_102 rfl 103 rfl ?_
                refine g_get hX dM_shape_103 fM_82 (w_m hW.r) rfl 106 rfl ?_
                refine g_iconst hX dM_shape_106 (v := 1) (by decide) 107 rfl ?_
                refine g_iadd hX dM_shape_107 108 rfl ?_
                refine g_put0 hX dM_shape_108 fM_82 (w_m hW.r) (w_baseM hW 30 (by decide) (by decide)) rfl rfl (Nat.le_of_ble_eq_true rfl) 111 rfl ?_
                refine g_stepM hW 30 (q_up1 (q_up1 (q_up2 (q_up1 (q_up2 S 13 1 0) 2 (q_ns S) p) 1 (q_ns S) s) 3 (q_ns S) 0) 0 1 (q_ns S + 1)) (by decide) (by decide) w_hc0 (by rw [nI_1]; rfl) (fun h hW => ?_)
                refine g_aload_n hX dM_shape_111 rfl rfl (by first | rfl | exact g_rfr _) 112 rfl ?_
                refine g_get hX dM_shape_112 fM_82 (w_m hW.r) rfl 115 rfl ?_
                refine g_iconst hX dM_shape_115 (v := 1) (by decide) 116 rfl ?_
                refine g_isub hX dM_shape_116 117 rfl ?_
                exact g_iret hX rfl rfl dM_shape_117 ⟨by rw [← nI_pred (q_ns S)]; rfl, hW⟩ rfl (Nat.zero_le _) (Nat.zero_le _)
              · exact absurd (show (0 : Int32) ≤ 0 by decide) c66
            · exact absurd (q_inj (b := 24) c51 (show q_ns S < 2 ^ 31 by omega) (by decide)) (show ¬ q_ns S = 24 by omega)
          · exact absurd hx (fun q => q.elim c29 (fun q => c38 (q_oin' q)))
      · contradiction
  · exact absurd (r_noPage_ok hB hp) c6
set_option maxRecDepth 100000 in
set_option maxHeartbeats 4000000 in
theorem c_M_effect_1 {l : Launch} (hl : l.stackTraces = false) {E : g_E} {A : w_A} {Sc S : q_S} {h : g_H} (hW : w_W E A Sc S h) (hB : w_B S) {s : Int32} (k t w d : Int32) (hs : r_noShape S s = 1) : g_Ct l mM_effect 1 14 0 0 [.ref (A 30 0), .int s, .int k, .int t, .int w, .int d] E h (false, fun r h' => r = .inr (some (.int 0)) ∧ w_W E A Sc (q_up2 S 13 1 1) h') := by
  refine g_Ct.of hl (by decide) rfl (Nat.le_of_ble_eq_true rfl) ?_
  intro X hX hXl hR
  obtain ⟨hnp, hns, hne, hpar, hhome, hact⟩ := id hB
  show g_Go E X _ h true 0 0 0 [some (.ref (A 30 0)), some (.int s), some (.int k), some (.int t), some (.int w), some (.int d), none] []
  refine g_iload_n hX dM_effect_0 rfl rfl 1 rfl ?_
  refine g_if_lt hX dM_effect_1 46 4 (by decide) rfl (fun c1 => ?_) (fun c1 => ?_)
  · refine g_iconst hX dM_effect_46 (v := 0) (by decide) 47 rfl ?_
    refine g_istore hX (L' := [_, _, _, _, _, _, _]) dM_effect_47 (by decide) rfl 49 rfl ?_
    refine g_aload_n hX dM_effect_49 rfl rfl (by first | rfl | exact g_rfr _) 50 rfl ?_
    refine g_aload_n hX dM_effect_50 rfl rfl (by first | rfl | exact g_rfr _) 51 rfl ?_
    refine g_iload_n hX dM_effect_51 rfl rfl 52 rfl ?_
    refine g_cV1r (wt := 1) hX (c_M_noShape hX.tr hW.r hB _) dM_effect_52 (w_m hW.r) kM_98 (g_rm.of hR (by decide) (by decide)) (by first | exact Nat.zero_le _ | (rw [hR]; decide)) (by first | exact Nat.zero_le _ | (rw [hR]; decide)) (by first | decide | (simp [Value.category])) 55 rfl ?_
    refine g_if_eq hX dM_effect_55 62 58 (by decide) rfl (fun c55 => ?_) (fun c55 => ?_)
    · exact absurd (c55.symm.trans hs) (by decide)
    · refine g_iconst hX dM_effect_58 (v := 1) (by decide) 59 rfl ?_
      refine g_goto hX dM_effect_59 104 (by decide) ?_
      refine g_put0 hX dM_effect_104 fM_75 (w_m hW.r) (w_baseM hW 30 (by decide) (by decide)) rfl rfl (Nat.le_of_ble_eq_true rfl) 107 rfl ?_
      refine g_stepM hW 30 (q_up2 S 13 1 _) (by decide) (by decide) w_hc13 rfl (fun h hW => ?_)
      refine g_aload_n hX dM_effect_107 rfl rfl (by first | rfl | exact g_rfr _) 108 rfl ?_
      refine g_get hX dM_effect_108 fM_75 (w_m hW.r) rfl 111 rfl ?_
      refine g_if_le hX dM_effect_111 116 114 (by decide) rfl (fun c111 => ?_) (fun c111 => ?_)
      · exact absurd c111 (show ¬ (1 : Int32) ≤ 0 by decide)
      · refine g_iconst hX dM_effect_114 (v := 0) (by decide) 115 rfl ?_
        exact g_iret hX rfl rfl dM_effect_115 ⟨rfl, hW⟩ rfl (Nat.zero_le _) (Nat.zero_le _)
  · refine g_iload_n hX dM_effect_4 rfl rfl 5 rfl ?_
    refine g_iconst hX dM_effect_5 (v := 3) (by decide) 6 rfl ?_
    refine g_icmp_gt hX dM_effect_6 46 9 (by decide) rfl (fun c6 => ?_) (fun c6 => ?_)
    · refine g_iconst hX dM_effect_46 (v := 0) (by decide) 47 rfl ?_
      refine g_istore hX (L' := [_, _, _, _, _, _, _]) dM_effect_47 (by decide) rfl 49 rfl ?_
      refine g_aload_n hX dM_effect_49 rfl rfl (by first | rfl | exact g_rfr _) 50 rfl ?_
      refine g_aload_n hX dM_effect_50 rfl rfl (by first | rfl | exact g_rfr _) 51 rfl ?_
      refine g_iload_n hX dM_effect_51 rfl rfl 52 rfl ?_
      refine g_cV1r (wt := 1) hX (c_M_noShape hX.tr hW.r hB _) dM_effect_52 (w_m hW.r) kM_98 (g_rm.of hR (by decide) (by decide)) (by first | exact Nat.zero_le _ | (rw [hR]; decide)) (by first | exact Nat.zero_le _ | (rw [hR]; decide)) (by first | decide | (simp [Value.category])) 55 rfl ?_
      refine g_if_eq hX dM_effect_55 62 58 (by decide) rfl (fun c55 => ?_) (fun c55 => ?_)
      · exact absurd (c55.symm.trans hs) (by decide)
      · refine g_iconst hX dM_effect_58 (v := 1) (by decide) 59 rfl ?_
        refine g_goto hX dM_effect_59 104 (by decide) ?_
        refine g_put0 hX dM_effect_104 fM_75 (w_m hW.r) (w_baseM hW 30 (by decide) (by decide)) rfl rfl (Nat.le_of_ble_eq_true rfl) 107 rfl ?_
        refine g_stepM hW 30 (q_up2 S 13 1 _) (by decide) (by decide) w_hc13 rfl (fun h hW => ?_)
        refine g_aload_n hX dM_effect_107 rfl rfl (by first | rfl | exact g_rfr _) 108 rfl ?_
        refine g_get hX dM_effect_108 fM_75 (w_m hW.r) rfl 111 rfl ?_
        refine g_if_le hX dM_effect_111 116 114 (by decide) rfl (fun c111 => ?_) (fun c111 => ?_)
        · exact absurd c111 (show ¬ (1 : Int32) ≤ 0 by decide)
        · refine g_iconst hX dM_effect_114 (v := 0) (by decide) 115 rfl ?_
          exact g_iret hX rfl rfl dM_effect_115 ⟨rfl, hW⟩ rfl (Nat.zero_le _) (Nat.zero_le _)
    · refine g_iload_n hX dM_effect_9 rfl rfl 10 rfl ?_
      refine g_if_lt hX dM_effect_10 46 13 (by decide) rfl (fun c10 => ?_) (fun c10 => ?_)
      · refine g_iconst hX dM_effect_46 (v := 0) (by decide) 47 rfl ?_
        refine g_istore hX (L' := [_, _, _, _, _, _, _]) dM_effect_47 (by decide) rfl 49 rfl ?_
        refine g_aload_n hX dM_effect_49 rfl rfl (by first | rfl | exact g_rfr _) 50 rfl ?_
        refine g_aload_n hX dM_effect_50 rfl rfl (by first | rfl | exact g_rfr _) 51 rfl ?_
        refine g_iload_n hX dM_effect_51 rfl rfl 52 rfl ?_
        refine g_cV1r (wt := 1) hX (c_M_noShape hX.tr hW.r hB _) dM_effect_52 (w_m hW.r) kM_98 (g_rm.of hR (by decide) (by decide)) (by first | exact Nat.zero_le _ | (rw [hR]; decide)) (by first | exact Nat.zero_le _ | (rw [hR]; decide)) (by first | decide | (simp [Value.category])) 55 rfl ?_
        refine g_if_eq hX dM_effect_55 62 58 (by decide) rfl (fun c55 => ?_) (fun c55 => ?_)
        · exact absurd (c55.symm.trans hs) (by decide)
        · refine g_iconst hX dM_effect_58 (v := 1) (by decide) 59 rfl ?_
          refine g_goto hX dM_effect_59 104 (by decide) ?_
          refine g_put0 hX dM_effect_104 fM_75 (w_m hW.r) (w_baseM hW 30 (by decide) (by decide)) rfl rfl (Nat.le_of_ble_eq_true rfl) 107 rfl ?_
          refine g_stepM hW 30 (q_up2 S 13 1 _) (by decide) (by decide) w_hc13 rfl (fun h hW => ?_)
          refine g_aload_n hX dM_effect_107 rfl rfl (by first | rfl | exact g_rfr _) 108 rfl ?_
          refine g_get hX dM_effect_108 fM_75 (w_m hW.r) rfl 111 rfl ?_
          refine g_if_le hX dM_effect_111 116 114 (by decide) rfl (fun c111 => ?_) (fun c111 => ?_)
          · exact absurd c111 (show ¬ (1 : Int32) ≤ 0 by decide)
          · refine g_iconst hX dM_effect_114 (v := 0) (by decide) 115 rfl ?_
            exact g_iret hX rfl rfl dM_effect_115 ⟨rfl, hW⟩ rfl (Nat.zero_le _) (Nat.zero_le _)
      · refine g_iload_n hX dM_effect_13 rfl rfl 14 rfl ?_
        refine g_iconst hX dM_effect_14 (v := 2) (by decide) 15 rfl ?_
        refine g_icmp_gt hX dM_effect_15 46 18 (by decide) rfl (fun c15 => ?_) (fun c15 => ?_)
        · refine g_iconst hX dM_effect_46 (v := 0) (by decide) 47 rfl ?_
          refine g_istore hX (L' := [_, _, _, _, _, _, _]) dM_effect_47 (by decide) rfl 49 rfl ?_
          refine g_aload_n hX dM_effect_49 rfl rfl (by first | rfl | exact g_rfr _) 50 rfl ?_
          refine g_aload_n hX dM_effect_50 rfl rfl (by first | rfl | exact g_rfr _) 51 rfl ?_
          refine g_iload_n hX dM_effect_51 rfl rfl 52 rfl ?_
          refine g_cV1r (wt := 1) hX (c_M_noShape hX.tr hW.r hB _) dM_effect_52 (w_m hW.r) kM_98 (g_rm.of hR (by decide) (by decide)) (by first | exact Nat.zero_le _ | (rw [hR]; decide)) (by first | exact Nat.zero_le _ | (rw [hR]; decide)) (by first | decide | (simp [Value.category])) 55 rfl ?_
          refine g_if_eq hX dM_effect_55 62 58 (by decide) rfl (fun c55 => ?_) (fun c55 => ?_)
          · exact absurd (c55.symm.trans hs) (by decide)
          · refine g_iconst hX dM_effect_58 (v := 1) (by decide) 59 rfl ?_
            refine g_goto hX dM_effect_59 104 (by decide) ?_
            refine g_put0 hX dM_effect_104 fM_75 (w_m hW.r) (w_baseM hW 30 (by decide) (by decide)) rfl rfl (Nat.le_of_ble_eq_true rfl) 107 rfl ?_
            refine g_stepM hW 30 (q_up2 S 13 1 _) (by decide) (by decide) w_hc13 rfl (fun h hW => ?_)
            refine g_aload_n hX dM_effect_107 rfl rfl (by first | rfl | exact g_rfr _) 108 rfl ?_
            refine g_get hX dM_effect_108 fM_75 (w_m hW.r) rfl 111 rfl ?_
            refine g_if_le hX dM_effect_111 116 114 (by decide) rfl (fun c111 => ?_) (fun c111 => ?_)
            · exact absurd c111 (show ¬ (1 : Int32) ≤ 0 by decide)
            · refine g_iconst hX dM_effect_114 (v := 0) (by decide) 115 rfl ?_
              exact g_iret hX rfl rfl dM_effect_115 ⟨rfl, hW⟩ rfl (Nat.zero_le _) (Nat.zero_le _)
        · refine g_iload hX dM_effect_18 rfl 20 rfl ?_
          refine g_if_lt hX dM_effect_20 46 23 (by decide) rfl (fun c20 => ?_) (fun c20 => ?_)
          · refine g_iconst hX dM_effect_46 (v := 0) (by decide) 47 rfl ?_
            refine g_istore hX (L' := [_, _, _, _, _, _, _]) dM_effect_47 (by decide) rfl 49 rfl ?_
            refine g_aload_n hX dM_effect_49 rfl rfl (by first | rfl | exact g_rfr _) 50 rfl ?_
            refine g_aload_n hX dM_effect_50 rfl rfl (by first | rfl | exact g_rfr _) 51 rfl ?_
            refine g_iload_n hX dM_effect_51 rfl rfl 52 rfl ?_
            refine g_cV1r (wt := 1) hX (c_M_noShape hX.tr hW.r hB _) dM_effect_52 (w_m hW.r) kM_98 (g_rm.of hR (by decide) (by decide)) (by first | exact Nat.zero_le _ | (rw [hR]; decide)) (by first | exact Nat.zero_le _ | (rw [hR]; decide)) (by first | decide | (simp [Value.category])) 55 rfl ?_
            refine g_if_eq hX dM_effect_55 62 58 (by decide) rfl (fun c55 => ?_) (fun c55 => ?_)
            · exact absurd (c55.symm.trans hs) (by decide)
            · refine g_iconst hX dM_effect_58 (v := 1) (by decide) 59 rfl ?_
              refine g_goto hX dM_effect_59 104 (by decide) ?_
              refine g_put0 hX dM_effect_104 fM_75 (w_m hW.r) (w_baseM hW 30 (by decide) (by decide)) rfl rfl (Nat.le_of_ble_eq_true rfl) 107 rfl ?_
              refine g_stepM hW 30 (q_up2 S 13 1 _) (by decide) (by decide) w_hc13 rfl (fun h hW => ?_)
              refine g_aload_n hX dM_effect_107 rfl rfl (by first | rfl | exact g_rfr _) 108 rfl ?_
              refine g_get hX dM_effect_108 fM_75 (w_m hW.r) rfl 111 rfl ?_
              refine g_if_le hX dM_effect_111 116 114 (by decide) rfl (fun c111 => ?_) (fun c111 => ?_)
              · exact absurd c111 (show ¬ (1 : Int32) ≤ 0 by decide)
              · refine g_iconst hX dM_effect_114 (v := 0) (by decide) 115 rfl ?_
                exact g_iret hX rfl rfl dM_effect_115 ⟨rfl, hW⟩ rfl (Nat.zero_le _) (Nat.zero_le _)
          · refine g_iload hX dM_effect_23 rfl 25 rfl ?_
            refine g_bipush hX dM_effect_25 (v := 50) (by decide) 27 rfl ?_
            refine g_icmp_gt hX dM_effect_27 46 30 (by decide) rfl (fun c27 => ?_) (fun c27 => ?_)
            · refine g_iconst hX dM_effect_46 (v := 0) (by decide) 47 rfl ?_
              refine g_istore hX (L' := [_, _, _, _, _, _, _]) dM_effect_47 (by decide) rfl 49 rfl ?_
              refine g_aload_n hX dM_effect_49 rfl rfl (by first | rfl | exact g_rfr _) 50 rfl ?_
              refine g_aload_n hX dM_effect_50 rfl rfl (by first | rfl | exact g_rfr _) 51 rfl ?_
              refine g_iload_n hX dM_effect_51 rfl rfl 52 rfl ?_
              refine g_cV1r (wt := 1) hX (c_M_noShape hX.tr hW.r hB _) dM_effect_52 (w_m hW.r) kM_98 (g_rm.of hR (by decide) (by decide)) (by first | exact Nat.zero_le _ | (rw [hR]; decide)) (by first | exact Nat.zero_le _ | (rw [hR]; decide)) (by first | decide | (simp [Value.category])) 55 rfl ?_
              refine g_if_eq hX dM_effect_55 62 58 (by decide) rfl (fun c55 => ?_) (fun c55 => ?_)
              · exact absurd (c55.symm.trans hs) (by decide)
              · refine g_iconst hX dM_effect_58 (v := 1) (by decide) 59 rfl ?_
                refine g_goto hX dM_effect_59 104 (by decide) ?_
                refine g_put0 hX dM_effect_104 fM_75 (w_m hW.r) (w_baseM hW 30 (by decide) (by decide)) rfl rfl (Nat.le_of_ble_eq_true rfl) 107 rfl ?_
                refine g_stepM hW 30 (q_up2 S 13 1 _) (by decide) (by decide) w_hc13 rfl (fun h hW => ?_)
                refine g_aload_n hX dM_effect_107 rfl rfl (by first | rfl | exact g_rfr _) 108 rfl ?_
                refine g_get hX dM_effect_108 fM_75 (w_m hW.r) rfl 111 rfl ?_
                refine g_if_le hX dM_effect_111 116 114 (by decide) rfl (fun c111 => ?_) (fun c111 => ?_)
                · exact absurd c111 (show ¬ (1 : Int32) ≤ 0 by decide)
                · refine g_iconst hX dM_effect_114 (v := 0) (by decide) 115 rfl ?_
                  exact g_iret hX rfl rfl dM_effect_115 ⟨rfl, hW⟩ rfl (Nat.zero_le _) (Nat.zero_le _)
            · refine g_iload hX dM_effect_30 rfl 32 rfl ?_
              refine g_if_lt hX dM_effect_32 46 35 (by decide) rfl (fun c32 => ?_) (fun c32 => ?_)
              · refine g_iconst hX dM_effect_46 (v := 0) (by decide) 47 rfl ?_
                refine g_istore hX (L' := [_, _, _, _, _, _, _]) dM_effect_47 (by decide) rfl 49 rfl ?_
                refine g_aload_n hX dM_effect_49 rfl rfl (by first | rfl | exact g_rfr _) 50 rfl ?_
                refine g_aload_n hX dM_effect_50 rfl rfl (by first | rfl | exact g_rfr _) 51 rfl ?_
                refine g_iload_n hX dM_effect_51 rfl rfl 52 rfl ?_
                refine g_cV1r (wt := 1) hX (c_M_noShape hX.tr hW.r hB _) dM_effect_52 (w_m hW.r) kM_98 (g_rm.of hR (by decide) (by decide)) (by first | exact Nat.zero_le _ | (rw [hR]; decide)) (by first | exact Nat.zero_le _ | (rw [hR]; decide)) (by first | decide | (simp [Value.category])) 55 rfl ?_
                refine g_if_eq hX dM_effect_55 62 58 (by decide) rfl (fun c55 => ?_) (fun c55 => ?_)
                · exact absurd (c55.symm.trans hs) (by decide)
                · refine g_iconst hX dM_effect_58 (v := 1) (by decide) 59 rfl ?_
                  refine g_goto hX dM_effect_59 104 (by decide) ?_
                  refine g_put0 hX dM_effect_104 fM_75 (w_m hW.r) (w_baseM hW 30 (by decide) (by decide)) rfl rfl (Nat.le_of_ble_eq_true rfl) 107 rfl ?_
                  refine g_stepM hW 30 (q_up2 S 13 1 _) (by decide) (by decide) w_hc13 rfl (fun h hW => ?_)
                  refine g_aload_n hX dM_effect_107 rfl rfl (by first | rfl | exact g_rfr _) 108 rfl ?_
                  refine g_get hX dM_effect_108 fM_75 (w_m hW.r) rfl 111 rfl ?_
                  refine g_if_le hX dM_effect_111 116 114 (by decide) rfl (fun c111 => ?_) (fun c111 => ?_)
                  · exact absurd c111 (show ¬ (1 : Int32) ≤ 0 by decide)
                  · refine g_iconst hX dM_effect_114 (v := 0) (by decide) 115 rfl ?_
                    exact g_iret hX rfl rfl dM_effect_115 ⟨rfl, hW⟩ rfl (Nat.zero_le _) (Nat.zero_le _)
              · refine g_iload hX dM_effect_35 rfl 37 rfl ?_
                refine g_bipush hX dM_effect_37 (v := 50) (by decide) 39 rfl ?_
                refine g_icmp_gt hX dM_effect_39 46 42 (by decide) rfl (fun c39 => ?_) (fun c39 => ?_)
                · refine g_iconst hX dM_effect_46 (v := 0) (by decide) 47 rfl ?_
                  refine g_istore hX (L' := [_, _, _, _, _, _, _]) dM_effect_47 (by decide) rfl 49 rfl ?_
                  refine g_aload_n hX dM_effect_49 rfl rfl (by first | rfl | exact g_rfr _) 50 rfl ?_
                  refine g_aload_n hX dM_effect_50 rfl rfl (by first | rfl | exact g_rfr _) 51 rfl ?_
                  refine g_iload_n hX dM_effect_51 rfl rfl 52 rfl ?_
                  refine g_cV1r (wt := 1) hX (c_M_noShape hX.tr hW.r hB _) dM_effect_52 (w_m hW.r) kM_98 (g_rm.of hR (by decide) (by decide)) (by first | exact Nat.zero_le _ | (rw [hR]; decide)) (by first | exact Nat.zero_le _ | (rw [hR]; decide)) (by first | decide | (simp [Value.category])) 55 rfl ?_
                  refine g_if_eq hX dM_effect_55 62 58 (by decide) rfl (fun c55 => ?_) (fun c55 => ?_)
                  · exact absurd (c55.symm.trans hs) (by decide)
                  · refine g_iconst hX dM_effect_58 (v := 1) (by decide) 59 rfl ?_
                    refine g_goto hX dM_effect_59 104 (by decide) ?_
                    refine g_put0 hX dM_effect_104 fM_75 (w_m hW.r) (w_baseM hW 30 (by decide) (by decide)) rfl rfl (Nat.le_of_ble_eq_true rfl) 107 rfl ?_
                    refine g_stepM hW 30 (q_up2 S 13 1 _) (by decide) (by decide) w_hc13 rfl (fun h hW => ?_)
                    refine g_aload_n hX dM_effect_107 rfl rfl (by first | rfl | exact g_rfr _) 108 rfl ?_
                    refine g_get hX dM_effect_108 fM_75 (w_m hW.r) rfl 111 rfl ?_
                    refine g_if_le hX dM_effect_111 116 114 (by decide) rfl (fun c111 => ?_) (fun c111 => ?_)
                    · exact absurd c111 (show ¬ (1 : Int32) ≤ 0 by decide)
                    · refine g_iconst hX dM_effect_114 (v := 0) (by decide) 115 rfl ?_
                      exact g_iret hX rfl rfl dM_effect_115 ⟨rfl, hW⟩ rfl (Nat.zero_le _) (Nat.zero_le _)
                · refine g_iconst hX dM_effect_42 (v := 1) (by decide) 43 rfl ?_
                  refine g_goto hX dM_effect_43 47 (by decide) ?_
                  refine g_istore hX (L' := [_, _, _, _, _, _, _]) dM_effect_47 (by decide) rfl 49 rfl ?_
                  refine g_aload_n hX dM_effect_49 rfl rfl (by first | rfl | exact g_rfr _) 50 rfl ?_
                  refine g_aload_n hX dM_effect_50 rfl rfl (by first | rfl | exact g_rfr _) 51 rfl ?_
                  refine g_iload_n hX dM_effect_51 rfl rfl 52 rfl ?_
                  refine g_cV1r (wt := 1) hX (c_M_noShape hX.tr hW.r hB _) dM_effect_52 (w_m hW.r) kM_98 (g_rm.of hR (by decide) (by decide)) (by first | exact Nat.zero_le _ | (rw [hR]; decide)) (by first | exact Nat.zero_le _ | (rw [hR]; decide)) (by first | decide | (simp [Value.category])) 55 rfl ?_
                  refine g_if_eq hX dM_effect_55 62 58 (by decide) rfl (fun c55 => ?_) (fun c55 => ?_)
                  · exact absurd (c55.symm.trans hs) (by decide)
                  · refine g_iconst hX dM_effect_58 (v := 1) (by decide) 59 rfl ?_
                    refine g_goto hX dM_effect_59 104 (by decide) ?_
                    refine g_put0 hX dM_effect_104 fM_75 (w_m hW.r) (w_baseM hW 30 (by decide) (by decide)) rfl rfl (Nat.le_of_ble_eq_true rfl) 107 rfl ?_
                    refine g_stepM hW 30 (q_up2 S 13 1 _) (by decide) (by decide) w_hc13 rfl (fun h hW => ?_)
                    refine g_aload_n hX dM_effect_107 rfl rfl (by first | rfl | exact g_rfr _) 108 rfl ?_
                    refine g_get hX dM_effect_108 fM_75 (w_m hW.r) rfl 111 rfl ?_
                    refine g_if_le hX dM_effect_111 116 114 (by decide) rfl (fun c111 => ?_) (fun c111 => ?_)
                    · exact absurd c111 (show ¬ (1 : Int32) ≤ 0 by decide)
                    · refine g_iconst hX dM_effect_114 (v := 0) (by decide) 115 rfl ?_
                      exact g_iret hX rfl rfl dM_effect_115 ⟨rfl, hW⟩ rfl (Nat.zero_le _) (Nat.zero_le _)
set_option maxRecDepth 100000 in
set_option maxHeartbeats 4000000 in
theorem c_M_effect_2 {l : Launch} (hl : l.stackTraces = false) {E : g_E} {A : w_A} {Sc S : q_S} {h : g_H} (hW : w_W E A Sc S h) (hB : w_B S) {j : Nat} (hj : j < q_ns S) {k t w d : Int32} (hg : k < 0 ∨ 3 < k ∨ t < 0 ∨ 2 < t ∨ w < 0 ∨ 50 < w ∨ d < 0 ∨ 50 < d) : g_Ct l mM_effect 1 14 0 0 [.ref (A 30 0), .int (nI j), .int k, .int t, .int w, .int d] E h (false, fun r h' => r = .inr (some (.int 0)) ∧ w_W E A Sc (q_up2 S 13 1 2) h') := by
  refine g_Ct.of hl (by decide) rfl (Nat.le_of_ble_eq_true rfl) ?_
  intro X hX hXl hR
  obtain ⟨hnp, hns, hne, hpar, hhome, hact⟩ := id hB
  show g_Go E X _ h true 0 0 0 [some (.ref (A 30 0)), some (.int (nI j)), some (.int k), some (.int t), some (.int w), some (.int d), none] []
  refine g_iload_n hX dM_effect_0 rfl rfl 1 rfl ?_
  refine g_if_lt hX dM_effect_1 46 4 (by decide) rfl (fun c1 => ?_) (fun c1 => ?_)
  · refine g_iconst hX dM_effect_46 (v := 0) (by decide) 47 rfl ?_
    refine g_istore hX (L' := [_, _, _, _, _, _, _]) dM_effect_47 (by decide) rfl 49 rfl ?_
    refine g_aload_n hX dM_effect_49 rfl rfl (by first | rfl | exact g_rfr _) 50 rfl ?_
    refine g_aload_n hX dM_effect_50 rfl rfl (by first | rfl | exact g_rfr _) 51 rfl ?_
    refine g_iload_n hX dM_effect_51 rfl rfl 52 rfl ?_
    refine g_cV1r (wt := 1) hX (c_M_noShape hX.tr hW.r hB _) dM_effect_52 (w_m hW.r) kM_98 (g_rm.of hR (by decide) (by decide)) (by first | exact Nat.zero_le _ | (rw [hR]; decide)) (by first | exact Nat.zero_le _ | (rw [hR]; decide)) (by first | decide | (simp [Value.category])) 55 rfl ?_
    refine g_if_eq hX dM_effect_55 62 58 (by decide) rfl (fun c55 => ?_) (fun c55 => ?_)
    · refine g_iload hX dM_effect_62 rfl 64 rfl ?_
      refine g_if_ne hX dM_effect_64 71 67 (by decide) rfl (fun c64 => ?_) (fun c64 => ?_)
      · exact absurd rfl c64
      · refine g_iconst hX dM_effect_67 (v := 2) (by decide) 68 rfl ?_
        refine g_goto hX dM_effect_68 104 (by decide) ?_
        refine g_put0 hX dM_effect_104 fM_75 (w_m hW.r) (w_baseM hW 30 (by decide) (by decide)) rfl rfl (Nat.le_of_ble_eq_true rfl) 107 rfl ?_
        refine g_stepM hW 30 (q_up2 S 13 1 _) (by decide) (by decide) w_hc13 rfl (fun h hW => ?_)
        refine g_aload_n hX dM_effect_107 rfl rfl (by first | rfl | exact g_rfr _) 108 rfl ?_
        refine g_get hX dM_effect_108 fM_75 (w_m hW.r) rfl 111 rfl ?_
        refine g_if_le hX dM_effect_111 116 114 (by decide) rfl (fun c111 => ?_) (fun c111 => ?_)
        · exact absurd c111 (show ¬ (2 : Int32) ≤ 0 by decide)
        · refine g_iconst hX dM_effect_114 (v := 0) (by decide) 115 rfl ?_
          exact g_iret hX rfl rfl dM_effect_115 ⟨rfl, hW⟩ rfl (Nat.zero_le _) (Nat.zero_le _)
    · exact absurd (r_noShape_ok hB hj) c55
  · refine g_iload_n hX dM_effect_4 rfl rfl 5 rfl ?_
    refine g_iconst hX dM_effect_5 (v := 3) (by decide) 6 rfl ?_
    refine g_icmp_gt hX dM_effect_6 46 9 (by decide) rfl (fun c6 => ?_) (fun c6 => ?_)
    · refine g_iconst hX dM_effect_46 (v := 0) (by decide) 47 rfl ?_
      refine g_istore hX (L' := [_, _, _, _, _, _, _]) dM_effect_47 (by decide) rfl 49 rfl ?_
      refine g_aload_n hX dM_effect_49 rfl rfl (by first | rfl | exact g_rfr _) 50 rfl ?_
      refine g_aload_n hX dM_effect_50 rfl rfl (by first | rfl | exact g_rfr _) 51 rfl ?_
      refine g_iload_n hX dM_effect_51 rfl rfl 52 rfl ?_
      refine g_cV1r (wt := 1) hX (c_M_noShape hX.tr hW.r hB _) dM_effect_52 (w_m hW.r) kM_98 (g_rm.of hR (by decide) (by decide)) (by first | exact Nat.zero_le _ | (rw [hR]; decide)) (by first | exact Nat.zero_le _ | (rw [hR]; decide)) (by first | decide | (simp [Value.category])) 55 rfl ?_
      refine g_if_eq hX dM_effect_55 62 58 (by decide) rfl (fun c55 => ?_) (fun c55 => ?_)
      · refine g_iload hX dM_effect_62 rfl 64 rfl ?_
        refine g_if_ne hX dM_effect_64 71 67 (by decide) rfl (fun c64 => ?_) (fun c64 => ?_)
        · exact absurd rfl c64
        · refine g_iconst hX dM_effect_67 (v := 2) (by decide) 68 rfl ?_
          refine g_goto hX dM_effect_68 104 (by decide) ?_
          refine g_put0 hX dM_effect_104 fM_75 (w_m hW.r) (w_baseM hW 30 (by decide) (by decide)) rfl rfl (Nat.le_of_ble_eq_true rfl) 107 rfl ?_
          refine g_stepM hW 30 (q_up2 S 13 1 _) (by decide) (by decide) w_hc13 rfl (fun h hW => ?_)
          refine g_aload_n hX dM_effect_107 rfl rfl (by first | rfl | exact g_rfr _) 108 rfl ?_
          refine g_get hX dM_effect_108 fM_75 (w_m hW.r) rfl 111 rfl ?_
          refine g_if_le hX dM_effect_111 116 114 (by decide) rfl (fun c111 => ?_) (fun c111 => ?_)
          · exact absurd c111 (show ¬ (2 : Int32) ≤ 0 by decide)
          · refine g_iconst hX dM_effect_114 (v := 0) (by decide) 115 rfl ?_
            exact g_iret hX rfl rfl dM_effect_115 ⟨rfl, hW⟩ rfl (Nat.zero_le _) (Nat.zero_le _)
      · exact absurd (r_noShape_ok hB hj) c55
    · refine g_iload_n hX dM_effect_9 rfl rfl 10 rfl ?_
      refine g_if_lt hX dM_effect_10 46 13 (by decide) rfl (fun c10 => ?_) (fun c10 => ?_)
      · refine g_iconst hX dM_effect_46 (v := 0) (by decide) 47 rfl ?_
        refine g_istore hX (L' := [_, _, _, _, _, _, _]) dM_effect_47 (by decide) rfl 49 rfl ?_
        refine g_aload_n hX dM_effect_49 rfl rfl (by first | rfl | exact g_rfr _) 50 rfl ?_
        refine g_aload_n hX dM_effect_50 rfl rfl (by first | rfl | exact g_rfr _) 51 rfl ?_
        refine g_iload_n hX dM_effect_51 rfl rfl 52 rfl ?_
        refine g_cV1r (wt := 1) hX (c_M_noShape hX.tr hW.r hB _) dM_effect_52 (w_m hW.r) kM_98 (g_rm.of hR (by decide) (by decide)) (by first | exact Nat.zero_le _ | (rw [hR]; decide)) (by first | exact Nat.zero_le _ | (rw [hR]; decide)) (by first | decide | (simp [Value.category])) 55 rfl ?_
        refine g_if_eq hX dM_effect_55 62 58 (by decide) rfl (fun c55 => ?_) (fun c55 => ?_)
        · refine g_iload hX dM_effect_62 rfl 64 rfl ?_
          refine g_if_ne hX dM_effect_64 71 67 (by decide) rfl (fun c64 => ?_) (fun c64 => ?_)
          · exact absurd rfl c64
          · refine g_iconst hX dM_effect_67 (v := 2) (by decide) 68 rfl ?_
            refine g_goto hX dM_effect_68 104 (by decide) ?_
            refine g_put0 hX dM_effect_104 fM_75 (w_m hW.r) (w_baseM hW 30 (by decide) (by decide)) rfl rfl (Nat.le_of_ble_eq_true rfl) 107 rfl ?_
            refine g_stepM hW 30 (q_up2 S 13 1 _) (by decide) (by decide) w_hc13 rfl (fun h hW => ?_)
            refine g_aload_n hX dM_effect_107 rfl rfl (by first | rfl | exact g_rfr _) 108 rfl ?_
            refine g_get hX dM_effect_108 fM_75 (w_m hW.r) rfl 111 rfl ?_
            refine g_if_le hX dM_effect_111 116 114 (by decide) rfl (fun c111 => ?_) (fun c111 => ?_)
            · exact absurd c111 (show ¬ (2 : Int32) ≤ 0 by decide)
            · refine g_iconst hX dM_effect_114 (v := 0) (by decide) 115 rfl ?_
              exact g_iret hX rfl rfl dM_effect_115 ⟨rfl, hW⟩ rfl (Nat.zero_le _) (Nat.zero_le _)
        · exact absurd (r_noShape_ok hB hj) c55
      · refine g_iload_n hX dM_effect_13 rfl rfl 14 rfl ?_
        refine g_iconst hX dM_effect_14 (v := 2) (by decide) 15 rfl ?_
        refine g_icmp_gt hX dM_effect_15 46 18 (by decide) rfl (fun c15 => ?_) (fun c15 => ?_)
        · refine g_iconst hX dM_effect_46 (v := 0) (by decide) 47 rfl ?_
          refine g_istore hX (L' := [_, _, _, _, _, _, _]) dM_effect_47 (by decide) rfl 49 rfl ?_
          refine g_aload_n hX dM_effect_49 rfl rfl (by first | rfl | exact g_rfr _) 50 rfl ?_
          refine g_aload_n hX dM_effect_50 rfl rfl (by first | rfl | exact g_rfr _) 51 rfl ?_
          refine g_iload_n hX dM_effect_51 rfl rfl 52 rfl ?_
          refine g_cV1r (wt := 1) hX (c_M_noShape hX.tr hW.r hB _) dM_effect_52 (w_m hW.r) kM_98 (g_rm.of hR (by decide) (by decide)) (by first | exact Nat.zero_le _ | (rw [hR]; decide)) (by first | exact Nat.zero_le _ | (rw [hR]; decide)) (by first | decide | (simp [Value.category])) 55 rfl ?_
          refine g_if_eq hX dM_effect_55 62 58 (by decide) rfl (fun c55 => ?_) (fun c55 => ?_)
          · refine g_iload hX dM_effect_62 rfl 64 rfl ?_
            refine g_if_ne hX dM_effect_64 71 67 (by decide) rfl (fun c64 => ?_) (fun c64 => ?_)
            · exact absurd rfl c64
            · refine g_iconst hX dM_effect_67 (v := 2) (by decide) 68 rfl ?_
              refine g_goto hX dM_effect_68 104 (by decide) ?_
              refine g_put0 hX dM_effect_104 fM_75 (w_m hW.r) (w_baseM hW 30 (by decide) (by decide)) rfl rfl (Nat.le_of_ble_eq_true rfl) 107 rfl ?_
              refine g_stepM hW 30 (q_up2 S 13 1 _) (by decide) (by decide) w_hc13 rfl (fun h hW => ?_)
              refine g_aload_n hX dM_effect_107 rfl rfl (by first | rfl | exact g_rfr _) 108 rfl ?_
              refine g_get hX dM_effect_108 fM_75 (w_m hW.r) rfl 111 rfl ?_
              refine g_if_le hX dM_effect_111 116 114 (by decide) rfl (fun c111 => ?_) (fun c111 => ?_)
              · exact absurd c111 (show ¬ (2 : Int32) ≤ 0 by decide)
              · refine g_iconst hX dM_effect_114 (v := 0) (by decide) 115 rfl ?_
                exact g_iret hX rfl rfl dM_effect_115 ⟨rfl, hW⟩ rfl (Nat.zero_le _) (Nat.zero_le _)
          · exact absurd (r_noShape_ok hB hj) c55
        · refine g_iload hX dM_effect_18 rfl 20 rfl ?_
          refine g_if_lt hX dM_effect_20 46 23 (by decide) rfl (fun c20 => ?_) (fun c20 => ?_)
          · refine g_iconst hX dM_effect_46 (v := 0) (by decide) 47 rfl ?_
            refine g_istore hX (L' := [_, _, _, _, _, _, _]) dM_effect_47 (by decide) rfl 49 rfl ?_
            refine g_aload_n hX dM_effect_49 rfl rfl (by first | rfl | exact g_rfr _) 50 rfl ?_
            refine g_aload_n hX dM_effect_50 rfl rfl (by first | rfl | exact g_rfr _) 51 rfl ?_
            refine g_iload_n hX dM_effect_51 rfl rfl 52 rfl ?_
            refine g_cV1r (wt := 1) hX (c_M_noShape hX.tr hW.r hB _) dM_effect_52 (w_m hW.r) kM_98 (g_rm.of hR (by decide) (by decide)) (by first | exact Nat.zero_le _ | (rw [hR]; decide)) (by first | exact Nat.zero_le _ | (rw [hR]; decide)) (by first | decide | (simp [Value.category])) 55 rfl ?_
            refine g_if_eq hX dM_effect_55 62 58 (by decide) rfl (fun c55 => ?_) (fun c55 => ?_)
            · refine g_iload hX dM_effect_62 rfl 64 rfl ?_
              refine g_if_ne hX dM_effect_64 71 67 (by decide) rfl (fun c64 => ?_) (fun c64 => ?_)
              · exact absurd rfl c64
              · refine g_iconst hX dM_effect_67 (v := 2) (by decide) 68 rfl ?_
                refine g_goto hX dM_effect_68 104 (by decide) ?_
                refine g_put0 hX dM_effect_104 fM_75 (w_m hW.r) (w_baseM hW 30 (by decide) (by decide)) rfl rfl (Nat.le_of_ble_eq_true rfl) 107 rfl ?_
                refine g_stepM hW 30 (q_up2 S 13 1 _) (by decide) (by decide) w_hc13 rfl (fun h hW => ?_)
                refine g_aload_n hX dM_effect_107 rfl rfl (by first | rfl | exact g_rfr _) 108 rfl ?_
                refine g_get hX dM_effect_108 fM_75 (w_m hW.r) rfl 111 rfl ?_
                refine g_if_le hX dM_effect_111 116 114 (by decide) rfl (fun c111 => ?_) (fun c111 => ?_)
                · exact absurd c111 (show ¬ (2 : Int32) ≤ 0 by decide)
                · refine g_iconst hX dM_effect_114 (v := 0) (by decide) 115 rfl ?_
                  exact g_iret hX rfl rfl dM_effect_115 ⟨rfl, hW⟩ rfl (Nat.zero_le _) (Nat.zero_le _)
            · exact absurd (r_noShape_ok hB hj) c55
          · refine g_iload hX dM_effect_23 rfl 25 rfl ?_
            refine g_bipush hX dM_effect_25 (v := 50) (by decide) 27 rfl ?_
            refine g_icmp_gt hX dM_effect_27 46 30 (by decide) rfl (fun c27 => ?_) (fun c27 => ?_)
            · refine g_iconst hX dM_effect_46 (v := 0) (by decide) 47 rfl ?_
              refine g_istore hX (L' := [_, _, _, _, _, _, _]) dM_effect_47 (by decide) rfl 49 rfl ?_
              refine g_aload_n hX dM_effect_49 rfl rfl (by first | rfl | exact g_rfr _) 50 rfl ?_
              refine g_aload_n hX dM_effect_50 rfl rfl (by first | rfl | exact g_rfr _) 51 rfl ?_
              refine g_iload_n hX dM_effect_51 rfl rfl 52 rfl ?_
              refine g_cV1r (wt := 1) hX (c_M_noShape hX.tr hW.r hB _) dM_effect_52 (w_m hW.r) kM_98 (g_rm.of hR (by decide) (by decide)) (by first | exact Nat.zero_le _ | (rw [hR]; decide)) (by first | exact Nat.zero_le _ | (rw [hR]; decide)) (by first | decide | (simp [Value.category])) 55 rfl ?_
              refine g_if_eq hX dM_effect_55 62 58 (by decide) rfl (fun c55 => ?_) (fun c55 => ?_)
              · refine g_iload hX dM_effect_62 rfl 64 rfl ?_
                refine g_if_ne hX dM_effect_64 71 67 (by decide) rfl (fun c64 => ?_) (fun c64 => ?_)
                · exact absurd rfl c64
                · refine g_iconst hX dM_effect_67 (v := 2) (by decide) 68 rfl ?_
                  refine g_goto hX dM_effect_68 104 (by decide) ?_
                  refine g_put0 hX dM_effect_104 fM_75 (w_m hW.r) (w_baseM hW 30 (by decide) (by decide)) rfl rfl (Nat.le_of_ble_eq_true rfl) 107 rfl ?_
                  refine g_stepM hW 30 (q_up2 S 13 1 _) (by decide) (by decide) w_hc13 rfl (fun h hW => ?_)
                  refine g_aload_n hX dM_effect_107 rfl rfl (by first | rfl | exact g_rfr _) 108 rfl ?_
                  refine g_get hX dM_effect_108 fM_75 (w_m hW.r) rfl 111 rfl ?_
                  refine g_if_le hX dM_effect_111 116 114 (by decide) rfl (fun c111 => ?_) (fun c111 => ?_)
                  · exact absurd c111 (show ¬ (2 : Int32) ≤ 0 by decide)
                  · refine g_iconst hX dM_effect_114 (v := 0) (by decide) 115 rfl ?_
                    exact g_iret hX rfl rfl dM_effect_115 ⟨rfl, hW⟩ rfl (Nat.zero_le _) (Nat.zero_le _)
              · exact absurd (r_noShape_ok hB hj) c55
            · refine g_iload hX dM_effect_30 rfl 32 rfl ?_
              refine g_if_lt hX dM_effect_32 46 35 (by decide) rfl (fun c32 => ?_) (fun c32 => ?_)
              · refine g_iconst hX dM_effect_46 (v := 0) (by decide) 47 rfl ?_
                refine g_istore hX (L' := [_, _, _, _, _, _, _]) dM_effect_47 (by decide) rfl 49 rfl ?_
                refine g_aload_n hX dM_effect_49 rfl rfl (by first | rfl | exact g_rfr _) 50 rfl ?_
                refine g_aload_n hX dM_effect_50 rfl rfl (by first | rfl | exact g_rfr _) 51 rfl ?_
                refine g_iload_n hX dM_effect_51 rfl rfl 52 rfl ?_
                refine g_cV1r (wt := 1) hX (c_M_noShape hX.tr hW.r hB _) dM_effect_52 (w_m hW.r) kM_98 (g_rm.of hR (by decide) (by decide)) (by first | exact Nat.zero_le _ | (rw [hR]; decide)) (by first | exact Nat.zero_le _ | (rw [hR]; decide)) (by first | decide | (simp [Value.category])) 55 rfl ?_
                refine g_if_eq hX dM_effect_55 62 58 (by decide) rfl (fun c55 => ?_) (fun c55 => ?_)
                · refine g_iload hX dM_effect_62 rfl 64 rfl ?_
                  refine g_if_ne hX dM_effect_64 71 67 (by decide) rfl (fun c64 => ?_) (fun c64 => ?_)
                  · exact absurd rfl c64
                  · refine g_iconst hX dM_effect_67 (v := 2) (by decide) 68 rfl ?_
                    refine g_goto hX dM_effect_68 104 (by decide) ?_
                    refine g_put0 hX dM_effect_104 fM_75 (w_m hW.r) (w_baseM hW 30 (by decide) (by decide)) rfl rfl (Nat.le_of_ble_eq_true rfl) 107 rfl ?_
                    refine g_stepM hW 30 (q_up2 S 13 1 _) (by decide) (by decide) w_hc13 rfl (fun h hW => ?_)
                    refine g_aload_n hX dM_effect_107 rfl rfl (by first | rfl | exact g_rfr _) 108 rfl ?_
                    refine g_get hX dM_effect_108 fM_75 (w_m hW.r) rfl 111 rfl ?_
                    refine g_if_le hX dM_effect_111 116 114 (by decide) rfl (fun c111 => ?_) (fun c111 => ?_)
                    · exact absurd c111 (show ¬ (2 : Int32) ≤ 0 by decide)
                    · refine g_iconst hX dM_effect_114 (v := 0) (by decide) 115 rfl ?_
                      exact g_iret hX rfl rfl dM_effect_115 ⟨rfl, hW⟩ rfl (Nat.zero_le _) (Nat.zero_le _)
                · exact absurd (r_noShape_ok hB hj) c55
              · refine g_iload hX dM_effect_35 rfl 37 rfl ?_
                refine g_bipush hX dM_effect_37 (v := 50) (by decide) 39 rfl ?_
                refine g_icmp_gt hX dM_effect_39 46 42 (by decide) rfl (fun c39 => ?_) (fun c39 => ?_)
                · refine g_iconst hX dM_effect_46 (v := 0) (by decide) 47 rfl ?_
                  refine g_istore hX (L' := [_, _, _, _, _, _, _]) dM_effect_47 (by decide) rfl 49 rfl ?_
                  refine g_aload_n hX dM_effect_49 rfl rfl (by first | rfl | exact g_rfr _) 50 rfl ?_
                  refine g_aload_n hX dM_effect_50 rfl rfl (by first | rfl | exact g_rfr _) 51 rfl ?_
                  refine g_iload_n hX dM_effect_51 rfl rfl 52 rfl ?_
                  refine g_cV1r (wt := 1) hX (c_M_noShape hX.tr hW.r hB _) dM_effect_52 (w_m hW.r) kM_98 (g_rm.of hR (by decide) (by decide)) (by first | exact Nat.zero_le _ | (rw [hR]; decide)) (by first | exact Nat.zero_le _ | (rw [hR]; decide)) (by first | decide | (simp [Value.category])) 55 rfl ?_
                  refine g_if_eq hX dM_effect_55 62 58 (by decide) rfl (fun c55 => ?_) (fun c55 => ?_)
                  · refine g_iload hX dM_effect_62 rfl 64 rfl ?_
                    refine g_if_ne hX dM_effect_64 71 67 (by decide) rfl (fun c64 => ?_) (fun c64 => ?_)
                    · exact absurd rfl c64
                    · refine g_iconst hX dM_effect_67 (v := 2) (by decide) 68 rfl ?_
                      refine g_goto hX dM_effect_68 104 (by decide) ?_
                      refine g_put0 hX dM_effect_104 fM_75 (w_m hW.r) (w_baseM hW 30 (by decide) (by decide)) rfl rfl (Nat.le_of_ble_eq_true rfl) 107 rfl ?_
                      refine g_stepM hW 30 (q_up2 S 13 1 _) (by decide) (by decide) w_hc13 rfl (fun h hW => ?_)
                      refine g_aload_n hX dM_effect_107 rfl rfl (by first | rfl | exact g_rfr _) 108 rfl ?_
                      refine g_get hX dM_effect_108 fM_75 (w_m hW.r) rfl 111 rfl ?_
                      refine g_if_le hX dM_effect_111 116 114 (by decide) rfl (fun c111 => ?_) (fun c111 => ?_)
                      · exact absurd c111 (show ¬ (2 : Int32) ≤ 0 by decide)
                      · refine g_iconst hX dM_effect_114 (v := 0) (by decide) 115 rfl ?_
                        exact g_iret hX rfl rfl dM_effect_115 ⟨rfl, hW⟩ rfl (Nat.zero_le _) (Nat.zero_le _)
                  · exact absurd (r_noShape_ok hB hj) c55
                · exact absurd hg (fun q => by rcases q with q | q | q | q | q | q | q | q <;> contradiction)
set_option maxRecDepth 100000 in
set_option maxHeartbeats 4000000 in
theorem c_M_effect_3 {l : Launch} (hl : l.stackTraces = false) {E : g_E} {A : w_A} {Sc S : q_S} {h : g_H} (hW : w_W E A Sc S h) (hB : w_B S) {j : Nat} (hj : j < q_ns S) {k t w d : Int32} (g1 : ¬ k < 0) (g2 : ¬ 3 < k) (g3 : ¬ t < 0) (g4 : ¬ 2 < t) (g5 : ¬ w < 0) (g6 : ¬ 50 < w) (g7 : ¬ d < 0) (g8 : ¬ 50 < d) (hp : ¬ S.2 0 (S.1 2 j) = 2) : g_Ct l mM_effect 1 14 0 0 [.ref (A 30 0), .int (nI j), .int k, .int t, .int w, .int d] E h (false, fun r h' => r = .inr (some (.int 0)) ∧ w_W E A Sc (q_up2 S 13 1 3) h') := by
  refine g_Ct.of hl (by decide) rfl (Nat.le_of_ble_eq_true rfl) ?_
  intro X hX hXl hR
  obtain ⟨hnp, hns, hne, hpar, hhome, hact⟩ := id hB
  show g_Go E X _ h true 0 0 0 [some (.ref (A 30 0)), some (.int (nI j)), some (.int k), some (.int t), some (.int w), some (.int d), none] []
  refine g_iload_n hX dM_effect_0 rfl rfl 1 rfl ?_
  refine g_if_lt hX dM_effect_1 46 4 (by decide) rfl (fun c1 => ?_) (fun c1 => ?_)
  · contradiction
  · refine g_iload_n hX dM_effect_4 rfl rfl 5 rfl ?_
    refine g_iconst hX dM_effect_5 (v := 3) (by decide) 6 rfl ?_
    refine g_icmp_gt hX dM_effect_6 46 9 (by decide) rfl (fun c6 => ?_) (fun c6 => ?_)
    · contradiction
    · refine g_iload_n hX dM_effect_9 rfl rfl 10 rfl ?_
      refine g_if_lt hX dM_effect_10 46 13 (by decide) rfl (fun c10 => ?_) (fun c10 => ?_)
      · contradiction
      · refine g_iload_n hX dM_effect_13 rfl rfl 14 rfl ?_
        refine g_iconst hX dM_effect_14 (v := 2) (by decide) 15 rfl ?_
        refine g_icmp_gt hX dM_effect_15 46 18 (by decide) rfl (fun c15 => ?_) (fun c15 => ?_)
        · contradiction
        · refine g_iload hX dM_effect_18 rfl 20 rfl ?_
          refine g_if_lt hX dM_effect_20 46 23 (by decide) rfl (fun c20 => ?_) (fun c20 => ?_)
          · contradiction
          · refine g_iload hX dM_effect_23 rfl 25 rfl ?_
            refine g_bipush hX dM_effect_25 (v := 50) (by decide) 27 rfl ?_
            refine g_icmp_gt hX dM_effect_27 46 30 (by decide) rfl (fun c27 => ?_) (fun c27 => ?_)
            · contradiction
            · refine g_iload hX dM_effect_30 rfl 32 rfl ?_
              refine g_if_lt hX dM_effect_32 46 35 (by decide) rfl (fun c32 => ?_) (fun c32 => ?_)
              · contradiction
              · refine g_iload hX dM_effect_35 rfl 37 rfl ?_
                refine g_bipush hX dM_effect_37 (v := 50) (by decide) 39 rfl ?_
                refine g_icmp_gt hX dM_effect_39 46 42 (by decide) rfl (fun c39 => ?_) (fun c39 => ?_)
                · contradiction
                · refine g_iconst hX dM_effect_42 (v := 1) (by decide) 43 rfl ?_
                  refine g_goto hX dM_effect_43 47 (by decide) ?_
                  refine g_istore hX (L' := [_, _, _, _, _, _, _]) dM_effect_47 (by decide) rfl 49 rfl ?_
                  refine g_aload_n hX dM_effect_49 rfl rfl (by first | rfl | exact g_rfr _) 50 rfl ?_
                  refine g_aload_n hX dM_effect_50 rfl rfl (by first | rfl | exact g_rfr _) 51 rfl ?_
                  refine g_iload_n hX dM_effect_51 rfl rfl 52 rfl ?_
                  refine g_cV1r (wt := 1) hX (c_M_noShape hX.tr hW.r hB _) dM_effect_52 (w_m hW.r) kM_98 (g_rm.of hR (by decide) (by decide)) (by first | exact Nat.zero_le _ | (rw [hR]; decide)) (by first | exact Nat.zero_le _ | (rw [hR]; decide)) (by first | decide | (simp [Value.category])) 55 rfl ?_
                  refine g_if_eq hX dM_effect_55 62 58 (by decide) rfl (fun c55 => ?_) (fun c55 => ?_)
                  · refine g_iload hX dM_effect_62 rfl 64 rfl ?_
                    refine g_if_ne hX dM_effect_64 71 67 (by decide) rfl (fun c64 => ?_) (fun c64 => ?_)
                    · refine g_aload_n hX dM_effect_71 rfl rfl (by first | rfl | exact g_rfr _) 72 rfl ?_
                      refine g_get hX dM_effect_72 fM_7 (w_m hW.r) rfl 75 rfl ?_
                      refine g_aload_n hX dM_effect_75 rfl rfl (by first | rfl | exact g_rfr _) 76 rfl ?_
                      refine g_get hX dM_effect_76 fM_16 (w_m hW.r) rfl 79 rfl ?_
                      refine g_iload_n hX dM_effect_79 rfl rfl 80 rfl ?_
                      refine g_iald hX dM_effect_80 (w_ar hW.r _ (by decide)) (g_ix.nat (show j < 24 by omega) (by decide)) 81 rfl ?_
                      refine g_iald hX dM_effect_81 (w_ar hW.r _ (by decide)) (g_ix.nat (show S.1 2 j < 12 by have h7 : S.1 2 j < q_np S := (hhome j hj).1; omega) (by decide)) 82 rfl ?_
                      refine g_iconst hX dM_effect_82 (v := 2) (by decide) 83 rfl ?_
                      refine g_icmp_eq hX dM_effect_83 90 86 (by decide) rfl (fun c83 => ?_) (fun c83 => ?_)
                      · exact absurd c83 hp
                      · refine g_iconst hX dM_effect_86 (v := 3) (by decide) 87 rfl ?_
                        refine g_goto hX dM_effect_87 104 (by decide) ?_
                        refine g_put0 hX dM_effect_104 fM_75 (w_m hW.r) (w_baseM hW 30 (by decide) (by decide)) rfl rfl (Nat.le_of_ble_eq_true rfl) 107 rfl ?_
                        refine g_stepM hW 30 (q_up2 S 13 1 _) (by decide) (by decide) w_hc13 rfl (fun h hW => ?_)
                        refine g_aload_n hX dM_effect_107 rfl rfl (by first | rfl | exact g_rfr _) 108 rfl ?_
                        refine g_get hX dM_effect_108 fM_75 (w_m hW.r) rfl 111 rfl ?_
                        refine g_if_le hX dM_effect_111 116 114 (by decide) rfl (fun c111 => ?_) (fun c111 => ?_)
                        · exact absurd c111 (show ¬ (3 : Int32) ≤ 0 by decide)
                        · refine g_iconst hX dM_effect_114 (v := 0) (by decide) 115 rfl ?_
                          exact g_iret hX rfl rfl dM_effect_115 ⟨rfl, hW⟩ rfl (Nat.zero_le _) (Nat.zero_le _)
                    · exact absurd c64 (by decide)
                  · exact absurd (r_noShape_ok hB hj) c55
set_option maxRecDepth 100000 in
set_option maxHeartbeats 4000000 in
theorem c_M_effect_4 {l : Launch} (hl : l.stackTraces = false) {E : g_E} {A : w_A} {Sc S : q_S} {h : g_H} (hW : w_W E A Sc S h) (hB : w_B S) {j : Nat} (hj : j < q_ns S) {k t w d : Int32} (g1 : ¬ k < 0) (g2 : ¬ 3 < k) (g3 : ¬ t < 0) (g4 : ¬ 2 < t) (g5 : ¬ w < 0) (g6 : ¬ 50 < w) (g7 : ¬ d < 0) (g8 : ¬ 50 < d) (hp : S.2 0 (S.1 2 j) = 2) (hn : q_ne S = 24) : g_Ct l mM_effect 1 14 0 0 [.ref (A 30 0), .int (nI j), .int k, .int t, .int w, .int d] E h (false, fun r h' => r = .inr (some (.int 0)) ∧ w_W E A Sc (q_up2 S 13 1 4) h') := by
  refine g_Ct.of hl (by decide) rfl (Nat.le_of_ble_eq_true rfl) ?_
  intro X hX hXl hR
  obtain ⟨hnp, hns, hne, hpar, hhome, hact⟩ := id hB
  show g_Go E X _ h true 0 0 0 [some (.ref (A 30 0)), some (.int (nI j)), some (.int k), some (.int t), some (.int w), some (.int d), none] []
  refine g_iload_n hX dM_effect_0 rfl rfl 1 rfl ?_
  refine g_if_lt hX dM_effect_1 46 4 (by decide) rfl (fun c1 => ?_) (fun c1 => ?_)
  · contradiction
  · refine g_iload_n hX dM_effect_4 rfl rfl 5 rfl ?_
    refine g_iconst hX dM_effect_5 (v := 3) (by decide) 6 rfl ?_
    refine g_icmp_gt hX dM_effect_6 46 9 (by decide) rfl (fun c6 => ?_) (fun c6 => ?_)
    · contradiction
    · refine g_iload_n hX dM_effect_9 rfl rfl 10 rfl ?_
      refine g_if_lt hX dM_effect_10 46 13 (by decide) rfl (fun c10 => ?_) (fun c10 => ?_)
      · contradiction
      · refine g_iload_n hX dM_effect_13 rfl rfl 14 rfl ?_
        refine g_iconst hX dM_effect_14 (v := 2) (by decide) 15 rfl ?_
        refine g_icmp_gt hX dM_effect_15 46 18 (by decide) rfl (fun c15 => ?_) (fun c15 => ?_)
        · contradiction
        · refine g_iload hX dM_effect_18 rfl 20 rfl ?_
          refine g_if_lt hX dM_effect_20 46 23 (by decide) rfl (fun c20 => ?_) (fun c20 => ?_)
          · contradiction
          · refine g_iload hX dM_effect_23 rfl 25 rfl ?_
            refine g_bipush hX dM_effect_25 (v := 50) (by decide) 27 rfl ?_
            refine g_icmp_gt hX dM_effect_27 46 30 (by decide) rfl (fun c27 => ?_) (fun c27 => ?_)
            · contradiction
            · refine g_iload hX dM_effect_30 rfl 32 rfl ?_
              refine g_if_lt hX dM_effect_32 46 35 (by decide) rfl (fun c32 => ?_) (fun c32 => ?_)
              · contradiction
              · refine g_iload hX dM_effect_35 rfl 37 rfl ?_
                refine g_bipush hX dM_effect_37 (v := 50) (by decide) 39 rfl ?_
                refine g_icmp_gt hX dM_effect_39 46 42 (by decide) rfl (fun c39 => ?_) (fun c39 => ?_)
                · contradiction
                · refine g_iconst hX dM_effect_42 (v := 1) (by decide) 43 rfl ?_
                  refine g_goto hX dM_effect_43 47 (by decide) ?_
                  refine g_istore hX (L' := [_, _, _, _, _, _, _]) dM_effect_47 (by decide) rfl 49 rfl ?_
                  refine g_aload_n hX dM_effect_49 rfl rfl (by first | rfl | exact g_rfr _) 50 rfl ?_
                  refine g_aload_n hX dM_effect_50 rfl rfl (by first | rfl | exact g_rfr _) 51 rfl ?_
                  refine g_iload_n hX dM_effect_51 rfl rfl 52 rfl ?_
                  refine g_cV1r (wt := 1) hX (c_M_noShape hX.tr hW.r hB _) dM_effect_52 (w_m hW.r) kM_98 (g_rm.of hR (by decide) (by decide)) (by first | exact Nat.zero_le _ | (rw [hR]; decide)) (by first | exact Nat.zero_le _ | (rw [hR]; decide)) (by first | decide | (simp [Value.category])) 55 rfl ?_
                  refine g_if_eq hX dM_effect_55 62 58 (by decide) rfl (fun c55 => ?_) (fun c55 => ?_)
                  · refine g_iload hX dM_effect_62 rfl 64 rfl ?_
                    refine g_if_ne hX dM_effect_64 71 67 (by decide) rfl (fun c64 => ?_) (fun c64 => ?_)
                    · refine g_aload_n hX dM_effect_71 rfl rfl (by first | rfl | exact g_rfr _) 72 rfl ?_
                      refine g_get hX dM_effect_72 fM_7 (w_m hW.r) rfl 75 rfl ?_
                      refine g_aload_n hX dM_effect_75 rfl rfl (by first | rfl | exact g_rfr _) 76 rfl ?_
                      refine g_get hX dM_effect_76 fM_16 (w_m hW.r) rfl 79 rfl ?_
                      refine g_iload_n hX dM_effect_79 rfl rfl 80 rfl ?_
                      refine g_iald hX dM_effect_80 (w_ar hW.r _ (by decide)) (g_ix.nat (show j < 24 by omega) (by decide)) 81 rfl ?_
                      refine g_iald hX dM_effect_81 (w_ar hW.r _ (by decide)) (g_ix.nat (show S.1 2 j < 12 by have h7 : S.1 2 j < q_np S := (hhome j hj).1; omega) (by decide)) 82 rfl ?_
                      refine g_iconst hX dM_effect_82 (v := 2) (by decide) 83 rfl ?_
                      refine g_icmp_eq hX dM_effect_83 90 86 (by decide) rfl (fun c83 => ?_) (fun c83 => ?_)
                      · refine g_aload_n hX dM_effect_90 rfl rfl (by first | rfl | exact g_rfr _) 91 rfl ?_
                        refine g_get hX dM_effect_91 fM_121 (w_m hW.r) rfl 94 rfl ?_
                        refine g_bipush hX dM_effect_94 (v := 24) (by decide) 96 rfl ?_
                        refine g_icmp_ne hX dM_effect_96 103 99 (by decide) rfl (fun c96 => ?_) (fun c96 => ?_)
                        · exact absurd (congrArg nI hn) c96
                        · refine g_iconst hX dM_effect_99 (v := 4) (by decide) 100 rfl ?_
                          refine g_goto hX dM_effect_100 104 (by decide) ?_
                          refine g_put0 hX dM_effect_104 fM_75 (w_m hW.r) (w_baseM hW 30 (by decide) (by decide)) rfl rfl (Nat.le_of_ble_eq_true rfl) 107 rfl ?_
                          refine g_stepM hW 30 (q_up2 S 13 1 _) (by decide) (by decide) w_hc13 rfl (fun h hW => ?_)
                          refine g_aload_n hX dM_effect_107 rfl rfl (by first | rfl | exact g_rfr _) 108 rfl ?_
                          refine g_get hX dM_effect_108 fM_75 (w_m hW.r) rfl 111 rfl ?_
                          refine g_if_le hX dM_effect_111 116 114 (by decide) rfl (fun c111 => ?_) (fun c111 => ?_)
                          · exact absurd c111 (show ¬ (4 : Int32) ≤ 0 by decide)
                          · refine g_iconst hX dM_effect_114 (v := 0) (by decide) 115 rfl ?_
                            exact g_iret hX rfl rfl dM_effect_115 ⟨rfl, hW⟩ rfl (Nat.zero_le _) (Nat.zero_le _)
                      · exact absurd hp c83
                    · exact absurd c64 (by decide)
                  · exact absurd (r_noShape_ok hB hj) c55
set_option maxRecDepth 100000 in
set_option maxHeartbeats 4000000 in
theorem c_M_effect_0 {l : Launch} (hl : l.stackTraces = false) {E : g_E} {A : w_A} {Sc S : q_S} {h : g_H} (hW : w_W E A Sc S h) (hB : w_B S) {j : Nat} (hj : j < q_ns S) {k t w d : Int32} (g1 : ¬ k < 0) (g2 : ¬ 3 < k) (g3 : ¬ t < 0) (g4 : ¬ 2 < t) (g5 : ¬ w < 0) (g6 : ¬ 50 < w) (g7 : ¬ d < 0) (g8 : ¬ 50 < d) (hp : S.2 0 (S.1 2 j) = 2) (hn : q_ne S < 24) : g_Ct l mM_effect 1 14 0 0 [.ref (A 30 0), .int (nI j), .int k, .int t, .int w, .int d] E h (false, fun r h' => r = .inr (some (.int (nI (q_ne S)))) ∧ w_W E A Sc (q_up1 (q_up2 (q_up2 (q_up2 (q_up2 (q_up2 (q_up1 (q_up2 S 13 1 0) 5 (q_ne S) j) 7 (q_ne S) k) 8 (q_ne S) t) 9 (q_ne S) w) 10 (q_ne S) d) 11 (q_ne S) 0) 0 2 (q_ne S + 1)) h') := by
  refine g_Ct.of hl (by decide) rfl (Nat.le_of_ble_eq_true rfl) ?_
  intro X hX hXl hR
  obtain ⟨hnp, hns, hne, hpar, hhome, hact⟩ := id hB
  show g_Go E X _ h true 0 0 0 [some (.ref (A 30 0)), some (.int (nI j)), some (.int k), some (.int t), some (.int w), some (.int d), none] []
  refine g_iload_n hX dM_effect_0 rfl rfl 1 rfl ?_
  refine g_if_lt hX dM_effect_1 46 4 (by decide) rfl (fun c1 => ?_) (fun c1 => ?_)
  · contradiction
  · refine g_iload_n hX dM_effect_4 rfl rfl 5 rfl ?_
    refine g_iconst hX dM_effect_5 (v := 3) (by decide) 6 rfl ?_
    refine g_icmp_gt hX dM_effect_6 46 9 (by decide) rfl (fun c6 => ?_) (fun c6 => ?_)
    · contradiction
    · refine g_iload_n hX dM_effect_9 rfl rfl 10 rfl ?_
      refine g_if_lt hX dM_effect_10 46 13 (by decide) rfl (fun c10 => ?_) (fun c10 => ?_)
      · contradiction
      · refine g_iload_n hX dM_effect_13 rfl rfl 14 rfl ?_
        refine g_iconst hX dM_effect_14 (v := 2) (by decide) 15 rfl ?_
        refine g_icmp_gt hX dM_effect_15 46 18 (by decide) rfl (fun c15 => ?_) (fun c15 => ?_)
        · contradiction
        · refine g_iload hX dM_effect_18 rfl 20 rfl ?_
          refine g_if_lt hX dM_effect_20 46 23 (by decide) rfl (fun c20 => ?_) (fun c20 => ?_)
          · contradiction
          · refine g_iload hX dM_effect_23 rfl 25 rfl ?_
            refine g_bipush hX dM_effect_25 (v := 50) (by decide) 27 rfl ?_
            refine g_icmp_gt hX dM_effect_27 46 30 (by decide) rfl (fun c27 => ?_) (fun c27 => ?_)
            · contradiction
            · refine g_iload hX dM_effect_30 rfl 32 rfl ?_
              refine g_if_lt hX dM_effect_32 46 35 (by decide) rfl (fun c32 => ?_) (fun c32 => ?_)
              · contradiction
              · refine g_iload hX dM_effect_35 rfl 37 rfl ?_
                refine g_bipush hX dM_effect_37 (v := 50) (by decide) 39 rfl ?_
                refine g_icmp_gt hX dM_effect_39 46 42 (by decide) rfl (fun c39 => ?_) (fun c39 => ?_)
                · contradiction
                · refine g_iconst hX dM_effect_42 (v := 1) (by decide) 43 rfl ?_
                  refine g_goto hX dM_effect_43 47 (by decide) ?_
                  refine g_istore hX (L' := [_, _, _, _, _, _, _]) dM_effect_47 (by decide) rfl 49 rfl ?_
                  refine g_aload_n hX dM_effect_49 rfl rfl (by first | rfl | exact g_rfr _) 50 rfl ?_
                  refine g_aload_n hX dM_effect_50 rfl rfl (by first | rfl | exact g_rfr _) 51 rfl ?_
                  refine g_iload_n hX dM_effect_51 rfl rfl 52 rfl ?_
                  refine g_cV1r (wt := 1) hX (c_M_noShape hX.tr hW.r hB _) dM_effect_52 (w_m hW.r) kM_98 (g_rm.of hR (by decide) (by decide)) (by first | exact Nat.zero_le _ | (rw [hR]; decide)) (by first | exact Nat.zero_le _ | (rw [hR]; decide)) (by first | decide | (simp [Value.category])) 55 rfl ?_
                  refine g_if_eq hX dM_effect_55 62 58 (by decide) rfl (fun c55 => ?_) (fun c55 => ?_)
                  · refine g_iload hX dM_effect_62 rfl 64 rfl ?_
                    refine g_if_ne hX dM_effect_64 71 67 (by decide) rfl (fun c64 => ?_) (fun c64 => ?_)
                    · refine g_aload_n hX dM_effect_71 rfl rfl (by first | rfl | exact g_rfr _) 72 rfl ?_
                      refine g_get hX dM_effect_72 fM_7 (w_m hW.r) rfl 75 rfl ?_
                      refine g_aload_n hX dM_effect_75 rfl rfl (by first | rfl | exact g_rfr _) 76 rfl ?_
                      refine g_get hX dM_effect_76 fM_16 (w_m hW.r) rfl 79 rfl ?_
                      refine g_iload_n hX dM_effect_79 rfl rfl 80 rfl ?_
                      refine g_iald hX dM_effect_80 (w_ar hW.r _ (by decide)) (g_ix.nat (show j < 24 by omega) (by decide)) 81 rfl ?_
                      refine g_iald hX dM_effect_81 (w_ar hW.r _ (by decide)) (g_ix.nat (show S.1 2 j < 12 by have h7 : S.1 2 j < q_np S := (hhome j hj).1; omega) (by decide)) 82 rfl ?_
                      refine g_iconst hX dM_effect_82 (v := 2) (by decide) 83 rfl ?_
                      refine g_icmp_eq hX dM_effect_83 90 86 (by decide) rfl (fun c83 => ?_) (fun c83 => ?_)
                      · refine g_aload_n hX dM_effect_90 rfl rfl (by first | rfl | exact g_rfr _) 91 rfl ?_
                        refine g_get hX dM_effect_91 fM_121 (w_m hW.r) rfl 94 rfl ?_
                        refine g_bipush hX dM_effect_94 (v := 24) (by decide) 96 rfl ?_
                        refine g_icmp_ne hX dM_effect_96 103 99 (by decide) rfl (fun c96 => ?_) (fun c96 => ?_)
                        · refine g_iconst hX dM_effect_103 (v := 0) (by decide) 104 rfl ?_
                          refine g_put0 hX dM_effect_104 fM_75 (w_m hW.r) (w_baseM hW 30 (by decide) (by decide)) rfl rfl (Nat.le_of_ble_eq_true rfl) 107 rfl ?_
                          refine g_stepM hW 30 (q_up2 S 13 1 _) (by decide) (by decide) w_hc13 rfl (fun h hW => ?_)
                          refine g_aload_n hX dM_effect_107 rfl rfl (by first | rfl | exact g_rfr _) 108 rfl ?_
                          refine g_get hX dM_effect_108 fM_75 (w_m hW.r) rfl 111 rfl ?_
                          refine g_if_le hX dM_effect_111 116 114 (by decide) rfl (fun c111 => ?_) (fun c111 => ?_)
                          · refine g_aload_n hX dM_effect_116 rfl rfl (by first | rfl | exact g_rfr _) 117 rfl ?_
                            refine g_get hX dM_effect_117 fM_45 (w_m hW.r) rfl 120 rfl ?_
                            refine g_aload_n hX dM_effect_120 rfl rfl (by first | rfl | exact g_rfr _) 121 rfl ?_
                            refine g_get hX dM_effect_121 fM_121 (w_m hW.r) rfl 124 rfl ?_
                            refine g_iload_n hX dM_effect_124 rfl rfl 125 rfl ?_
                            refine g_iast hX dM_effect_125 (w_ar hW.r 42 (by decide)) (w_baseM hW 42 (by decide) (by decide)) (g_ix.nat hn (by decide)) 126 rfl ?_
                            refine g_stepM hW 42 (q_up1 (q_up2 S 13 1 0) 5 (q_ne S) j) (by decide) (by decide) w_hn5 (by rw [q_updn]; rfl) (fun h hW => ?_)
                            refine g_aload_n hX dM_effect_126 rfl rfl (by first | rfl | exact g_rfr _) 127 rfl ?_
                            refine g_get hX dM_effect_127 fM_48 (w_m hW.r) rfl 130 rfl ?_
                            refine g_aload_n hX dM_effect_130 rfl rfl (by first | rfl | exact g_rfr _) 131 rfl ?_
                            refine g_get hX dM_effect_131 fM_121 (w_m hW.r) rfl 134 rfl ?_
                            refine g_iload_n hX dM_effect_134 rfl rfl 135 rfl ?_
                            refine g_iast hX dM_effect_135 (w_ar hW.r 43 (by decide)) (w_baseM hW 43 (by decide) (by decide)) (g_ix.nat hn (by decide)) 136 rfl ?_
                            refine g_stepM hW 43 (q_up2 (q_up1 (q_up2 S 13 1 0) 5 (q_ne S) j) 7 (q_ne S) k) (by decide) (by decide) w_hv7 rfl (fun h hW => ?_)
                            refine g_aload_n hX dM_effect_136 rfl rfl (by first | rfl | exact g_rfr _) 137 rfl ?_
                            refine g_get hX dM_effect_137 fM_51 (w_m hW.r) rfl 140 rfl ?_
                            refine g_aload_n hX dM_effect_140 rfl rfl (by first | rfl | exact g_rfr _) 141 rfl ?_
                            refine g_get hX dM_effect_141 fM_121 (w_m hW.r) rfl 144 rfl ?_
                            refine g_iload_n hX dM_effect_144 rfl rfl 145 rfl ?_
                            refine g_iast hX dM_effect_145 (w_ar hW.r 44 (by decide)) (w_baseM hW 44 (by decide) (by decide)) (g_ix.nat hn (by decide)) 146 rfl ?_
                            refine g_stepM hW 44 (q_up2 (q_up2 (q_up1 (q_up2 S 13 1 0) 5 (q_ne S) j) 7 (q_ne S) k) 8 (q_ne S) t) (by decide) (by decide) w_hv8 rfl (fun h hW => ?_)
                            refine g_aload_n hX dM_effect_146 rfl rfl (by first | rfl | exact g_rfr _) 147 rfl ?_
                            refine g_get hX dM_effect_147 fM_54 (w_m hW.r) rfl 150 rfl ?_
                            refine g_aload_n hX dM_effect_150 rfl rfl (by first | rfl | exact g_rfr _) 151 rfl ?_
                            refine g_get hX dM_effect_151 fM_121 (w_m hW.r) rfl 154 rfl ?_
                            refine g_iload hX dM_effect_154 rfl 156 rfl ?_
                            refine g_iast hX dM_effect_156 (w_ar hW.r 45 (by decide)) (w_baseM hW 45 (by decide) (by decide)) (g_ix.nat hn (by decide)) 157 rfl ?_
                            refine g_stepM hW 45 (q_up2 (q_up2 (q_up2 (q_up1 (q_up2 S 13 1 0) 5 (q_ne S) j) 7 (q_ne S) k) 8 (q_ne S) t) 9 (q_ne S) w) (by decide) (by decide) w_hv9 rfl (fun h hW => ?_)
                            refine g_aload_n hX dM_effect_157 rfl rfl (by first | rfl | exact g_rfr _) 158 rfl ?_
                            refine g_get hX dM_effect_158 fM_57 (w_m hW.r) rfl 161 rfl ?_
                            refine g_aload_n hX dM_effect_161 rfl rfl (by first | rfl | exact g_rfr _) 162 rfl ?_
                            refine g_get hX dM_effect_162 fM_121 (w_m hW.r) rfl 165 rfl ?_
                            refine g_iload hX dM_effect_165 rfl 167 rfl ?_
                            refine g_iast hX dM_effect_167 (w_ar hW.r 46 (by decide)) (w_baseM hW 46 (by decide) (by decide)) (g_ix.nat hn (by decide)) 168 rfl ?_
                            refine g_stepM hW 46 (q_up2 (q_up2 (q_up2 (q_up2 (q_up1 (q_up2 S 13 1 0) 5 (q_ne S) j) 7 (q_ne S) k) 8 (q_ne S) t) 9 (q_ne S) w) 10 (q_ne S) d) (by decide) (by decide) w_hv10 rfl (fun h hW => ?_)
                            refine g_aload_n hX dM_effect_168 rfl rfl (by first | rfl | exact g_rfr _) 169 rfl ?_
                            refine g_get hX dM_effect_169 fM_60 (w_m hW.r) rfl 172 rfl ?_
                            refine g_aload_n hX dM_effect_172 rfl rfl (by first | rfl | exact g_rfr _) 173 rfl ?_
                            refine g_get hX dM_effect_173 fM_121 (w_m hW.r) rfl 176 rfl ?_
                            refine g_iconst hX dM_effect_176 (v := 0) (by decide) 177 rfl ?_
                            refine g_iast hX dM_effect_177 (w_ar hW.r 47 (by decide)) (w_baseM hW 47 (by decide) (by decide)) (g_ix.nat hn (by decide)) 178 rfl ?_
                            refine g_stepM hW 47 (q_up2 (q_up2 (q_up2 (q_up2 (q_up2 (q_up1 (q_up2 S 13 1 0) 5 (q_ne S) j) 7 (q_ne S) k) 8 (q_ne S) t) 9 (q_ne S) w) 10 (q_ne S) d) 11 (q_ne S) 0) (by decide) (by decide) w_hv11 rfl (fun h hW => ?_)
                            refine g_aload_n hX dM_effect_178 rfl rfl (by first | rfl | exact g_rfr _) 179 rfl ?_
                            refine g_dup hX dM_effect_179 rfl 180 rfl ?_
                            refine g_get hX dM_effect_180 fM_121 (w_m hW.r) rfl 183 rfl ?_
                            refine g_iconst hX dM_effect_183 (v := 1) (by decide) 184 rfl ?_
                            refine g_iadd hX dM_effect_184 185 rfl ?_
                            refine g_put0 hX dM_effect_185 fM_121 (w_m hW.r) (w_baseM hW 30 (by decide) (by decide)) rfl rfl (Nat.le_of_ble_eq_true rfl) 188 rfl ?_
                            refine g_stepM hW 30 (q_up1 (q_up2 (q_up2 (q_up2 (q_up2 (q_up2 (q_up1 (q_up2 S 13 1 0) 5 (q_ne S) j) 7 (q_ne S) k) 8 (q_ne S) t) 9 (q_ne S) w) 10 (q_ne S) d) 11 (q_ne S) 0) 0 2 (q_ne S + 1)) (by decide) (by decide) w_hc0 (by rw [nI_1]; rfl) (fun h hW => ?_)
                            refine g_aload_n hX dM_effect_188 rfl rfl (by first | rfl | exact g_rfr _) 189 rfl ?_
                            refine g_get hX dM_effect_189 fM_121 (w_m hW.r) rfl 192 rfl ?_
                            refine g_iconst hX dM_effect_192 (v := 1) (by decide) 193 rfl ?_
                            refine g_isub hX dM_effect_193 194 rfl ?_
                            exact g_iret hX rfl rfl dM_effect_194 ⟨by rw [← nI_pred (q_ne S)]; rfl, hW⟩ rfl (Nat.zero_le _) (Nat.zero_le _)
                          · exact absurd (show (0 : Int32) ≤ 0 by decide) c111
                        · exact absurd (q_inj (b := 24) c96 (show q_ne S < 2 ^ 31 by omega) (by decide)) (show ¬ q_ne S = 24 by omega)
                      · exact absurd hp c83
                    · exact absurd c64 (by decide)
                  · exact absurd (r_noShape_ok hB hj) c55
set_option maxRecDepth 100000 in
set_option maxHeartbeats 4000000 in
theorem c_M_binding_1 {l : Launch} (hl : l.stackTraces = false) {E : g_E} {A : w_A} {Sc S : q_S} {h : g_H} (hW : w_W E A Sc S h) (hB : w_B S) {s : Int32} (hs : r_noShape S s = 1) : g_Ct l mM_binding 1 15 0 0 [.ref (A 30 0), .int s] E h (false, fun r h' => r = .inr (some (.int 0)) ∧ w_W E A Sc (q_up2 S 13 1 1) h') := by
  refine g_Ct.of hl (by decide) rfl (Nat.le_of_ble_eq_true rfl) ?_
  intro X hX hXl hR
  obtain ⟨hnp, hns, hne, hpar, hhome, hact⟩ := id hB
  show g_Go E X _ h true 0 0 0 [some (.ref (A 30 0)), some (.int s), none] []
  refine g_aload_n hX dM_binding_0 rfl rfl (by first | rfl | exact g_rfr _) 1 rfl ?_
  refine g_aload_n hX dM_binding_1 rfl rfl (by first | rfl | exact g_rfr _) 2 rfl ?_
  refine g_iload_n hX dM_binding_2 rfl rfl 3 rfl ?_
  refine g_cV1r (wt := 1) hX (c_M_noShape hX.tr hW.r hB _) dM_binding_3 (w_m hW.r) kM_98 (g_rm.of hR (by decide) (by decide)) (by first | exact Nat.zero_le _ | (rw [hR]; decide)) (by first | exact Nat.zero_le _ | (rw [hR]; decide)) (by first | decide | (simp [Value.category])) 6 rfl ?_
  refine g_if_eq hX dM_binding_6 13 9 (by decide) rfl (fun c6 => ?_) (fun c6 => ?_)
  · exact absurd (c6.symm.trans hs) (by decide)
  · refine g_iconst hX dM_binding_9 (v := 1) (by decide) 10 rfl ?_
    refine g_goto hX dM_binding_10 14 (by decide) ?_
    refine g_put0 hX dM_binding_14 fM_75 (w_m hW.r) (w_baseM hW 30 (by decide) (by decide)) rfl rfl (Nat.le_of_ble_eq_true rfl) 17 rfl ?_
    refine g_stepM hW 30 (q_up2 S 13 1 _) (by decide) (by decide) w_hc13 rfl (fun h hW => ?_)
    refine g_aload_n hX dM_binding_17 rfl rfl (by first | rfl | exact g_rfr _) 18 rfl ?_
    refine g_get hX dM_binding_18 fM_75 (w_m hW.r) rfl 21 rfl ?_
    refine g_if_le hX dM_binding_21 26 24 (by decide) rfl (fun c21 => ?_) (fun c21 => ?_)
    · exact absurd c21 (show ¬ (1 : Int32) ≤ 0 by decide)
    · refine g_iconst hX dM_binding_24 (v := 0) (by decide) 25 rfl ?_
      exact g_iret hX rfl rfl dM_binding_25 ⟨rfl, hW⟩ rfl (Nat.zero_le _) (Nat.zero_le _)
set_option maxRecDepth 100000 in
set_option maxHeartbeats 4000000 in
theorem c_M_binding_0a {l : Launch} (hl : l.stackTraces = false) {E : g_E} {A : w_A} {Sc S : q_S} {h : g_H} (hW : w_W E A Sc S h) (hB : w_B S) {j : Nat} (hj : j < q_ns S) (hs : S.2 1 j < 0) : g_Ct l mM_binding 1 15 0 0 [.ref (A 30 0), .int (nI j)] E h (false, fun r h' => r = .inr (some (.int (-1))) ∧ w_W E A Sc (q_up2 S 13 1 0) h') := by
  refine g_Ct.of hl (by decide) rfl (Nat.le_of_ble_eq_true rfl) ?_
  intro X hX hXl hR
  obtain ⟨hnp, hns, hne, hpar, hhome, hact⟩ := id hB
  show g_Go E X _ h true 0 0 0 [some (.ref (A 30 0)), some (.int (nI j)), none] []
  refine g_aload_n hX dM_binding_0 rfl rfl (by first | rfl | exact g_rfr _) 1 rfl ?_
  refine g_aload_n hX dM_binding_1 rfl rfl (by first | rfl | exact g_rfr _) 2 rfl ?_
  refine g_iload_n hX dM_binding_2 rfl rfl 3 rfl ?_
  refine g_cV1r (wt := 1) hX (c_M_noShape hX.tr hW.r hB _) dM_binding_3 (w_m hW.r) kM_98 (g_rm.of hR (by decide) (by decide)) (by first | exact Nat.zero_le _ | (rw [hR]; decide)) (by first | exact Nat.zero_le _ | (rw [hR]; decide)) (by first | decide | (simp [Value.category])) 6 rfl ?_
  refine g_if_eq hX dM_binding_6 13 9 (by decide) rfl (fun c6 => ?_) (fun c6 => ?_)
  · refine g_iconst hX dM_binding_13 (v := 0) (by decide) 14 rfl ?_
    refine g_put0 hX dM_binding_14 fM_75 (w_m hW.r) (w_baseM hW 30 (by decide) (by decide)) rfl rfl (Nat.le_of_ble_eq_true rfl) 17 rfl ?_
    refine g_stepM hW 30 (q_up2 S 13 1 _) (by decide) (by decide) w_hc13 rfl (fun h hW => ?_)
    refine g_aload_n hX dM_binding_17 rfl rfl (by first | rfl | exact g_rfr _) 18 rfl ?_
    refine g_get hX dM_binding_18 fM_75 (w_m hW.r) rfl 21 rfl ?_
    refine g_if_le hX dM_binding_21 26 24 (by decide) rfl (fun c21 => ?_) (fun c21 => ?_)
    · refine g_aload_n hX dM_binding_26 rfl rfl (by first | rfl | exact g_rfr _) 27 rfl ?_
      refine g_get hX dM_binding_27 fM_13 (w_m hW.r) rfl 30 rfl ?_
      refine g_aload_n hX dM_binding_30 rfl rfl (by first | rfl | exact g_rfr _) 31 rfl ?_
      refine g_get hX dM_binding_31 fM_16 (w_m hW.r) rfl 34 rfl ?_
      refine g_iload_n hX dM_binding_34 rfl rfl 35 rfl ?_
      refine g_iald hX dM_binding_35 (w_ar hW.r _ (by decide)) (g_ix.nat (show j < 24 by omega) (by decide)) 36 rfl ?_
      refine g_iald hX dM_binding_36 (w_ar hW.r _ (by decide)) (g_ix.nat (show S.1 2 j < 12 by have h7 : S.1 2 j < q_np S := (hhome j hj).1; omega) (by decide)) 37 rfl ?_
      refine g_istore_n hX (L' := [_, _, _]) dM_binding_37 rfl (by decide) rfl 38 rfl ?_
      refine g_aload_n hX dM_binding_38 rfl rfl (by first | rfl | exact g_rfr _) 39 rfl ?_
      refine g_get hX dM_binding_39 fM_19 (w_m hW.r) rfl 42 rfl ?_
      refine g_iload_n hX dM_binding_42 rfl rfl 43 rfl ?_
      refine g_iald hX dM_binding_43 (w_ar hW.r _ (by decide)) (g_ix.nat (show j < 24 by omega) (by decide)) 44 rfl ?_
      refine g_if_lt hX dM_binding_44 51 47 (by decide) rfl (fun c44 => ?_) (fun c44 => ?_)
      · refine g_iconst hX dM_binding_51 (v := (-1)) (by decide) 52 rfl ?_
        refine g_goto hX dM_binding_52 66 (by decide) ?_
        exact g_iret hX rfl rfl dM_binding_66 ⟨rfl, hW⟩ rfl (Nat.zero_le _) (Nat.zero_le _)
      · exact absurd hs c44
    · exact absurd (show (0 : Int32) ≤ 0 by decide) c21
  · exact absurd (r_noShape_ok hB hj) c6
set_option maxRecDepth 100000 in
set_option maxHeartbeats 4000000 in
theorem c_M_binding_0b {l : Launch} (hl : l.stackTraces = false) {E : g_E} {A : w_A} {Sc S : q_S} {h : g_H} (hW : w_W E A Sc S h) (hB : w_B S) {j : Nat} (hj : j < q_ns S) (hs : ¬ S.2 1 j < 0) (hq : S.1 1 (S.1 2 j) = 0) : g_Ct l mM_binding 1 15 0 0 [.ref (A 30 0), .int (nI j)] E h (false, fun r h' => r = .inr (some (.int (-1))) ∧ w_W E A Sc (q_up2 S 13 1 0) h') := by
  refine g_Ct.of hl (by decide) rfl (Nat.le_of_ble_eq_true rfl) ?_
  intro X hX hXl hR
  obtain ⟨hnp, hns, hne, hpar, hhome, hact⟩ := id hB
  show g_Go E X _ h true 0 0 0 [some (.ref (A 30 0)), some (.int (nI j)), none] []
  refine g_aload_n hX dM_binding_0 rfl rfl (by first | rfl | exact g_rfr _) 1 rfl ?_
  refine g_aload_n hX dM_binding_1 rfl rfl (by first | rfl | exact g_rfr _) 2 rfl ?_
  refine g_iload_n hX dM_binding_2 rfl rfl 3 rfl ?_
  refine g_cV1r (wt := 1) hX (c_M_noShape hX.tr hW.r hB _) dM_binding_3 (w_m hW.r) kM_98 (g_rm.of hR (by decide) (by decide)) (by first | exact Nat.zero_le _ | (rw [hR]; decide)) (by first | exact Nat.zero_le _ | (rw [hR]; decide)) (by first | decide | (simp [Value.category])) 6 rfl ?_
  refine g_if_eq hX dM_binding_6 13 9 (by decide) rfl (fun c6 => ?_) (fun c6 => ?_)
  · refine g_iconst hX dM_binding_13 (v := 0) (by decide) 14 rfl ?_
    refine g_put0 hX dM_binding_14 fM_75 (w_m hW.r) (w_baseM hW 30 (by decide) (by decide)) rfl rfl (Nat.le_of_ble_eq_true rfl) 17 rfl ?_
    refine g_stepM hW 30 (q_up2 S 13 1 _) (by decide) (by decide) w_hc13 rfl (fun h hW => ?_)
    refine g_aload_n hX dM_binding_17 rfl rfl (by first | rfl | exact g_rfr _) 18 rfl ?_
    refine g_get hX dM_binding_18 fM_75 (w_m hW.r) rfl 21 rfl ?_
    refine g_if_le hX dM_binding_21 26 24 (by decide) rfl (fun c21 => ?_) (fun c21 => ?_)
    · refine g_aload_n hX dM_binding_26 rfl rfl (by first | rfl | exact g_rfr _) 27 rfl ?_
      refine g_get hX dM_binding_27 fM_13 (w_m hW.r) rfl 30 rfl ?_
      refine g_aload_n hX dM_binding_30 rfl rfl (by first | rfl | exact g_rfr _) 31 rfl ?_
      refine g_get hX dM_binding_31 fM_16 (w_m hW.r) rfl 34 rfl ?_
      refine g_iload_n hX dM_binding_34 rfl rfl 35 rfl ?_
      refine g_iald hX dM_binding_35 (w_ar hW.r _ (by decide)) (g_ix.nat (show j < 24 by omega) (by decide)) 36 rfl ?_
      refine g_iald hX dM_binding_36 (w_ar hW.r _ (by decide)) (g_ix.nat (show S.1 2 j < 12 by have h7 : S.1 2 j < q_np S := (hhome j hj).1; omega) (by decide)) 37 rfl ?_
      refine g_istore_n hX (L' := [_, _, _]) dM_binding_37 rfl (by decide) rfl 38 rfl ?_
      refine g_aload_n hX dM_binding_38 rfl rfl (by first | rfl | exact g_rfr _) 39 rfl ?_
      refine g_get hX dM_binding_39 fM_19 (w_m hW.r) rfl 42 rfl ?_
      refine g_iload_n hX dM_binding_42 rfl rfl 43 rfl ?_
      refine g_iald hX dM_binding_43 (w_ar hW.r _ (by decide)) (g_ix.nat (show j < 24 by omega) (by decide)) 44 rfl ?_
      refine g_if_lt hX dM_binding_44 51 47 (by decide) rfl (fun c44 => ?_) (fun c44 => ?_)
      · exact absurd c44 hs
      · refine g_iload_n hX dM_binding_47 rfl rfl 48 rfl ?_
        refine g_if_ge hX dM_binding_48 55 51 (by decide) rfl (fun c48 => ?_) (fun c48 => ?_)
        · exact absurd c48 (by show ¬ 0 ≤ nI (S.1 1 (S.1 2 j)) - 1; rw [hq]; decide)
        · refine g_iconst hX dM_binding_51 (v := (-1)) (by decide) 52 rfl ?_
          refine g_goto hX dM_binding_52 66 (by decide) ?_
          exact g_iret hX rfl rfl dM_binding_66 ⟨rfl, hW⟩ rfl (Nat.zero_le _) (Nat.zero_le _)
    · exact absurd (show (0 : Int32) ≤ 0 by decide) c21
  · exact absurd (r_noShape_ok hB hj) c6
set_option maxRecDepth 100000 in
set_option maxHeartbeats 4000000 in
theorem c_M_binding_0c {l : Launch} (hl : l.stackTraces = false) {E : g_E} {A : w_A} {Sc S : q_S} {h : g_H} (hW : w_W E A Sc S h) (hB : w_B S) {j : Nat} (hj : j < q_ns S) {p : Nat} (hs : ¬ S.2 1 j < 0) (hq : S.1 1 (S.1 2 j) = p + 1) : g_Ct l mM_binding 1 15 0 0 [.ref (A 30 0), .int (nI j)] E h (false, fun r h' => r = .inr (some (.int (q_oi (q_slotted S p (S.2 1 j))))) ∧ w_W E A Sc (q_up2 S 13 1 0) h') := by
  refine g_Ct.of hl (by decide) rfl (Nat.le_of_ble_eq_true rfl) ?_
  intro X hX hXl hR
  obtain ⟨hnp, hns, hne, hpar, hhome, hact⟩ := id hB
  show g_Go E X _ h true 0 0 0 [some (.ref (A 30 0)), some (.int (nI j)), none] []
  refine g_aload_n hX dM_binding_0 rfl rfl (by first | rfl | exact g_rfr _) 1 rfl ?_
  refine g_aload_n hX dM_binding_1 rfl rfl (by first | rfl | exact g_rfr _) 2 rfl ?_
  refine g_iload_n hX dM_binding_2 rfl rfl 3 rfl ?_
  refine g_cV1r (wt := 1) hX (c_M_noShape hX.tr hW.r hB _) dM_binding_3 (w_m hW.r) kM_98 (g_rm.of hR (by decide) (by decide)) (by first | exact Nat.zero_le _ | (rw [hR]; decide)) (by first | exact Nat.zero_le _ | (rw [hR]; decide)) (by first | decide | (simp [Value.category])) 6 rfl ?_
  refine g_if_eq hX dM_binding_6 13 9 (by decide) rfl (fun c6 => ?_) (fun c6 => ?_)
  · refine g_iconst hX dM_binding_13 (v := 0) (by decide) 14 rfl ?_
    refine g_put0 hX dM_binding_14 fM_75 (w_m hW.r) (w_baseM hW 30 (by decide) (by decide)) rfl rfl (Nat.le_of_ble_eq_true rfl) 17 rfl ?_
    refine g_stepM hW 30 (q_up2 S 13 1 _) (by decide) (by decide) w_hc13 rfl (fun h hW => ?_)
    refine g_aload_n hX dM_binding_17 rfl rfl (by first | rfl | exact g_rfr _) 18 rfl ?_
    refine g_get hX dM_binding_18 fM_75 (w_m hW.r) rfl 21 rfl ?_
    refine g_if_le hX dM_binding_21 26 24 (by decide) rfl (fun c21 => ?_) (fun c21 => ?_)
    · refine g_aload_n hX dM_binding_26 rfl rfl (by first | rfl | exact g_rfr _) 27 rfl ?_
      refine g_get hX dM_binding_27 fM_13 (w_m hW.r) rfl 30 rfl ?_
      refine g_aload_n hX dM_binding_30 rfl rfl (by first | rfl | exact g_rfr _) 31 rfl ?_
      refine g_get hX dM_binding_31 fM_16 (w_m hW.r) rfl 34 rfl ?_
      refine g_iload_n hX dM_binding_34 rfl rfl 35 rfl ?_
      refine g_iald hX dM_binding_35 (w_ar hW.r _ (by decide)) (g_ix.nat (show j < 24 by omega) (by decide)) 36 rfl ?_
      refine g_iald hX dM_binding_36 (w_ar hW.r _ (by decide)) (g_ix.nat (show S.1 2 j < 12 by have h7 : S.1 2 j < q_np S := (hhome j hj).1; omega) (by decide)) 37 rfl ?_
      refine g_istore_n hX (L' := [_, _, _]) dM_binding_37 rfl (by decide) rfl 38 rfl ?_
      refine g_aload_n hX dM_binding_38 rfl rfl (by first | rfl | exact g_rfr _) 39 rfl ?_
      refine g_get hX dM_binding_39 fM_19 (w_m hW.r) rfl 42 rfl ?_
      refine g_iload_n hX dM_binding_42 rfl rfl 43 rfl ?_
      refine g_iald hX dM_binding_43 (w_ar hW.r _ (by decide)) (g_ix.nat (show j < 24 by omega) (by decide)) 44 rfl ?_
      refine g_if_lt hX dM_binding_44 51 47 (by decide) rfl (fun c44 => ?_) (fun c44 => ?_)
      · exact absurd c44 hs
      · refine g_iload_n hX dM_binding_47 rfl rfl 48 rfl ?_
        refine g_if_ge hX dM_binding_48 55 51 (by decide) rfl (fun c48 => ?_) (fun c48 => ?_)
        · refine g_aload_n hX dM_binding_55 rfl rfl (by first | rfl | exact g_rfr _) 56 rfl ?_
          refine g_iload_n hX dM_binding_56 rfl rfl 57 rfl ?_
          refine g_aload_n hX dM_binding_57 rfl rfl (by first | rfl | exact g_rfr _) 58 rfl ?_
          refine g_get hX dM_binding_58 fM_19 (w_m hW.r) rfl 61 rfl ?_
          refine g_iload_n hX dM_binding_61 rfl rfl 62 rfl ?_
          refine g_iald hX dM_binding_62 (w_ar hW.r _ (by decide)) (g_ix.nat (show j < 24 by omega) (by decide)) 63 rfl ?_
          refine g_cV2r (wt := 0) hX ((show g_Rd X.l mM_slotted 0 0 [.ref (A 30 0), .int (nI (S.1 1 (S.1 2 j)) - 1), .int (S.2 1 j)] E h (some (.int (q_oi (q_slotted (q_up2 S 13 1 0) p (S.2 1 j))))) by rw [hq, nI_pred]; exact c_M_slotted hX.tr hW.r hB (by have h8 : S.1 1 (S.1 2 j) ≤ S.1 2 j := hpar _ (hhome j hj).1; have h7 : S.1 2 j < q_np S := (hhome j hj).1; omega) _)) dM_binding_63 (w_m hW.r) kM_89 (g_rm.of hR (by decide) (by decide)) (by first | exact Nat.zero_le _ | (rw [hR]; decide)) (by first | exact Nat.zero_le _ | (rw [hR]; decide)) (by first | decide | (simp [Value.category])) 66 rfl ?_
          exact g_iret hX rfl rfl dM_binding_66 ⟨by rw [v_slotted], hW⟩ rfl (Nat.zero_le _) (Nat.zero_le _)
        · exact absurd (show 0 ≤ nI (S.1 1 (S.1 2 j)) - 1 by rw [hq, nI_pred]; exact nI_pos' (by have h8 : S.1 1 (S.1 2 j) ≤ S.1 2 j := hpar _ (hhome j hj).1; have h7 : S.1 2 j < q_np S := (hhome j hj).1; omega)) c48
    · exact absurd (show (0 : Int32) ≤ 0 by decide) c21
  · exact absurd (r_noShape_ok hB hj) c6
def q_bind (S : q_S) (j : Nat) : Option Nat := if S.2 1 j < 0 then none else match q_par S (q_home S j) with
  | none => none
  | some p => q_slotted S p (S.2 1 j)
theorem c_M_binding_0 {l : Launch} (hl : l.stackTraces = false) {E : g_E} {A : w_A} {Sc S : q_S} {h : g_H} (hW : w_W E A Sc S h) (hB : w_B S) {j : Nat} (hj : j < q_ns S) : g_Ct l mM_binding 1 15 0 0 [.ref (A 30 0), .int (nI j)] E h (false, fun r h' => r = .inr (some (.int (q_oi (q_bind S j)))) ∧ w_W E A Sc (q_up2 S 13 1 0) h') := by
  unfold q_bind
  by_cases hs : S.2 1 j < 0
  · rw [if_pos hs]
    exact c_M_binding_0a hl hW hB hj hs
  · rw [if_neg hs]
    cases hq : S.1 1 (S.1 2 j) with
    | zero =>
      rw [show q_par S (q_home S j) = none from if_pos hq]
      exact c_M_binding_0b hl hW hB hj hs hq
    | succ p =>
      rw [show q_par S (q_home S j) = some p from by unfold q_par; rw [if_neg (by rw [show S.1 1 (q_home S j) = p + 1 from hq]; omega), show S.1 1 (q_home S j) = p + 1 from hq]; rfl]
      exact c_M_binding_0c hl hW hB hj hs hq
