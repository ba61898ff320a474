set_option maxRecDepth 100000 in
set_option maxHeartbeats 4000000 in
theorem lp_S_moved {E : g_E} {A : w_A} {S Sm : q_S} {h : g_H} (hW : w_W E A S Sm h) (hB : w_B S) {X : g_X} (hX : g_ok E X mS_moved) (hR : X.R = { frames := 3, cells := 0, slots := 0, locals := 40 }) {j : Nat} (hj : j < q_ns S) (hC : w_C S) {w : Int32} : ∀ (rest pre : List Nat) (n : Int32), q_eof S j = pre ++ rest →
    g_Go E X (true, fun r' h' => r' = .inr (some (.int (rest.foldl (fun a e => if S.2 7 e = w then a + q_cp S (S.2 11 e) e else a) n))) ∧ h' = h) h true 0 0 5 [some (.ref (A 0 0)), some (.ref (A 7 j)), some (.int w), some (.int n), some (.int (nI pre.length)), none] [] := by
  obtain ⟨hnp, hns, hne, hpar, hhome, hact⟩ := id hB
  have hln := q_eof_len S j
  intro rest
  induction rest with
  | nil =>
    intro pre n hxs
    have hl1 : (q_eof S j).length = pre.length := by rw [hxs, List.append_nil]
    refine g_iload hX dS_moved_5 rfl 7 rfl ?_
    refine g_aload_n hX dS_moved_7 rfl rfl (by first | rfl | exact g_rfr _) 8 rfl ?_
    refine g_get hX dS_moved_8 fS_230 (w_c hW 7 j (by decide) hj) rfl 11 rfl ?_
    refine g_cF0r (wt := 1) hX (c_size hX.tr (w_l12 hW hB hj)) dS_moved_11 (w_l12 hW hB hj).1 kS_71 (g_rm.of hR (by decide) (by decide)) (by first | exact Nat.zero_le _ | (rw [hR]; decide)) (by first | exact Nat.zero_le _ | (rw [hR]; decide)) (by first | decide | (simp [Value.category])) 16 rfl ?_
    refine g_icmp_ge hX dS_moved_16 64 19 (by decide) rfl (fun c16 => ?_) (fun c16 => ?_)
    · refine g_iload_n hX dS_moved_64 rfl rfl 65 rfl ?_
      exact g_iret hX rfl rfl dS_moved_65 ⟨rfl, rfl⟩ rfl (Nat.zero_le _) (Nat.zero_le _)
    · exact absurd (show nI (q_eof S j).length ≤ nI pre.length by rw [hl1]; exact nI_le (Nat.le_refl _) (by omega)) c16
  | cons x rest ih =>
    intro pre n hxs
    have hx : x < q_ne S := (q_mem_eof (j := j) (by rw [hxs]; simp)).1
    have hl1 : pre.length < (q_eof S j).length := by rw [hxs]; simp
    have h5 := fun n => ih (pre ++ [x]) n (by rw [hxs]; simp)
    rw [q_snoc] at h5
    rw [List.foldl_cons]
    refine g_iload hX dS_moved_5 rfl 7 rfl ?_
    refine g_aload_n hX dS_moved_7 rfl rfl (by first | rfl | exact g_rfr _) 8 rfl ?_
    refine g_get hX dS_moved_8 fS_230 (w_c hW 7 j (by decide) hj) rfl 11 rfl ?_
    refine g_cF0r (wt := 1) hX (c_size hX.tr (w_l12 hW hB hj)) dS_moved_11 (w_l12 hW hB hj).1 kS_71 (g_rm.of hR (by decide) (by decide)) (by first | exact Nat.zero_le _ | (rw [hR]; decide)) (by first | exact Nat.zero_le _ | (rw [hR]; decide)) (by first | decide | (simp [Value.category])) 16 rfl ?_
    refine g_icmp_ge hX dS_moved_16 64 19 (by decide) rfl (fun c16 => ?_) (fun c16 => ?_)
    · exact absurd c16 (nI_ge hl1 (by omega))
    · refine g_aload_n hX dS_moved_19 rfl rfl (by first | rfl | exact g_rfr _) 20 rfl ?_
      refine g_get hX dS_moved_20 fS_230 (w_c hW 7 j (by decide) hj) rfl 23 rfl ?_
      refine g_iload hX dS_moved_23 rfl 25 rfl ?_
      refine g_cF1r (wt := 0) hX (c_get hX.tr (w_l12 hW hB hj) hxs) dS_moved_25 (w_l12 hW hB hj).1 kS_195 (g_rm.of hR (by decide) (by decide)) (by first | exact Nat.zero_le _ | (rw [hR]; decide)) (by first | exact Nat.zero_le _ | (rw [hR]; decide)) (by first | decide | (simp [Value.category])) 30 rfl ?_
      refine g_cast (ci := 4) hX dS_moved_30 rfl cS_224 (w_c hW 15 x (by decide) hx) 33 rfl ?_
      refine g_astore hX (L' := [_, _, _, _, _, _]) dS_moved_33 (by decide) (by first | rfl | exact g_rfr _) rfl 35 rfl ?_
      refine g_aload hX dS_moved_35 rfl (by first | rfl | exact g_rfr _) 37 rfl ?_
      refine g_get hX dS_moved_37 fS_341 (w_c hW 15 x (by decide) hx) rfl 40 rfl ?_
      refine g_iload_n hX dS_moved_40 rfl rfl 41 rfl ?_
      refine g_icmp_ne hX dS_moved_41 58 44 (by decide) rfl (fun c41 => ?_) (fun c41 => ?_)
      · refine g_iinc hX (L' := [_, _, _, _, _, _]) dS_moved_58 rfl (q_inc _) rfl 61 rfl ?_
        refine g_goto hX dS_moved_61 5 (by decide) ?_
        rw [if_neg (show ¬ S.2 7 x = w from c41)]
        refine g_drop (L' := [_, _, _, _, _, none]) 5 rfl ?_
        exact h5 _
      · refine g_iload_n hX dS_moved_44 rfl rfl 45 rfl ?_
        refine g_aload_n hX dS_moved_45 rfl rfl (by first | rfl | exact g_rfr _) 46 rfl ?_
        refine g_aload hX dS_moved_46 rfl (by first | rfl | exact g_rfr _) 48 rfl ?_
        refine g_aload hX dS_moved_48 rfl (by first | rfl | exact g_rfr _) 50 rfl ?_
        refine g_get hX dS_moved_50 fS_237 (w_c hW 15 x (by decide) hx) rfl 53 rfl ?_
        refine g_cV2r (wt := 1) hX (c_S_part hX.tr hW hB hx _ hC) dS_moved_53 (w_s hW) kS_342 (g_rm.of hR (by decide) (by decide)) (by first | exact Nat.zero_le _ | (rw [hR]; decide)) (by first | exact Nat.zero_le _ | (rw [hR]; decide)) (by first | decide | (simp [Value.category])) 56 rfl ?_
        refine g_iadd hX dS_moved_56 57 rfl ?_
        refine g_istore_n hX (L' := [_, _, _, _, _, _]) dS_moved_57 rfl (by decide) rfl 58 rfl ?_
        refine g_iinc hX (L' := [_, _, _, _, _, _]) dS_moved_58 rfl (q_inc _) rfl 61 rfl ?_
        refine g_goto hX dS_moved_61 5 (by decide) ?_
        rw [if_pos (show S.2 7 x = w from c41)]
        refine g_drop (L' := [_, _, _, _, _, none]) 5 rfl ?_
        exact h5 _
set_option maxRecDepth 100000 in
set_option maxHeartbeats 4000000 in
theorem c_S_moved {l : Launch} (hl : l.stackTraces = false) {E : g_E} {A : w_A} {S Sm : q_S} {h : g_H} (hW : w_W E A S Sm h) (hB : w_B S) {j : Nat} (hj : j < q_ns S) (w : Int32) (hC : w_C S) : g_Rd l mS_moved 3 40 [.ref (A 0 0), .ref (A 7 j), .int w] E h (some (.int (q_moved S j w (q_ne S)))) := by
  refine g_Rd.of hl (by decide) (by first | rfl | simp [g_rfc, Value.category]) (Nat.le_of_ble_eq_true rfl) ?_
  intro X hX hXl hR
  obtain ⟨hnp, hns, hne, hpar, hhome, hact⟩ := id hB
  show g_Go E X _ h true 0 0 0 [some (.ref (A 0 0)), some (.ref (A 7 j)), some (.int w), none, none, none] []
  refine g_iconst hX dS_moved_0 (v := 0) (by decide) 1 rfl ?_
  refine g_istore_n hX (L' := [_, _, _, _, _, _]) dS_moved_1 rfl (by decide) rfl 2 rfl ?_
  refine g_iconst hX dS_moved_2 (v := 0) (by decide) 3 rfl ?_
  refine g_istore hX (L' := [_, _, _, _, _, _]) dS_moved_3 (by decide) rfl 5 rfl ?_
  rw [q_moved_fold]
  exact lp_S_moved hW hB hX hR hj hC (q_eof S j) [] 0 rfl
set_option maxRecDepth 100000 in
set_option maxHeartbeats 4000000 in
theorem lp_S_ef {E : g_E} {A : w_A} {S Sm : q_S} {h : g_H} (hW : w_W E A S Sm h) (hB : w_B S) {X : g_X} (hX : g_ok E X mS_entersFirst) (hR : X.R = { frames := 3, cells := 0, slots := 0, locals := 40 }) {j : Nat} (hj : j < q_ns S) : ∀ (rest pre : List Nat) (v2 : Option Value), q_eof S j = pre ++ rest →
    g_Go E X (true, fun r' h' => r' = .inr (some (.int (if q_ef S rest = true then 1 else 0))) ∧ h' = h) h true 0 0 2 [some (.ref (A 7 j)), some (.int (nI pre.length)), v2] [] := by
  obtain ⟨hnp, hns, hne, hpar, hhome, hact⟩ := id hB
  have hln := q_eof_len S j
  intro rest
  induction rest with
  | nil =>
    intro pre v2 hxs
    have hl1 : (q_eof S j).length = pre.length := by rw [hxs, List.append_nil]
    refine g_iload_n hX dS_entersFirst_2 rfl rfl 3 rfl ?_
    refine g_aload_n hX dS_entersFirst_3 rfl rfl (by first | rfl | exact g_rfr _) 4 rfl ?_
    refine g_get hX dS_entersFirst_4 fS_230 (w_c hW 7 j (by decide) hj) rfl 7 rfl ?_
    refine g_cF0r (wt := 1) hX (c_size hX.tr (w_l12 hW hB hj)) dS_entersFirst_7 (w_l12 hW hB hj).1 kS_71 (g_rm.of hR (by decide) (by decide)) (by first | exact Nat.zero_le _ | (rw [hR]; decide)) (by first | exact Nat.zero_le _ | (rw [hR]; decide)) (by first | decide | (simp [Value.category])) 12 rfl ?_
    refine g_icmp_ge hX dS_entersFirst_12 57 15 (by decide) rfl (fun c12 => ?_) (fun c12 => ?_)
    · refine g_iconst hX dS_entersFirst_57 (v := 0) (by decide) 58 rfl ?_
      exact g_iret hX rfl rfl dS_entersFirst_58 ⟨rfl, rfl⟩ rfl (Nat.zero_le _) (Nat.zero_le _)
    · exact absurd (show nI (q_eof S j).length ≤ nI pre.length by rw [hl1]; exact nI_le (Nat.le_refl _) (by omega)) c12
  | cons x rest ih =>
    intro pre v2 hxs
    have hx : x < q_ne S := (q_mem_eof (j := j) (by rw [hxs]; simp)).1
    have hl1 : pre.length < (q_eof S j).length := by rw [hxs]; simp
    have h5 := fun n => ih (pre ++ [x]) n (by rw [hxs]; simp)
    rw [q_snoc] at h5
    rw [q_ef]
    refine g_iload_n hX dS_entersFirst_2 rfl rfl 3 rfl ?_
    refine g_aload_n hX dS_entersFirst_3 rfl rfl (by first | rfl | exact g_rfr _) 4 rfl ?_
    refine g_get hX dS_entersFirst_4 fS_230 (w_c hW 7 j (by decide) hj) rfl 7 rfl ?_
    refine g_cF0r (wt := 1) hX (c_size hX.tr (w_l12 hW hB hj)) dS_entersFirst_7 (w_l12 hW hB hj).1 kS_71 (g_rm.of hR (by decide) (by decide)) (by first | exact Nat.zero_le _ | (rw [hR]; decide)) (by first | exact Nat.zero_le _ | (rw [hR]; decide)) (by first | decide | (simp [Value.category])) 12 rfl ?_
    refine g_icmp_ge hX dS_entersFirst_12 57 15 (by decide) rfl (fun c12 => ?_) (fun c12 => ?_)
    · exact absurd c12 (nI_ge hl1 (by omega))
    · refine g_aload_n hX dS_entersFirst_15 rfl rfl (by first | rfl | exact g_rfr _) 16 rfl ?_
      refine g_get hX dS_entersFirst_16 fS_230 (w_c hW 7 j (by decide) hj) rfl 19 rfl ?_
      refine g_iload_n hX dS_entersFirst_19 rfl rfl 20 rfl ?_
      refine g_cF1r (wt := 0) hX (c_get hX.tr (w_l12 hW hB hj) hxs) dS_entersFirst_20 (w_l12 hW hB hj).1 kS_195 (g_rm.of hR (by decide) (by decide)) (by first | exact Nat.zero_le _ | (rw [hR]; decide)) (by first | exact Nat.zero_le _ | (rw [hR]; decide)) (by first | decide | (simp [Value.category])) 25 rfl ?_
      refine g_cast (ci := 4) hX dS_entersFirst_25 rfl cS_224 (w_c hW 15 x (by decide) hx) 28 rfl ?_
      refine g_get hX dS_entersFirst_28 fS_341 (w_c hW 15 x (by decide) hx) rfl 31 rfl ?_
      refine g_istore_n hX (L' := [_, _, _]) dS_entersFirst_31 rfl (by decide) rfl 32 rfl ?_
      refine g_iload_n hX dS_entersFirst_32 rfl rfl 33 rfl ?_
      refine g_if_eq hX dS_entersFirst_33 41 36 (by decide) rfl (fun c33 => ?_) (fun c33 => ?_)
      · refine g_iload_n hX dS_entersFirst_41 rfl rfl 42 rfl ?_
        refine g_if_ne hX dS_entersFirst_42 49 45 (by decide) rfl (fun c42 => ?_) (fun c42 => ?_)
        · exact absurd c33 c42
        · refine g_iconst hX dS_entersFirst_45 (v := 1) (by decide) 46 rfl ?_
          refine g_goto hX dS_entersFirst_46 50 (by decide) ?_
          exact g_iret hX rfl rfl dS_entersFirst_50 ⟨by rw [if_pos (show S.2 7 x = 0 from c33)]; rfl, rfl⟩ rfl (Nat.zero_le _) (Nat.zero_le _)
      · refine g_iload_n hX dS_entersFirst_36 rfl rfl 37 rfl ?_
        refine g_iconst hX dS_entersFirst_37 (v := 1) (by decide) 38 rfl ?_
        refine g_icmp_ne hX dS_entersFirst_38 51 41 (by decide) rfl (fun c38 => ?_) (fun c38 => ?_)
        · refine g_iinc hX (L' := [_, _, _]) dS_entersFirst_51 rfl (q_inc _) rfl 54 rfl ?_
          refine g_goto hX dS_entersFirst_54 2 (by decide) ?_
          rw [if_neg (show ¬ S.2 7 x = 0 from c33), if_neg (show ¬ S.2 7 x = 1 from c38)]
          exact h5 _
        · refine g_iload_n hX dS_entersFirst_41 rfl rfl 42 rfl ?_
          refine g_if_ne hX dS_entersFirst_42 49 45 (by decide) rfl (fun c42 => ?_) (fun c42 => ?_)
          · refine g_iconst hX dS_entersFirst_49 (v := 0) (by decide) 50 rfl ?_
            exact g_iret hX rfl rfl dS_entersFirst_50 ⟨by rw [if_neg (show ¬ S.2 7 x = 0 from c33), if_pos (show S.2 7 x = 1 from c38)]; rfl, rfl⟩ rfl (Nat.zero_le _) (Nat.zero_le _)
          · exact absurd c42 c33
set_option maxRecDepth 100000 in
set_option maxHeartbeats 4000000 in
theorem c_S_ef {l : Launch} (hl : l.stackTraces = false) {E : g_E} {A : w_A} {S Sm : q_S} {h : g_H} (hW : w_W E A S Sm h) (hB : w_B S) {j : Nat} (hj : j < q_ns S)  : g_Rd l mS_entersFirst 3 40 [.ref (A 7 j)] E h (some (.int (if q_ef S (q_eof S j) = true then 1 else 0))) := by
  refine g_Rd.of hl (by decide) (by first | rfl | simp [g_rfc, Value.category]) (Nat.le_of_ble_eq_true rfl) ?_
  intro X hX hXl hR
  obtain ⟨hnp, hns, hne, hpar, hhome, hact⟩ := id hB
  show g_Go E X _ h true 0 0 0 [some (.ref (A 7 j)), none, none] []
  refine g_iconst hX dS_entersFirst_0 (v := 0) (by decide) 1 rfl ?_
  refine g_istore_n hX (L' := [_, _, _]) dS_entersFirst_1 rfl (by decide) rfl 2 rfl ?_
  exact lp_S_ef hW hB hX hR hj (q_eof S j) [] none rfl
set_option maxRecDepth 100000 in
set_option maxHeartbeats 4000000 in
theorem lp_S_al {E : g_E} {A : w_A} {S Sm : q_S} {h : g_H} (hW : w_W E A S Sm h) (hB : w_B S) {X : g_X} (hX : g_ok E X mS_alphaNow) (hR : X.R = { frames := 4, cells := 0, slots := 0, locals := 54 }) {j : Nat} (hj : j < q_ns S) (hC : w_C S) {v : Int32} : ∀ (rest pre : List Nat) (n : Int32), q_eof S j = pre ++ rest →
    g_Go E X (true, fun r' h' => r' = .inr (some (.int (rest.foldl (q_al S v) n))) ∧ h' = h) h true 0 0 16 [some (.ref (A 0 0)), some (.ref (A 7 j)), some (.int v), some (.int n), some (.int (nI pre.length)), none] [] := by
  obtain ⟨hnp, hns, hne, hpar, hhome, hact⟩ := id hB
  have hln := q_eof_len S j
  intro rest
  induction rest with
  | nil =>
    intro pre n hxs
    have hl1 : (q_eof S j).length = pre.length := by rw [hxs, List.append_nil]
    refine g_iload hX dS_alphaNow_16 rfl 18 rfl ?_
    refine g_aload_n hX dS_alphaNow_18 rfl rfl (by first | rfl | exact g_rfr _) 19 rfl ?_
    refine g_get hX dS_alphaNow_19 fS_230 (w_c hW 7 j (by decide) hj) rfl 22 rfl ?_
    refine g_cF0r (wt := 1) hX (c_size hX.tr (w_l12 hW hB hj)) dS_alphaNow_22 (w_l12 hW hB hj).1 kS_71 (g_rm.of hR (by decide) (by decide)) (by first | exact Nat.zero_le _ | (rw [hR]; decide)) (by first | exact Nat.zero_le _ | (rw [hR]; decide)) (by first | decide | (simp [Value.category])) 27 rfl ?_
    refine g_icmp_ge hX dS_alphaNow_27 102 30 (by decide) rfl (fun c27 => ?_) (fun c27 => ?_)
    · refine g_iload_n hX dS_alphaNow_102 rfl rfl 103 rfl ?_
      exact g_iret hX rfl rfl dS_alphaNow_103 ⟨rfl, rfl⟩ rfl (Nat.zero_le _) (Nat.zero_le _)
    · exact absurd (show nI (q_eof S j).length ≤ nI pre.length by rw [hl1]; exact nI_le (Nat.le_refl _) (by omega)) c27
  | cons x rest ih =>
    intro pre n hxs
    have hx : x < q_ne S := (q_mem_eof (j := j) (by rw [hxs]; simp)).1
    have hl1 : pre.length < (q_eof S j).length := by rw [hxs]; simp
    have h5 := fun n => ih (pre ++ [x]) n (by rw [hxs]; simp)
    rw [q_snoc] at h5
    rw [List.foldl_cons]
    refine g_iload hX dS_alphaNow_16 rfl 18 rfl ?_
    refine g_aload_n hX dS_alphaNow_18 rfl rfl (by first | rfl | exact g_rfr _) 19 rfl ?_
    refine g_get hX dS_alphaNow_19 fS_230 (w_c hW 7 j (by decide) hj) rfl 22 rfl ?_
    refine g_cF0r (wt := 1) hX (c_size hX.tr (w_l12 hW hB hj)) dS_alphaNow_22 (w_l12 hW hB hj).1 kS_71 (g_rm.of hR (by decide) (by decide)) (by first | exact Nat.zero_le _ | (rw [hR]; decide)) (by first | exact Nat.zero_le _ | (rw [hR]; decide)) (by first | decide | (simp [Value.category])) 27 rfl ?_
    refine g_icmp_ge hX dS_alphaNow_27 102 30 (by decide) rfl (fun c27 => ?_) (fun c27 => ?_)
    · exact absurd c27 (nI_ge hl1 (by omega))
    · refine g_aload_n hX dS_alphaNow_30 rfl rfl (by first | rfl | exact g_rfr _) 31 rfl ?_
      refine g_get hX dS_alphaNow_31 fS_230 (w_c hW 7 j (by decide) hj) rfl 34 rfl ?_
      refine g_iload hX dS_alphaNow_34 rfl 36 rfl ?_
      refine g_cF1r (wt := 0) hX (c_get hX.tr (w_l12 hW hB hj) hxs) dS_alphaNow_36 (w_l12 hW hB hj).1 kS_195 (g_rm.of hR (by decide) (by decide)) (by first | exact Nat.zero_le _ | (rw [hR]; decide)) (by first | exact Nat.zero_le _ | (rw [hR]; decide)) (by first | decide | (simp [Value.category])) 41 rfl ?_
      refine g_cast (ci := 4) hX dS_alphaNow_41 rfl cS_224 (w_c hW 15 x (by decide) hx) 44 rfl ?_
      refine g_astore hX (L' := [_, _, _, _, _, _]) dS_alphaNow_44 (by decide) (by first | rfl | exact g_rfr _) rfl 46 rfl ?_
      refine g_aload_n hX dS_alphaNow_46 rfl rfl (by first | rfl | exact g_rfr _) 47 rfl ?_
      refine g_aload hX dS_alphaNow_47 rfl (by first | rfl | exact g_rfr _) 49 rfl ?_
      refine g_cV1r (wt := 0) hX (c_S_progress hX.tr hW hB hx) dS_alphaNow_49 (w_s hW) kS_256 (g_rm.of hR (by decide) (by decide)) (by first | exact Nat.zero_le _ | (rw [hR]; decide)) (by first | exact Nat.zero_le _ | (rw [hR]; decide)) (by first | decide | (simp [Value.category])) 52 rfl ?_
      refine g_if_ne hX dS_alphaNow_52 58 55 (by decide) rfl (fun c52 => ?_) (fun c52 => ?_)
      · refine g_aload hX dS_alphaNow_58 rfl (by first | rfl | exact g_rfr _) 60 rfl ?_
        refine g_get hX dS_alphaNow_60 fS_341 (w_c hW 15 x (by decide) hx) rfl 63 rfl ?_
        refine g_if_ne hX dS_alphaNow_63 77 66 (by decide) rfl (fun c63 => ?_) (fun c63 => ?_)
        · refine g_aload hX dS_alphaNow_77 rfl (by first | rfl | exact g_rfr _) 79 rfl ?_
          refine g_get hX dS_alphaNow_79 fS_341 (w_c hW 15 x (by decide) hx) rfl 82 rfl ?_
          refine g_iconst hX dS_alphaNow_82 (v := 1) (by decide) 83 rfl ?_
          refine g_icmp_ne hX dS_alphaNow_83 96 86 (by decide) rfl (fun c83 => ?_) (fun c83 => ?_)
          · refine g_iinc hX (L' := [_, _, _, _, _, _]) dS_alphaNow_96 rfl (q_inc _) rfl 99 rfl ?_
            refine g_goto hX dS_alphaNow_99 16 (by decide) ?_
            rw [show q_al S v n x = _ from by unfold q_al; rw [if_neg (show ¬ q_stage S x = 0 from c52), if_neg (show ¬ S.2 7 x = 0 from c63), if_neg (show ¬ S.2 7 x = 1 from c83)]]
            refine g_drop (L' := [_, _, _, _, _, none]) 5 rfl ?_
            exact h5 _
          · refine g_iload_n hX dS_alphaNow_86 rfl rfl 87 rfl ?_
            refine g_aload_n hX dS_alphaNow_87 rfl rfl (by first | rfl | exact g_rfr _) 88 rfl ?_
            refine g_aload hX dS_alphaNow_88 rfl (by first | rfl | exact g_rfr _) 90 rfl ?_
            refine g_iload_n hX dS_alphaNow_90 rfl rfl 91 rfl ?_
            refine g_cV2r (wt := 1) hX (c_S_part hX.tr hW hB hx _ hC) dS_alphaNow_91 (w_s hW) kS_342 (g_rm.of hR (by decide) (by decide)) (by first | exact Nat.zero_le _ | (rw [hR]; decide)) (by first | exact Nat.zero_le _ | (rw [hR]; decide)) (by first | decide | (simp [Value.category])) 94 rfl ?_
            refine g_isub hX dS_alphaNow_94 95 rfl ?_
            refine g_istore_n hX (L' := [_, _, _, _, _, _]) dS_alphaNow_95 rfl (by decide) rfl 96 rfl ?_
            refine g_iinc hX (L' := [_, _, _, _, _, _]) dS_alphaNow_96 rfl (q_inc _) rfl 99 rfl ?_
            refine g_goto hX dS_alphaNow_99 16 (by decide) ?_
            rw [show q_al S v n x = _ from by unfold q_al; rw [if_neg (show ¬ q_stage S x = 0 from c52), if_neg (show ¬ S.2 7 x = 0 from c63), if_pos (show S.2 7 x = 1 from c83)]]
            refine g_drop (L' := [_, _, _, _, _, none]) 5 rfl ?_
            exact h5 _
        · refine g_aload_n hX dS_alphaNow_66 rfl rfl (by first | rfl | exact g_rfr _) 67 rfl ?_
          refine g_aload hX dS_alphaNow_67 rfl (by first | rfl | exact g_rfr _) 69 rfl ?_
          refine g_iload_n hX dS_alphaNow_69 rfl rfl 70 rfl ?_
          refine g_cV2r (wt := 0) hX (c_S_part hX.tr hW hB hx _ hC) dS_alphaNow_70 (w_s hW) kS_342 (g_rm.of hR (by decide) (by decide)) (by first | exact Nat.zero_le _ | (rw [hR]; decide)) (by first | exact Nat.zero_le _ | (rw [hR]; decide)) (by first | decide | (simp [Value.category])) 73 rfl ?_
          refine g_istore_n hX (L' := [_, _, _, _, _, _]) dS_alphaNow_73 rfl (by decide) rfl 74 rfl ?_
          refine g_goto hX dS_alphaNow_74 96 (by decide) ?_
          refine g_iinc hX (L' := [_, _, _, _, _, _]) dS_alphaNow_96 rfl (q_inc _) rfl 99 rfl ?_
          refine g_goto hX dS_alphaNow_99 16 (by decide) ?_
          rw [show q_al S v n x = _ from by unfold q_al; rw [if_neg (show ¬ q_stage S x = 0 from c52), if_pos (show S.2 7 x = 0 from c63)]]
          refine g_drop (L' := [_, _, _, _, _, none]) 5 rfl ?_
          exact h5 _
      · refine g_goto hX dS_alphaNow_55 96 (by decide) ?_
        refine g_iinc hX (L' := [_, _, _, _, _, _]) dS_alphaNow_96 rfl (q_inc _) rfl 99 rfl ?_
        refine g_goto hX dS_alphaNow_99 16 (by decide) ?_
        rw [show q_al S v n x = _ from by unfold q_al; rw [if_pos (show q_stage S x = 0 from c52)]]
        refine g_drop (L' := [_, _, _, _, _, none]) 5 rfl ?_
        exact h5 _
set_option maxRecDepth 100000 in
set_option maxHeartbeats 4000000 in
theorem c_S_alphaNow {l : Launch} (hl : l.stackTraces = false) {E : g_E} {A : w_A} {S Sm : q_S} {h : g_H} (hW : w_W E A S Sm h) (hB : w_B S) {j : Nat} (hj : j < q_ns S) (v : Int32) (hC : w_C S) : g_Rd l mS_alphaNow 4 54 [.ref (A 0 0), .ref (A 7 j), .int v] E h (some (.int (q_shown S j v (q_ne S)).1)) := by
  refine g_Rd.of hl (by decide) (by first | rfl | simp [g_rfc, Value.category]) (Nat.le_of_ble_eq_true rfl) ?_
  intro X hX hXl hR
  obtain ⟨hnp, hns, hne, hpar, hhome, hact⟩ := id hB
  have hlp := lp_S_al hW hB hX hR hj hC (v := v) (q_eof S j) [] (if q_ef S (q_eof S j) = true then 0 else v) rfl
  rw [← q_sh_true S v (q_eof S j) (fun e he => (hC.2.2.2.1 e (q_mem_eof he).1).1), show (q_eof S j).foldl (q_sh S v) (v, true) = q_shown S j v (q_ne S) from (q_shown_fold S j v (q_ne S)).symm] at hlp
  show g_Go E X _ h true 0 0 0 [some (.ref (A 0 0)), some (.ref (A 7 j)), some (.int v), none, none, none] []
  refine g_aload_n hX dS_alphaNow_0 rfl rfl (by first | rfl | exact g_rfr _) 1 rfl ?_
  refine g_cS1r (wt := 0) hX (c_S_ef hX.tr hW hB hj) dS_alphaNow_1 kS_345 (g_rm.of hR (by decide) (by decide)) (by first | exact Nat.zero_le _ | (rw [hR]; decide)) (by first | exact Nat.zero_le _ | (rw [hR]; decide)) (by first | decide | (simp [Value.category])) 4 rfl ?_
  refine g_if_eq hX dS_alphaNow_4 11 7 (by decide) rfl (fun c4 => ?_) (fun c4 => ?_)
  · refine g_iload_n hX dS_alphaNow_11 rfl rfl 12 rfl ?_
    refine g_istore_n hX (L' := [_, _, _, _, _, _]) dS_alphaNow_12 rfl (by decide) rfl 13 rfl ?_
    refine g_iconst hX dS_alphaNow_13 (v := 0) (by decide) 14 rfl ?_
    refine g_istore hX (L' := [_, _, _, _, _, _]) dS_alphaNow_14 (by decide) rfl 16 rfl ?_
    have hef : ¬ q_ef S (q_eof S j) = true := fun q => by rw [if_pos q] at c4; exact absurd c4 (by decide)
    rw [if_neg hef] at hlp
    exact hlp
  · refine g_iconst hX dS_alphaNow_7 (v := 0) (by decide) 8 rfl ?_
    refine g_goto hX dS_alphaNow_8 12 (by decide) ?_
    refine g_istore_n hX (L' := [_, _, _, _, _, _]) dS_alphaNow_12 rfl (by decide) rfl 13 rfl ?_
    refine g_iconst hX dS_alphaNow_13 (v := 0) (by decide) 14 rfl ?_
    refine g_istore hX (L' := [_, _, _, _, _, _]) dS_alphaNow_14 (by decide) rfl 16 rfl ?_
    have hef : q_ef S (q_eof S j) = true := Classical.byContradiction fun q => c4 (by rw [if_neg q])
    rw [if_pos hef] at hlp
    exact hlp
theorem w_pgeq {E : g_E} {A : w_A} {S Sm : q_S} {h : g_H} (hW : w_W E A S Sm h) (hB : w_B S) {a : Nat} (ha : a < q_np S) {r : Option Nat} (hr : ∀ x, r = some x → x < q_np S) : (some (A 2 a) = r.map (A 2)) ↔ nI a = q_oi r := by
  have hnp := hB.1
  cases r with
  | none => exact ⟨fun q => (by cases q), fun q => absurd (show nI a < 0 by rw [q]; decide) (nI_pos (by omega))⟩
  | some x =>
    have hx := hr x rfl
    exact ⟨fun q => congrArg nI (w_ci (k := 2) (i := a) (k' := 2) (i' := x) hW (by decide) ha (by decide) hx (Option.some.inj q)).2, fun q => by rw [q_inj (show nI a = nI x from q) (by omega) (by omega)]; rfl⟩
set_option maxRecDepth 100000 in
set_option maxHeartbeats 4000000 in
theorem c_S_valueNow_n {l : Launch} (hl : l.stackTraces = false) {E : g_E} {A : w_A} {S Sm : q_S} {h : g_H} (hW : w_W E A S Sm h) (hB : w_B S) {j : Nat} (hj : j < q_ns S) {pr : Nat} (hpr : pr < 7) (hC : w_C S) (hs : ¬ nI (q_home S j) = q_oi (q_slide S (nI (q_at S)))) : g_Rd l mS_valueNow 6 84 [.ref (A 0 0), .ref (A 7 j), .int (nI pr)] E h (some (.int (q_value S j pr))) := by
  refine g_Rd.of hl (by decide) (by first | rfl | simp [g_rfc, Value.category]) (Nat.le_of_ble_eq_true rfl) ?_
  intro X hX hXl hR
  obtain ⟨hnp, hns, hne, hpar, hhome, hact⟩ := id hB
  show g_Go E X _ h true 0 0 0 [some (.ref (A 0 0)), some (.ref (A 7 j)), some (.int (nI pr)), none] []
  refine g_aload_n hX dS_valueNow_0 rfl rfl (by first | rfl | exact g_rfr _) 1 rfl ?_
  refine g_aload_n hX dS_valueNow_1 rfl rfl (by first | rfl | exact g_rfr _) 2 rfl ?_
  refine g_iload_n hX dS_valueNow_2 rfl rfl 3 rfl ?_
  refine g_cV2r (wt := 0) hX (c_S_resolve hX.tr hW hB hC hj hpr) dS_valueNow_3 (w_s hW) kS_138 (g_rm.of hR (by decide) (by decide)) (by first | exact Nat.zero_le _ | (rw [hR]; decide)) (by first | exact Nat.zero_le _ | (rw [hR]; decide)) (by first | decide | (simp [Value.category])) 6 rfl ?_
  refine g_istore_n hX (L' := [_, _, _, _]) dS_valueNow_6 rfl (by decide) rfl 7 rfl ?_
  refine g_aload_n hX dS_valueNow_7 rfl rfl (by first | rfl | exact g_rfr _) 8 rfl ?_
  refine g_get hX dS_valueNow_8 fS_150 (w_c hW 7 j (by decide) hj) rfl 11 rfl ?_
  refine g_aload_n hX dS_valueNow_11 rfl rfl (by first | rfl | exact g_rfr _) 12 rfl ?_
  refine g_cV0r (wt := 1) hX (c_S_slideShown hX.tr hW hB hC) dS_valueNow_12 (w_s hW) kS_252 (g_rm.of hR (by decide) (by decide)) (by first | exact Nat.zero_le _ | (rw [hR]; decide)) (by first | exact Nat.zero_le _ | (rw [hR]; decide)) (by first | decide | (simp [Value.category])) 15 rfl ?_
  refine g_acmp_eq (rx := some (A 2 (q_home S j))) (ry := (q_slide S (nI (q_at S))).map (A 2)) hX dS_valueNow_15 20 18 (by decide) rfl (fun c15 => by exact absurd ((w_pgeq hW hB (hhome j hj).1 (fun x q => q_slide_lt q)).mp c15) hs) (fun c15 => ?_)
  refine g_iload_n hX dS_valueNow_18 rfl rfl 19 rfl ?_
  exact g_iret hX rfl rfl dS_valueNow_19 ⟨rfl, rfl⟩ rfl (Nat.zero_le _) (Nat.zero_le _)
set_option maxRecDepth 100000 in
set_option maxHeartbeats 4000000 in
theorem c_S_valueNow_0 {l : Launch} (hl : l.stackTraces = false) {E : g_E} {A : w_A} {S Sm : q_S} {h : g_H} (hW : w_W E A S Sm h) (hB : w_B S) {j : Nat} (hj : j < q_ns S) (hC : w_C S) (hs : nI (q_home S j) = q_oi (q_slide S (nI (q_at S)))) : g_Rd l mS_valueNow 6 84 [.ref (A 0 0), .ref (A 7 j), .int 0] E h (some (.int (q_value S j 0 + q_moved S j 2 (q_ne S)))) := by
  refine g_Rd.of hl (by decide) (by first | rfl | simp [g_rfc, Value.category]) (Nat.le_of_ble_eq_true rfl) ?_
  intro X hX hXl hR
  obtain ⟨hnp, hns, hne, hpar, hhome, hact⟩ := id hB
  show g_Go E X _ h true 0 0 0 [some (.ref (A 0 0)), some (.ref (A 7 j)), some (.int 0), none] []
  refine g_aload_n hX dS_valueNow_0 rfl rfl (by first | rfl | exact g_rfr _) 1 rfl ?_
  refine g_aload_n hX dS_valueNow_1 rfl rfl (by first | rfl | exact g_rfr _) 2 rfl ?_
  refine g_iload_n hX dS_valueNow_2 rfl rfl 3 rfl ?_
  refine g_cV2r (wt := 0) hX ((c_S_resolve hX.tr hW hB hC hj (pr := 0) (by decide))) dS_valueNow_3 (w_s hW) kS_138 (g_rm.of hR (by decide) (by decide)) (by first | exact Nat.zero_le _ | (rw [hR]; decide)) (by first | exact Nat.zero_le _ | (rw [hR]; decide)) (by first | decide | (simp [Value.category])) 6 rfl ?_
  refine g_istore_n hX (L' := [_, _, _, _]) dS_valueNow_6 rfl (by decide) rfl 7 rfl ?_
  refine g_aload_n hX dS_valueNow_7 rfl rfl (by first | rfl | exact g_rfr _) 8 rfl ?_
  refine g_get hX dS_valueNow_8 fS_150 (w_c hW 7 j (by decide) hj) rfl 11 rfl ?_
  refine g_aload_n hX dS_valueNow_11 rfl rfl (by first | rfl | exact g_rfr _) 12 rfl ?_
  refine g_cV0r (wt := 1) hX (c_S_slideShown hX.tr hW hB hC) dS_valueNow_12 (w_s hW) kS_252 (g_rm.of hR (by decide) (by decide)) (by first | exact Nat.zero_le _ | (rw [hR]; decide)) (by first | exact Nat.zero_le _ | (rw [hR]; decide)) (by first | decide | (simp [Value.category])) 15 rfl ?_
  refine g_acmp_eq (rx := some (A 2 (q_home S j))) (ry := (q_slide S (nI (q_at S))).map (A 2)) hX dS_valueNow_15 20 18 (by decide) rfl (fun c15 => ?_) (fun c15 => by exact absurd ((w_pgeq hW hB (hhome j hj).1 (fun x q => q_slide_lt q)).mpr hs) c15)
  refine g_iload_n hX dS_valueNow_20 rfl rfl 21 rfl ?_
  refine g_lookup hX (off := 35) 56 dS_valueNow_21 (by decide) (by decide) (by decide) ?_
  refine g_iload_n hX dS_valueNow_56 rfl rfl 57 rfl ?_
  refine g_aload_n hX dS_valueNow_57 rfl rfl (by first | rfl | exact g_rfr _) 58 rfl ?_
  refine g_aload_n hX dS_valueNow_58 rfl rfl (by first | rfl | exact g_rfr _) 59 rfl ?_
  refine g_iconst hX dS_valueNow_59 (v := 2) (by decide) 60 rfl ?_
  refine g_cV2r (wt := 1) hX (c_S_moved hX.tr hW hB hj _ hC) dS_valueNow_60 (w_s hW) kS_335 (g_rm.of hR (by decide) (by decide)) (by first | exact Nat.zero_le _ | (rw [hR]; decide)) (by first | exact Nat.zero_le _ | (rw [hR]; decide)) (by first | decide | (simp [Value.category])) 63 rfl ?_
  refine g_iadd hX dS_valueNow_63 64 rfl ?_
  exact g_iret hX rfl rfl dS_valueNow_64 ⟨rfl, rfl⟩ rfl (Nat.zero_le _) (Nat.zero_le _)
set_option maxRecDepth 100000 in
set_option maxHeartbeats 4000000 in
theorem c_S_valueNow_1 {l : Launch} (hl : l.stackTraces = false) {E : g_E} {A : w_A} {S Sm : q_S} {h : g_H} (hW : w_W E A S Sm h) (hB : w_B S) {j : Nat} (hj : j < q_ns S) (hC : w_C S) (hs : nI (q_home S j) = q_oi (q_slide S (nI (q_at S)))) : g_Rd l mS_valueNow 6 84 [.ref (A 0 0), .ref (A 7 j), .int 1] E h (some (.int (q_value S j 1 + q_moved S j 3 (q_ne S)))) := by
  refine g_Rd.of hl (by decide) (by first | rfl | simp [g_rfc, Value.category]) (Nat.le_of_ble_eq_true rfl) ?_
  intro X hX hXl hR
  obtain ⟨hnp, hns, hne, hpar, hhome, hact⟩ := id hB
  show g_Go E X _ h true 0 0 0 [some (.ref (A 0 0)), some (.ref (A 7 j)), some (.int 1), none] []
  refine g_aload_n hX dS_valueNow_0 rfl rfl (by first | rfl | exact g_rfr _) 1 rfl ?_
  refine g_aload_n hX dS_valueNow_1 rfl rfl (by first | rfl | exact g_rfr _) 2 rfl ?_
  refine g_iload_n hX dS_valueNow_2 rfl rfl 3 rfl ?_
  refine g_cV2r (wt := 0) hX ((c_S_resolve hX.tr hW hB hC hj (pr := 1) (by decide))) dS_valueNow_3 (w_s hW) kS_138 (g_rm.of hR (by decide) (by decide)) (by first | exact Nat.zero_le _ | (rw [hR]; decide)) (by first | exact Nat.zero_le _ | (rw [hR]; decide)) (by first | decide | (simp [Value.category])) 6 rfl ?_
  refine g_istore_n hX (L' := [_, _, _, _]) dS_valueNow_6 rfl (by decide) rfl 7 rfl ?_
  refine g_aload_n hX dS_valueNow_7 rfl rfl (by first | rfl | exact g_rfr _) 8 rfl ?_
  refine g_get hX dS_valueNow_8 fS_150 (w_c hW 7 j (by decide) hj) rfl 11 rfl ?_
  refine g_aload_n hX dS_valueNow_11 rfl rfl (by first | rfl | exact g_rfr _) 12 rfl ?_
  refine g_cV0r (wt := 1) hX (c_S_slideShown hX.tr hW hB hC) dS_valueNow_12 (w_s hW) kS_252 (g_rm.of hR (by decide) (by decide)) (by first | exact Nat.zero_le _ | (rw [hR]; decide)) (by first | exact Nat.zero_le _ | (rw [hR]; decide)) (by first | decide | (simp [Value.category])) 15 rfl ?_
  refine g_acmp_eq (rx := some (A 2 (q_home S j))) (ry := (q_slide S (nI (q_at S))).map (A 2)) hX dS_valueNow_15 20 18 (by decide) rfl (fun c15 => ?_) (fun c15 => by exact absurd ((w_pgeq hW hB (hhome j hj).1 (fun x q => q_slide_lt q)).mpr hs) c15)
  refine g_iload_n hX dS_valueNow_20 rfl rfl 21 rfl ?_
  refine g_lookup hX (off := 44) 65 dS_valueNow_21 (by decide) (by decide) (by decide) ?_
  refine g_iload_n hX dS_valueNow_65 rfl rfl 66 rfl ?_
  refine g_aload_n hX dS_valueNow_66 rfl rfl (by first | rfl | exact g_rfr _) 67 rfl ?_
  refine g_aload_n hX dS_valueNow_67 rfl rfl (by first | rfl | exact g_rfr _) 68 rfl ?_
  refine g_iconst hX dS_valueNow_68 (v := 3) (by decide) 69 rfl ?_
  refine g_cV2r (wt := 1) hX (c_S_moved hX.tr hW hB hj _ hC) dS_valueNow_69 (w_s hW) kS_335 (g_rm.of hR (by decide) (by decide)) (by first | exact Nat.zero_le _ | (rw [hR]; decide)) (by first | exact Nat.zero_le _ | (rw [hR]; decide)) (by first | decide | (simp [Value.category])) 72 rfl ?_
  refine g_iadd hX dS_valueNow_72 73 rfl ?_
  exact g_iret hX rfl rfl dS_valueNow_73 ⟨rfl, rfl⟩ rfl (Nat.zero_le _) (Nat.zero_le _)
set_option maxRecDepth 100000 in
set_option maxHeartbeats 4000000 in
theorem c_S_valueNow_2 {l : Launch} (hl : l.stackTraces = false) {E : g_E} {A : w_A} {S Sm : q_S} {h : g_H} (hW : w_W E A S Sm h) (hB : w_B S) {j : Nat} (hj : j < q_ns S) (hC : w_C S) (hs : nI (q_home S j) = q_oi (q_slide S (nI (q_at S)))) : g_Rd l mS_valueNow 6 84 [.ref (A 0 0), .ref (A 7 j), .int 2] E h (some (.int (q_value S j 2))) := by
  refine g_Rd.of hl (by decide) (by first | rfl | simp [g_rfc, Value.category]) (Nat.le_of_ble_eq_true rfl) ?_
  intro X hX hXl hR
  obtain ⟨hnp, hns, hne, hpar, hhome, hact⟩ := id hB
  show g_Go E X _ h true 0 0 0 [some (.ref (A 0 0)), some (.ref (A 7 j)), some (.int 2), none] []
  refine g_aload_n hX dS_valueNow_0 rfl rfl (by first | rfl | exact g_rfr _) 1 rfl ?_
  refine g_aload_n hX dS_valueNow_1 rfl rfl (by first | rfl | exact g_rfr _) 2 rfl ?_
  refine g_iload_n hX dS_valueNow_2 rfl rfl 3 rfl ?_
  refine g_cV2r (wt := 0) hX ((c_S_resolve hX.tr hW hB hC hj (pr := 2) (by decide))) dS_valueNow_3 (w_s hW) kS_138 (g_rm.of hR (by decide) (by decide)) (by first | exact Nat.zero_le _ | (rw [hR]; decide)) (by first | exact Nat.zero_le _ | (rw [hR]; decide)) (by first | decide | (simp [Value.category])) 6 rfl ?_
  refine g_istore_n hX (L' := [_, _, _, _]) dS_valueNow_6 rfl (by decide) rfl 7 rfl ?_
  refine g_aload_n hX dS_valueNow_7 rfl rfl (by first | rfl | exact g_rfr _) 8 rfl ?_
  refine g_get hX dS_valueNow_8 fS_150 (w_c hW 7 j (by decide) hj) rfl 11 rfl ?_
  refine g_aload_n hX dS_valueNow_11 rfl rfl (by first | rfl | exact g_rfr _) 12 rfl ?_
  refine g_cV0r (wt := 1) hX (c_S_slideShown hX.tr hW hB hC) dS_valueNow_12 (w_s hW) kS_252 (g_rm.of hR (by decide) (by decide)) (by first | exact Nat.zero_le _ | (rw [hR]; decide)) (by first | exact Nat.zero_le _ | (rw [hR]; decide)) (by first | decide | (simp [Value.category])) 15 rfl ?_
  refine g_acmp_eq (rx := some (A 2 (q_home S j))) (ry := (q_slide S (nI (q_at S))).map (A 2)) hX dS_valueNow_15 20 18 (by decide) rfl (fun c15 => ?_) (fun c15 => by exact absurd ((w_pgeq hW hB (hhome j hj).1 (fun x q => q_slide_lt q)).mpr hs) c15)
  refine g_iload_n hX dS_valueNow_20 rfl rfl 21 rfl ?_
  refine g_lookup hX (off := 60) 81 dS_valueNow_21 (by decide) (by decide) (by decide) ?_
  refine g_iload_n hX dS_valueNow_81 rfl rfl 82 rfl ?_
  exact g_iret hX rfl rfl dS_valueNow_82 ⟨rfl, rfl⟩ rfl (Nat.zero_le _) (Nat.zero_le _)
set_option maxRecDepth 100000 in
set_option maxHeartbeats 4000000 in
theorem c_S_valueNow_3 {l : Launch} (hl : l.stackTraces = false) {E : g_E} {A : w_A} {S Sm : q_S} {h : g_H} (hW : w_W E A S Sm h) (hB : w_B S) {j : Nat} (hj : j < q_ns S) (hC : w_C S) (hs : nI (q_home S j) = q_oi (q_slide S (nI (q_at S)))) : g_Rd l mS_valueNow 6 84 [.ref (A 0 0), .ref (A 7 j), .int 3] E h (some (.int (q_value S j 3))) := by
  refine g_Rd.of hl (by decide) (by first | rfl | simp [g_rfc, Value.category]) (Nat.le_of_ble_eq_true rfl) ?_
  intro X hX hXl hR
  obtain ⟨hnp, hns, hne, hpar, hhome, hact⟩ := id hB
  show g_Go E X _ h true 0 0 0 [some (.ref (A 0 0)), some (.ref (A 7 j)), some (.int 3), none] []
  refine g_aload_n hX dS_valueNow_0 rfl rfl (by first | rfl | exact g_rfr _) 1 rfl ?_
  refine g_aload_n hX dS_valueNow_1 rfl rfl (by first | rfl | exact g_rfr _) 2 rfl ?_
  refine g_iload_n hX dS_valueNow_2 rfl rfl 3 rfl ?_
  refine g_cV2r (wt := 0) hX ((c_S_resolve hX.tr hW hB hC hj (pr := 3) (by decide))) dS_valueNow_3 (w_s hW) kS_138 (g_rm.of hR (by decide) (by decide)) (by first | exact Nat.zero_le _ | (rw [hR]; decide)) (by first | exact Nat.zero_le _ | (rw [hR]; decide)) (by first | decide | (simp [Value.category])) 6 rfl ?_
  refine g_istore_n hX (L' := [_, _, _, _]) dS_valueNow_6 rfl (by decide) rfl 7 rfl ?_
  refine g_aload_n hX dS_valueNow_7 rfl rfl (by first | rfl | exact g_rfr _) 8 rfl ?_
  refine g_get hX dS_valueNow_8 fS_150 (w_c hW 7 j (by decide) hj) rfl 11 rfl ?_
  refine g_aload_n hX dS_valueNow_11 rfl rfl (by first | rfl | exact g_rfr _) 12 rfl ?_
  refine g_cV0r (wt := 1) hX (c_S_slideShown hX.tr hW hB hC) dS_valueNow_12 (w_s hW) kS_252 (g_rm.of hR (by decide) (by decide)) (by first | exact Nat.zero_le _ | (rw [hR]; decide)) (by first | exact Nat.zero_le _ | (rw [hR]; decide)) (by first | decide | (simp [Value.category])) 15 rfl ?_
  refine g_acmp_eq (rx := some (A 2 (q_home S j))) (ry := (q_slide S (nI (q_at S))).map (A 2)) hX dS_valueNow_15 20 18 (by decide) rfl (fun c15 => ?_) (fun c15 => by exact absurd ((w_pgeq hW hB (hhome j hj).1 (fun x q => q_slide_lt q)).mpr hs) c15)
  refine g_iload_n hX dS_valueNow_20 rfl rfl 21 rfl ?_
  refine g_lookup hX (off := 60) 81 dS_valueNow_21 (by decide) (by decide) (by decide) ?_
  refine g_iload_n hX dS_valueNow_81 rfl rfl 82 rfl ?_
  exact g_iret hX rfl rfl dS_valueNow_82 ⟨rfl, rfl⟩ rfl (Nat.zero_le _) (Nat.zero_le _)
set_option maxRecDepth 100000 in
set_option maxHeartbeats 4000000 in
theorem c_S_valueNow_4 {l : Launch} (hl : l.stackTraces = false) {E : g_E} {A : w_A} {S Sm : q_S} {h : g_H} (hW : w_W E A S Sm h) (hB : w_B S) {j : Nat} (hj : j < q_ns S) (hC : w_C S) (hs : nI (q_home S j) = q_oi (q_slide S (nI (q_at S)))) : g_Rd l mS_valueNow 6 84 [.ref (A 0 0), .ref (A 7 j), .int 4] E h (some (.int (q_value S j 4))) := by
  refine g_Rd.of hl (by decide) (by first | rfl | simp [g_rfc, Value.category]) (Nat.le_of_ble_eq_true rfl) ?_
  intro X hX hXl hR
  obtain ⟨hnp, hns, hne, hpar, hhome, hact⟩ := id hB
  show g_Go E X _ h true 0 0 0 [some (.ref (A 0 0)), some (.ref (A 7 j)), some (.int 4), none] []
  refine g_aload_n hX dS_valueNow_0 rfl rfl (by first | rfl | exact g_rfr _) 1 rfl ?_
  refine g_aload_n hX dS_valueNow_1 rfl rfl (by first | rfl | exact g_rfr _) 2 rfl ?_
  refine g_iload_n hX dS_valueNow_2 rfl rfl 3 rfl ?_
  refine g_cV2r (wt := 0) hX ((c_S_resolve hX.tr hW hB hC hj (pr := 4) (by decide))) dS_valueNow_3 (w_s hW) kS_138 (g_rm.of hR (by decide) (by decide)) (by first | exact Nat.zero_le _ | (rw [hR]; decide)) (by first | exact Nat.zero_le _ | (rw [hR]; decide)) (by first | decide | (simp [Value.category])) 6 rfl ?_
  refine g_istore_n hX (L' := [_, _, _, _]) dS_valueNow_6 rfl (by decide) rfl 7 rfl ?_
  refine g_aload_n hX dS_valueNow_7 rfl rfl (by first | rfl | exact g_rfr _) 8 rfl ?_
  refine g_get hX dS_valueNow_8 fS_150 (w_c hW 7 j (by decide) hj) rfl 11 rfl ?_
  refine g_aload_n hX dS_valueNow_11 rfl rfl (by first | rfl | exact g_rfr _) 12 rfl ?_
  refine g_cV0r (wt := 1) hX (c_S_slideShown hX.tr hW hB hC) dS_valueNow_12 (w_s hW) kS_252 (g_rm.of hR (by decide) (by decide)) (by first | exact Nat.zero_le _ | (rw [hR]; decide)) (by first | exact Nat.zero_le _ | (rw [hR]; decide)) (by first | decide | (simp [Value.category])) 15 rfl ?_
  refine g_acmp_eq (rx := some (A 2 (q_home S j))) (ry := (q_slide S (nI (q_at S))).map (A 2)) hX dS_valueNow_15 20 18 (by decide) rfl (fun c15 => ?_) (fun c15 => by exact absurd ((w_pgeq hW hB (hhome j hj).1 (fun x q => q_slide_lt q)).mpr hs) c15)
  refine g_iload_n hX dS_valueNow_20 rfl rfl 21 rfl ?_
  refine g_lookup hX (off := 60) 81 dS_valueNow_21 (by decide) (by decide) (by decide) ?_
  refine g_iload_n hX dS_valueNow_81 rfl rfl 82 rfl ?_
  exact g_iret hX rfl rfl dS_valueNow_82 ⟨rfl, rfl⟩ rfl (Nat.zero_le _) (Nat.zero_le _)
set_option maxRecDepth 100000 in
set_option maxHeartbeats 4000000 in
theorem c_S_valueNow_5 {l : Launch} (hl : l.stackTraces = false) {E : g_E} {A : w_A} {S Sm : q_S} {h : g_H} (hW : w_W E A S Sm h) (hB : w_B S) {j : Nat} (hj : j < q_ns S) (hC : w_C S) (hs : nI (q_home S j) = q_oi (q_slide S (nI (q_at S)))) : g_Rd l mS_valueNow 6 84 [.ref (A 0 0), .ref (A 7 j), .int 5] E h (some (.int ((q_shown S j (q_value S j 5) (q_ne S)).1))) := by
  refine g_Rd.of hl (by decide) (by first | rfl | simp [g_rfc, Value.category]) (Nat.le_of_ble_eq_true rfl) ?_
  intro X hX hXl hR
  obtain ⟨hnp, hns, hne, hpar, hhome, hact⟩ := id hB
  show g_Go E X _ h true 0 0 0 [some (.ref (A 0 0)), some (.ref (A 7 j)), some (.int 5), none] []
  refine g_aload_n hX dS_valueNow_0 rfl rfl (by first | rfl | exact g_rfr _) 1 rfl ?_
  refine g_aload_n hX dS_valueNow_1 rfl rfl (by first | rfl | exact g_rfr _) 2 rfl ?_
  refine g_iload_n hX dS_valueNow_2 rfl rfl 3 rfl ?_
  refine g_cV2r (wt := 0) hX ((c_S_resolve hX.tr hW hB hC hj (pr := 5) (by decide))) dS_valueNow_3 (w_s hW) kS_138 (g_rm.of hR (by decide) (by decide)) (by first | exact Nat.zero_le _ | (rw [hR]; decide)) (by first | exact Nat.zero_le _ | (rw [hR]; decide)) (by first | decide | (simp [Value.category])) 6 rfl ?_
  refine g_istore_n hX (L' := [_, _, _, _]) dS_valueNow_6 rfl (by decide) rfl 7 rfl ?_
  refine g_aload_n hX dS_valueNow_7 rfl rfl (by first | rfl | exact g_rfr _) 8 rfl ?_
  refine g_get hX dS_valueNow_8 fS_150 (w_c hW 7 j (by decide) hj) rfl 11 rfl ?_
  refine g_aload_n hX dS_valueNow_11 rfl rfl (by first | rfl | exact g_rfr _) 12 rfl ?_
  refine g_cV0r (wt := 1) hX (c_S_slideShown hX.tr hW hB hC) dS_valueNow_12 (w_s hW) kS_252 (g_rm.of hR (by decide) (by decide)) (by first | exact Nat.zero_le _ | (rw [hR]; decide)) (by first | exact Nat.zero_le _ | (rw [hR]; decide)) (by first | decide | (simp [Value.category])) 15 rfl ?_
  refine g_acmp_eq (rx := some (A 2 (q_home S j))) (ry := (q_slide S (nI (q_at S))).map (A 2)) hX dS_valueNow_15 20 18 (by decide) rfl (fun c15 => ?_) (fun c15 => by exact absurd ((w_pgeq hW hB (hhome j hj).1 (fun x q => q_slide_lt q)).mpr hs) c15)
  refine g_iload_n hX dS_valueNow_20 rfl rfl 21 rfl ?_
  refine g_lookup hX (off := 53) 74 dS_valueNow_21 (by decide) (by decide) (by decide) ?_
  refine g_aload_n hX dS_valueNow_74 rfl rfl (by first | rfl | exact g_rfr _) 75 rfl ?_
  refine g_aload_n hX dS_valueNow_75 rfl rfl (by first | rfl | exact g_rfr _) 76 rfl ?_
  refine g_iload_n hX dS_valueNow_76 rfl rfl 77 rfl ?_
  refine g_cV2r (wt := 0) hX (c_S_alphaNow hX.tr hW hB hj _ hC) dS_valueNow_77 (w_s hW) kS_338 (g_rm.of hR (by decide) (by decide)) (by first | exact Nat.zero_le _ | (rw [hR]; decide)) (by first | exact Nat.zero_le _ | (rw [hR]; decide)) (by first | decide | (simp [Value.category])) 80 rfl ?_
  exact g_iret hX rfl rfl dS_valueNow_80 ⟨rfl, rfl⟩ rfl (Nat.zero_le _) (Nat.zero_le _)
set_option maxRecDepth 100000 in
set_option maxHeartbeats 4000000 in
theorem c_S_valueNow_6 {l : Launch} (hl : l.stackTraces = false) {E : g_E} {A : w_A} {S Sm : q_S} {h : g_H} (hW : w_W E A S Sm h) (hB : w_B S) {j : Nat} (hj : j < q_ns S) (hC : w_C S) (hs : nI (q_home S j) = q_oi (q_slide S (nI (q_at S)))) : g_Rd l mS_valueNow 6 84 [.ref (A 0 0), .ref (A 7 j), .int 6] E h (some (.int (q_value S j 6))) := by
  refine g_Rd.of hl (by decide) (by first | rfl | simp [g_rfc, Value.category]) (Nat.le_of_ble_eq_true rfl) ?_
  intro X hX hXl hR
  obtain ⟨hnp, hns, hne, hpar, hhome, hact⟩ := id hB
  show g_Go E X _ h true 0 0 0 [some (.ref (A 0 0)), some (.ref (A 7 j)), some (.int 6), none] []
  refine g_aload_n hX dS_valueNow_0 rfl rfl (by first | rfl | exact g_rfr _) 1 rfl ?_
  refine g_aload_n hX dS_valueNow_1 rfl rfl (by first | rfl | exact g_rfr _) 2 rfl ?_
  refine g_iload_n hX dS_valueNow_2 rfl rfl 3 rfl ?_
  refine g_cV2r (wt := 0) hX ((c_S_resolve hX.tr hW hB hC hj (pr := 6) (by decide))) dS_valueNow_3 (w_s hW) kS_138 (g_rm.of hR (by decide) (by decide)) (by first | exact Nat.zero_le _ | (rw [hR]; decide)) (by first | exact Nat.zero_le _ | (rw [hR]; decide)) (by first | decide | (simp [Value.category])) 6 rfl ?_
  refine g_istore_n hX (L' := [_, _, _, _]) dS_valueNow_6 rfl (by decide) rfl 7 rfl ?_
  refine g_aload_n hX dS_valueNow_7 rfl rfl (by first | rfl | exact g_rfr _) 8 rfl ?_
  refine g_get hX dS_valueNow_8 fS_150 (w_c hW 7 j (by decide) hj) rfl 11 rfl ?_
  refine g_aload_n hX dS_valueNow_11 rfl rfl (by first | rfl | exact g_rfr _) 12 rfl ?_
  refine g_cV0r (wt := 1) hX (c_S_slideShown hX.tr hW hB hC) dS_valueNow_12 (w_s hW) kS_252 (g_rm.of hR (by decide) (by decide)) (by first | exact Nat.zero_le _ | (rw [hR]; decide)) (by first | exact Nat.zero_le _ | (rw [hR]; decide)) (by first | decide | (simp [Value.category])) 15 rfl ?_
  refine g_acmp_eq (rx := some (A 2 (q_home S j))) (ry := (q_slide S (nI (q_at S))).map (A 2)) hX dS_valueNow_15 20 18 (by decide) rfl (fun c15 => ?_) (fun c15 => by exact absurd ((w_pgeq hW hB (hhome j hj).1 (fun x q => q_slide_lt q)).mpr hs) c15)
  refine g_iload_n hX dS_valueNow_20 rfl rfl 21 rfl ?_
  refine g_lookup hX (off := 60) 81 dS_valueNow_21 (by decide) (by decide) (by decide) ?_
  refine g_iload_n hX dS_valueNow_81 rfl rfl 82 rfl ?_
  exact g_iret hX rfl rfl dS_valueNow_82 ⟨rfl, rfl⟩ rfl (Nat.zero_le _) (Nat.zero_le _)
theorem c_S_valueNow {l : Launch} (hl : l.stackTraces = false) {E : g_E} {A : w_A} {S Sm : q_S} {h : g_H} (hW : w_W E A S Sm h) (hB : w_B S) (hC : w_C S) {j : Nat} (hj : j < q_ns S) {pr : Nat} (hpr : pr < 7) : g_Rd l mS_valueNow 6 84 [.ref (A 0 0), .ref (A 7 j), .int (nI pr)] E h (some (.int (q_now S j pr))) := by
  unfold q_now
  by_cases hs : nI (q_home S j) = q_oi (q_slide S (nI (q_at S)))
  · rw [if_pos hs]
    have h3 : pr = 0 ∨ pr = 1 ∨ pr = 2 ∨ pr = 3 ∨ pr = 4 ∨ pr = 5 ∨ pr = 6 := by omega
    rcases h3 with rfl | rfl | rfl | rfl | rfl | rfl | rfl
    · exact c_S_valueNow_0 hl hW hB hj hC hs
    · exact c_S_valueNow_1 hl hW hB hj hC hs
    · exact c_S_valueNow_2 hl hW hB hj hC hs
    · exact c_S_valueNow_3 hl hW hB hj hC hs
    · exact c_S_valueNow_4 hl hW hB hj hC hs
    · exact c_S_valueNow_5 hl hW hB hj hC hs
    · exact c_S_valueNow_6 hl hW hB hj hC hs
  · rw [if_neg hs]
    exact c_S_valueNow_n hl hW hB hj hpr hC hs
