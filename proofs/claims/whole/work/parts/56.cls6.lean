/-! the stage's writers that make no cell -/
theorem w_sh_cell {E : g_E} {A : w_A} {S : q_S} {a c : Nat} {t : Int32} (hs : ¬ q_sl S = []) : w_cell E A (q_up2 (q_up1 (q_up1 S 0 3 a) 0 4 c) 13 0 t) 0 0 = .inr (0, [.ref (A 1 0), .ref (A 16 0), .ref (A 18 0), .ref (A 20 0), .ref (A 22 0), .ref (A 24 0), .int (nI a), .int (nI c), .int t]) := by
  have h1 : w_slideAt (q_up2 (q_up1 (q_up1 S 0 3 a) 0 4 c) 13 0 t) = nI a := by
    unfold w_slideAt
    exact if_neg (fun q => hs ((q_sl_c (S := S) (T := q_up2 (q_up1 (q_up1 S 0 3 a) 0 4 c) 13 0 t) rfl rfl).trans q))
  show Sum.inr (0, [Value.ref (A 1 0), .ref (A 16 0), .ref (A 18 0), .ref (A 20 0), .ref (A 22 0), .ref (A 24 0), .int (w_slideAt (q_up2 (q_up1 (q_up1 S 0 3 a) 0 4 c) 13 0 t)), .int (nI c), .int t]) = _
  rw [h1]
theorem w_tk_cell {E : g_E} {A : w_A} {S : q_S} {t : Int32} : w_cell E A (q_up2 S 13 0 t) 0 0 = .inr (0, [.ref (A 1 0), .ref (A 16 0), .ref (A 18 0), .ref (A 20 0), .ref (A 22 0), .ref (A 24 0), .int (w_slideAt S), .int (nI (q_clicks S)), .int t]) := by
  have h1 : w_slideAt (q_up2 S 13 0 t) = w_slideAt S := w_sa_c (q_sl_c rfl rfl) rfl
  show Sum.inr (0, [Value.ref (A 1 0), .ref (A 16 0), .ref (A 18 0), .ref (A 20 0), .ref (A 22 0), .ref (A 24 0), .int (w_slideAt (q_up2 S 13 0 t)), .int (nI (q_clicks S)), .int t]) = _
  rw [h1]
theorem w_am_cell {E : g_E} {A : w_A} {S : q_S} {e : Nat} {v : Int32} : w_cell E A (q_up2 S 11 e v) 15 e = .inr (4, [.ref (A 2 (q_epage S e)), .int (S.2 7 e), .int (nI (q_build S e)), .int (q_base S e), .int (q_start S e), .int (q_end S e), .int (S.2 10 e), .int v]) := by
  have h : q_ea (q_up2 S 11 e v) S := ⟨rfl, rfl, rfl, rfl, rfl⟩
  show Sum.inr (4, [Value.ref (A 2 (q_epage (q_up2 S 11 e v) e)), .int (S.2 7 e), .int (nI (q_build (q_up2 S 11 e v) e)), .int (q_base (q_up2 S 11 e v) e), .int (q_start (q_up2 S 11 e v) e), .int (q_end (q_up2 S 11 e v) e), .int (S.2 10 e), .int (upd (S.2 11) e v e)]) = _
  rw [q_epage_ea h, q_build_ea h, q_base_ea h, q_start_ea h, q_end_ea h, show upd (S.2 11) e v e = v from if_pos rfl]
theorem w_own_cell {S : q_S} {j p : Nat} (hp : p < 7) (k : Nat) {v : Int32} : (upd (fun pr => if pr < 7 then S.2 k (7 * j + pr) else 0) p v) = (fun pr => if pr < 7 then (q_up2 S k (7 * j + p) v).2 k (7 * j + pr) else 0) := by
  funext pr
  have h0 : (q_up2 S k (7 * j + p) v).2 k = upd (S.2 k) (7 * j + p) v := if_pos rfl
  rw [h0]
  show (if pr = p then v else if pr < 7 then S.2 k (7 * j + pr) else 0) = if pr < 7 then (if 7 * j + pr = 7 * j + p then v else S.2 k (7 * j + pr)) else 0
  by_cases h : pr < 7
  · rw [if_pos h, if_pos h]
    by_cases h1 : pr = p
    · rw [if_pos h1, if_pos (by omega)]
    · rw [if_neg h1, if_neg (by omega)]
  · rw [if_neg h, if_neg h, if_neg (by omega)]
theorem q_le23 {x : Int32} : x ≤ 23 ↔ ¬ 24 ≤ x := by
  rw [Int32.le_iff_toInt_le, Int32.le_iff_toInt_le, show (23 : Int32).toInt = 23 from by decide, show (24 : Int32).toInt = 24 from by decide]
  omega
theorem q_le15 {x : Int32} : x ≤ 15 ↔ x < 16 := by
  rw [Int32.le_iff_toInt_le, Int32.lt_iff_toInt_lt, show (15 : Int32).toInt = 15 from by decide, show (16 : Int32).toInt = 16 from by decide]
  omega
theorem q_px {x y : Int32} (h1 : ¬ r_in x 0 23 = 0) (h2 : ¬ r_in y 0 15 = 0) : ¬ (x < 0 ∨ 24 ≤ x ∨ y < 0 ∨ ¬ y < 16) := by
  rintro (h | h | h | h)
  · exact h1 (r_in_0 (Or.inl h))
  · exact h1 (r_in_0 (Or.inr (fun q => q_le23.mp q h)))
  · exact h2 (r_in_0 (Or.inl h))
  · exact h2 (r_in_0 (Or.inr (fun q => h (q_le15.mp q))))
theorem q_mn_le {a b : Int32} : q_mn a b = if a ≤ b then a else b := by
  unfold q_mn
  by_cases h : b < a
  · rw [if_pos h, if_neg (q_lt_nle h)]
  · rw [if_neg h, if_pos (by rw [Int32.le_iff_toInt_le]; rw [Int32.lt_iff_toInt_lt] at h; omega)]
theorem q_sl_ne {S : q_S} {p : Nat} (hB : w_B S) (hC : w_C S) (hs : q_slide S (nI (q_at S)) = some p) : ¬ q_sl S = [] := fun q => by
  rw [(q_sl_none hB hC).mpr q] at hs
  cases hs
theorem q_sl_ne' {S : q_S} {p a : Nat} (hB : w_B S) (ha : a < 2 ^ 31) (hs : q_slide S (nI a) = some p) : ¬ q_sl S = [] := fun q => by
  rw [q_slide_sl hB ha, q] at hs
  cases hs
set_option maxRecDepth 100000 in
set_option maxHeartbeats 4000000 in
theorem c_S_show {l : Launch} (hl : l.stackTraces = false) {E : g_E} {A : w_A} {S Sm : q_S} {h : g_H} (hW : w_W E A S Sm h) (hB : w_B S) (hs : ¬ q_sl S = []) {a c : Nat} {t : Int32}  : g_Ct l mS_show 0 0 0 0 [.ref (A 0 0), .int (nI a), .int (nI c), .int t] E h (false, fun r h' => r = .inr none ∧ w_W E A (q_up2 (q_up1 (q_up1 S 0 3 a) 0 4 c) 13 0 t) Sm h') := by
  refine g_Ct.of hl (by decide) (by first | rfl | simp [g_rfc, Value.category]) (Nat.le_of_ble_eq_true rfl) ?_
  intro X hX hXl hR
  obtain ⟨hnp, hns, hne, hpar, hhome, hact⟩ := id hB
  show g_Go E X _ h true 0 0 0 [some (.ref (A 0 0)), some (.int (nI a)), some (.int (nI c)), some (.int t)] []
  refine g_aload_n hX dS_show_0 rfl rfl (by first | rfl | exact g_rfr _) 1 rfl ?_
  refine g_iload_n hX dS_show_1 rfl rfl 2 rfl ?_
  refine g_put0 hX dS_show_2 fS_37 (w_s hW) (w_cb hW 0 0 (by decide) ⟨rfl, by decide⟩) rfl rfl (Nat.le_of_ble_eq_true rfl) 5 rfl ?_
  refine g_aload_n hX dS_show_5 rfl rfl (by first | rfl | exact g_rfr _) 6 rfl ?_
  refine g_iload_n hX dS_show_6 rfl rfl 7 rfl ?_
  refine g_put0 hX dS_show_7 fS_41 (g_set_same _ _ _) (w_cb hW 0 0 (by decide) ⟨rfl, by decide⟩) rfl rfl (Nat.le_of_ble_eq_true rfl) 10 rfl ?_
  refine g_aload_n hX dS_show_10 rfl rfl (by first | rfl | exact g_rfr _) 11 rfl ?_
  refine g_iload_n hX dS_show_11 rfl rfl 12 rfl ?_
  refine g_put0 hX dS_show_12 fS_44 (g_set_same _ _ _) (w_cb hW 0 0 (by decide) ⟨rfl, by decide⟩) rfl rfl (Nat.le_of_ble_eq_true rfl) 15 rfl ?_
  exact g_vret hX rfl dS_show_15 ⟨rfl, by rw [g_set_set, g_set_set]; exact w_putC (Tc := q_up2 (q_up1 (q_up1 S 0 3 a) 0 4 c) 13 0 t) (k0 := 0) (i0 := 0) hW (by decide) ⟨rfl, by decide⟩ ⟨rfl, rfl, rfl, rfl, rfl, rfl, rfl⟩ w_uc_sh (w_sh_cell hs).symm⟩ rfl (Nat.zero_le _) (Nat.zero_le _)
set_option maxRecDepth 100000 in
set_option maxHeartbeats 4000000 in
theorem c_S_showEnd {l : Launch} (hl : l.stackTraces = false) {E : g_E} {A : w_A} {S Sm : q_S} {h : g_H} (hW : w_W E A S Sm h) (hB : w_B S) {a c p : Nat} (ha : a < 2 ^ 31) (hs : q_slide S (nI a) = some p)  : g_Ct l mS_showEnd 4 59 0 0 [.ref (A 0 0), .int (nI a), .int (nI c)] E h (false, fun r h' => r = .inr none ∧ w_W E A (q_up2 (q_up1 (q_up1 S 0 3 a) 0 4 c) 13 0 (q_len S p (nI c) (q_ne S))) Sm h') := by
  refine g_Ct.of hl (by decide) (by first | rfl | simp [g_rfc, Value.category]) (Nat.le_of_ble_eq_true rfl) ?_
  intro X hX hXl hR
  obtain ⟨hnp, hns, hne, hpar, hhome, hact⟩ := id hB
  show g_Go E X _ h true 0 0 0 [some (.ref (A 0 0)), some (.int (nI a)), some (.int (nI c))] []
  refine g_aload_n hX dS_showEnd_0 rfl rfl (by first | rfl | exact g_rfr _) 1 rfl ?_
  refine g_iload_n hX dS_showEnd_1 rfl rfl 2 rfl ?_
  refine g_iload_n hX dS_showEnd_2 rfl rfl 3 rfl ?_
  refine g_aload_n hX dS_showEnd_3 rfl rfl (by first | rfl | exact g_rfr _) 4 rfl ?_
  refine g_iload_n hX dS_showEnd_4 rfl rfl 5 rfl ?_
  refine g_cV1r (wt := 3) hX ((show g_Rd X.l mS_findSlide 3 40 [.ref (A 0 0), .int (nI a)] E h (some (.ref (A 2 p))) by have h9 := c_S_findSlide hX.tr hW hB (nI a); rw [hs] at h9; exact h9)) dS_showEnd_5 (w_s hW) kS_268 (g_rm.of hR (by decide) (by decide)) (by first | exact Nat.zero_le _ | (rw [hR]; decide)) (by first | exact Nat.zero_le _ | (rw [hR]; decide)) (by first | decide | (simp [Value.category])) 8 rfl ?_
  refine g_iload_n hX dS_showEnd_8 rfl rfl 9 rfl ?_
  refine g_cS2r (wt := 3) hX (c_S_lob hX.tr hW hB (q_slide_lt hs) _) dS_showEnd_9 kS_285 (g_rm.of hR (by decide) (by decide)) (by first | exact Nat.zero_le _ | (rw [hR]; decide)) (by first | exact Nat.zero_le _ | (rw [hR]; decide)) (by first | decide | (simp [Value.category])) 12 rfl ?_
  refine g_cV3 (wt := 0) hX (c_S_show hX.tr hW hB (q_sl_ne' hB ha hs)) dS_showEnd_12 (w_s hW) kS_264 (g_rm.of hR (by decide) (by decide)) (by first | exact Nat.zero_le _ | (rw [hR]; decide)) (by first | exact Nat.zero_le _ | (rw [hR]; decide)) (by first | decide | (simp [Value.category])) (fun q => by cases q) 15 rfl (fun v h hP => ?_) (fun k h hP => by cases hP.1)
  obtain ⟨hv, hW⟩ := hP
  cases hv
  show g_Go E X _ h false 0 0 15 _ []
  exact g_vret hX rfl dS_showEnd_15 ⟨rfl, by exact hW⟩ rfl (Nat.zero_le _) (Nat.zero_le _)
set_option maxRecDepth 100000 in
set_option maxHeartbeats 4000000 in
theorem c_S_click_a {l : Launch} (hl : l.stackTraces = false) {E : g_E} {A : w_A} {S Sm : q_S} {h : g_H} (hW : w_W E A S Sm h) (hB : w_B S)  (hC : w_C S) (hs : q_slide S (nI (q_at S)) = none) : g_Ct l mS_click 5 66 0 0 [.ref (A 0 0)] E h (false, fun r h' => r = .inr (some (.int 0)) ∧ w_W E A (S) Sm h') := by
  refine g_Ct.of hl (by decide) (by first | rfl | simp [g_rfc, Value.category]) (Nat.le_of_ble_eq_true rfl) ?_
  intro X hX hXl hR
  obtain ⟨hnp, hns, hne, hpar, hhome, hact⟩ := id hB
  have hm : q_slide S 0 = none := by
    have h9 := (q_sl_none hB hC).mp hs
    have h8 := q_slide_sl hB (m := 0) (by decide)
    rw [h9] at h8
    exact h8
  have hc0 : q_clicks S = 0 := by
    rcases hC.2.2.2.2.2 with h8 | h8
    · exact h8.2.2
    · rw [(q_sl_none hB hC).mp hs] at h8
      exact absurd h8 (Nat.not_lt_zero _)
  show g_Go E X _ h true 0 0 0 [some (.ref (A 0 0))] []
  refine g_aload_n hX dS_click_0 rfl rfl (by first | rfl | exact g_rfr _) 1 rfl ?_
  refine g_get hX dS_click_1 fS_41 (w_s hW) rfl 4 rfl ?_
  refine g_aload_n hX dS_click_4 rfl rfl (by first | rfl | exact g_rfr _) 5 rfl ?_
  refine g_cV0r (wt := 1) hX ((show g_Rd X.l mS_slideShown 4 53 [.ref (A 0 0)] E h (some .null) by have h9 := c_S_slideShown hX.tr hW hB hC; rw [hs] at h9; exact h9)) dS_click_5 (w_s hW) kS_252 (g_rm.of hR (by decide) (by decide)) (by first | exact Nat.zero_le _ | (rw [hR]; decide)) (by first | exact Nat.zero_le _ | (rw [hR]; decide)) (by first | decide | (simp [Value.category])) 8 rfl ?_
  refine g_cS1r (wt := 1) hX (c_S_lastBuild_n hX.tr hW hB) dS_click_8 kS_260 (g_rm.of hR (by decide) (by decide)) (by first | exact Nat.zero_le _ | (rw [hR]; decide)) (by first | exact Nat.zero_le _ | (rw [hR]; decide)) (by first | decide | (simp [Value.category])) 11 rfl ?_
  refine g_icmp_ge hX dS_click_11 31 14 (by decide) rfl (fun c11 => ?_) (fun c11 => ?_)
  · refine g_aload_n hX dS_click_31 rfl rfl (by first | rfl | exact g_rfr _) 32 rfl ?_
    refine g_aload_n hX dS_click_32 rfl rfl (by first | rfl | exact g_rfr _) 33 rfl ?_
    refine g_get (v := .int (-1)) hX dS_click_33 fS_37 (w_s hW) (by rw [← w_sa_n hB hC hs]; rfl) 36 rfl ?_
    refine g_iconst hX dS_click_36 (v := 1) (by decide) 37 rfl ?_
    refine g_iadd hX dS_click_37 38 rfl ?_
    refine g_cV1r (wt := 0) hX ((show g_Rd X.l mS_findSlide 3 40 [.ref (A 0 0), .int (-1 + 1)] E h (some .null) by have h9 := c_S_findSlide hX.tr hW hB (-1 + 1); rw [(show q_slide S (-1 + 1) = none from hm)] at h9; exact h9)) dS_click_38 (w_s hW) kS_268 (g_rm.of hR (by decide) (by decide)) (by first | exact Nat.zero_le _ | (rw [hR]; decide)) (by first | exact Nat.zero_le _ | (rw [hR]; decide)) (by first | decide | (simp [Value.category])) 41 rfl ?_
    refine g_ifnonnull (r := none) hX dS_click_41 46 44 (by decide) rfl (fun a q => by cases q) (fun _ => ?_)
    refine g_iconst hX dS_click_44 (v := 0) (by decide) 45 rfl ?_
    exact g_iret hX rfl rfl dS_click_45 ⟨rfl, hW⟩ rfl (Nat.zero_le _) (Nat.zero_le _)
  · exact absurd (show (0 : Int32) ≤ nI (q_clicks S) by rw [hc0]; decide) c11
set_option maxRecDepth 100000 in
set_option maxHeartbeats 4000000 in
theorem c_S_click_b {l : Launch} (hl : l.stackTraces = false) {E : g_E} {A : w_A} {S Sm : q_S} {h : g_H} (hW : w_W E A S Sm h) (hB : w_B S) {p : Nat} (hC : w_C S) (hs : q_slide S (nI (q_at S)) = some p) (hl0 : nI (q_clicks S) < nI (q_last S p)) : g_Ct l mS_click 5 66 0 0 [.ref (A 0 0)] E h (false, fun r h' => r = .inr (some (.int 1)) ∧ w_W E A (q_up2 (q_up1 (q_up1 S 0 3 (q_at S)) 0 4 (q_clicks S + 1)) 13 0 0) Sm h') := by
  refine g_Ct.of hl (by decide) (by first | rfl | simp [g_rfc, Value.category]) (Nat.le_of_ble_eq_true rfl) ?_
  intro X hX hXl hR
  obtain ⟨hnp, hns, hne, hpar, hhome, hact⟩ := id hB
  show g_Go E X _ h true 0 0 0 [some (.ref (A 0 0))] []
  refine g_aload_n hX dS_click_0 rfl rfl (by first | rfl | exact g_rfr _) 1 rfl ?_
  refine g_get hX dS_click_1 fS_41 (w_s hW) rfl 4 rfl ?_
  refine g_aload_n hX dS_click_4 rfl rfl (by first | rfl | exact g_rfr _) 5 rfl ?_
  refine g_cV0r (wt := 1) hX ((show g_Rd X.l mS_slideShown 4 53 [.ref (A 0 0)] E h (some (.ref (A 2 p))) by have h9 := c_S_slideShown hX.tr hW hB hC; rw [hs] at h9; exact h9)) dS_click_5 (w_s hW) kS_252 (g_rm.of hR (by decide) (by decide)) (by first | exact Nat.zero_le _ | (rw [hR]; decide)) (by first | exact Nat.zero_le _ | (rw [hR]; decide)) (by first | decide | (simp [Value.category])) 8 rfl ?_
  refine g_cS1r (wt := 1) hX (c_S_lastBuild hX.tr hW hB (q_slide_lt hs)) dS_click_8 kS_260 (g_rm.of hR (by decide) (by decide)) (by first | exact Nat.zero_le _ | (rw [hR]; decide)) (by first | exact Nat.zero_le _ | (rw [hR]; decide)) (by first | decide | (simp [Value.category])) 11 rfl ?_
  refine g_icmp_ge hX dS_click_11 31 14 (by decide) rfl (fun c11 => ?_) (fun c11 => ?_)
  · exact absurd c11 (q_lt_nle hl0)
  · refine g_aload_n hX dS_click_14 rfl rfl (by first | rfl | exact g_rfr _) 15 rfl ?_
    refine g_aload_n hX dS_click_15 rfl rfl (by first | rfl | exact g_rfr _) 16 rfl ?_
    refine g_get (v := .int (nI (q_at S))) hX dS_click_16 fS_37 (w_s hW) (by rw [← w_sa_s hB hC hs]; rfl) 19 rfl ?_
    refine g_aload_n hX dS_click_19 rfl rfl (by first | rfl | exact g_rfr _) 20 rfl ?_
    refine g_get hX dS_click_20 fS_41 (w_s hW) rfl 23 rfl ?_
    refine g_iconst hX dS_click_23 (v := 1) (by decide) 24 rfl ?_
    refine g_iadd hX dS_click_24 25 rfl ?_
    rw [nI_1 (q_clicks S)]
    refine g_iconst hX dS_click_25 (v := 0) (by decide) 26 rfl ?_
    refine g_cV3 (wt := 0) hX (c_S_show hX.tr hW hB (q_sl_ne hB hC hs)) dS_click_26 (w_s hW) kS_264 (g_rm.of hR (by decide) (by decide)) (by first | exact Nat.zero_le _ | (rw [hR]; decide)) (by first | exact Nat.zero_le _ | (rw [hR]; decide)) (by first | decide | (simp [Value.category])) (fun q => by cases q) 29 rfl (fun v h hP => ?_) (fun k h hP => by cases hP.1)
    obtain ⟨hv, hW⟩ := hP
    cases hv
    show g_Go E X _ h false 0 0 29 _ []
    refine g_iconst hX dS_click_29 (v := 1) (by decide) 30 rfl ?_
    exact g_iret hX rfl rfl dS_click_30 ⟨rfl, hW⟩ rfl (Nat.zero_le _) (Nat.zero_le _)
set_option maxRecDepth 100000 in
set_option maxHeartbeats 4000000 in
theorem c_S_click_c {l : Launch} (hl : l.stackTraces = false) {E : g_E} {A : w_A} {S Sm : q_S} {h : g_H} (hW : w_W E A S Sm h) (hB : w_B S) {p : Nat} (hC : w_C S) (hs : q_slide S (nI (q_at S)) = some p) (hl0 : nI (q_last S p) ≤ nI (q_clicks S)) (hm : q_slide S (nI (q_at S + 1)) = none) : g_Ct l mS_click 5 66 0 0 [.ref (A 0 0)] E h (false, fun r h' => r = .inr (some (.int 0)) ∧ w_W E A (S) Sm h') := by
  refine g_Ct.of hl (by decide) (by first | rfl | simp [g_rfc, Value.category]) (Nat.le_of_ble_eq_true rfl) ?_
  intro X hX hXl hR
  obtain ⟨hnp, hns, hne, hpar, hhome, hact⟩ := id hB
  show g_Go E X _ h true 0 0 0 [some (.ref (A 0 0))] []
  refine g_aload_n hX dS_click_0 rfl rfl (by first | rfl | exact g_rfr _) 1 rfl ?_
  refine g_get hX dS_click_1 fS_41 (w_s hW) rfl 4 rfl ?_
  refine g_aload_n hX dS_click_4 rfl rfl (by first | rfl | exact g_rfr _) 5 rfl ?_
  refine g_cV0r (wt := 1) hX ((show g_Rd X.l mS_slideShown 4 53 [.ref (A 0 0)] E h (some (.ref (A 2 p))) by have h9 := c_S_slideShown hX.tr hW hB hC; rw [hs] at h9; exact h9)) dS_click_5 (w_s hW) kS_252 (g_rm.of hR (by decide) (by decide)) (by first | exact Nat.zero_le _ | (rw [hR]; decide)) (by first | exact Nat.zero_le _ | (rw [hR]; decide)) (by first | decide | (simp [Value.category])) 8 rfl ?_
  refine g_cS1r (wt := 1) hX (c_S_lastBuild hX.tr hW hB (q_slide_lt hs)) dS_click_8 kS_260 (g_rm.of hR (by decide) (by decide)) (by first | exact Nat.zero_le _ | (rw [hR]; decide)) (by first | exact Nat.zero_le _ | (rw [hR]; decide)) (by first | decide | (simp [Value.category])) 11 rfl ?_
  refine g_icmp_ge hX dS_click_11 31 14 (by decide) rfl (fun c11 => ?_) (fun c11 => ?_)
  · refine g_aload_n hX dS_click_31 rfl rfl (by first | rfl | exact g_rfr _) 32 rfl ?_
    refine g_aload_n hX dS_click_32 rfl rfl (by first | rfl | exact g_rfr _) 33 rfl ?_
    refine g_get (v := .int (nI (q_at S))) hX dS_click_33 fS_37 (w_s hW) (by rw [← w_sa_s hB hC hs]; rfl) 36 rfl ?_
    refine g_iconst hX dS_click_36 (v := 1) (by decide) 37 rfl ?_
    refine g_iadd hX dS_click_37 38 rfl ?_
    rw [nI_1 (q_at S)]
    refine g_cV1r (wt := 0) hX ((show g_Rd X.l mS_findSlide 3 40 [.ref (A 0 0), .int (nI (q_at S + 1))] E h (some .null) by have h9 := c_S_findSlide hX.tr hW hB (nI (q_at S + 1)); rw [hm] at h9; exact h9)) dS_click_38 (w_s hW) kS_268 (g_rm.of hR (by decide) (by decide)) (by first | exact Nat.zero_le _ | (rw [hR]; decide)) (by first | exact Nat.zero_le _ | (rw [hR]; decide)) (by first | decide | (simp [Value.category])) 41 rfl ?_
    refine g_ifnonnull (r := none) hX dS_click_41 46 44 (by decide) rfl (fun a q => by cases q) (fun _ => ?_)
    refine g_iconst hX dS_click_44 (v := 0) (by decide) 45 rfl ?_
    exact g_iret hX rfl rfl dS_click_45 ⟨rfl, hW⟩ rfl (Nat.zero_le _) (Nat.zero_le _)
  · exact absurd hl0 c11
set_option maxRecDepth 100000 in
set_option maxHeartbeats 4000000 in
theorem c_S_click_d {l : Launch} (hl : l.stackTraces = false) {E : g_E} {A : w_A} {S Sm : q_S} {h : g_H} (hW : w_W E A S Sm h) (hB : w_B S) {p p2 : Nat} (hC : w_C S) (hs : q_slide S (nI (q_at S)) = some p) (hl0 : nI (q_last S p) ≤ nI (q_clicks S)) (hm : q_slide S (nI (q_at S + 1)) = some p2) : g_Ct l mS_click 5 66 0 0 [.ref (A 0 0)] E h (false, fun r h' => r = .inr (some (.int 1)) ∧ w_W E A (q_up2 (q_up1 (q_up1 S 0 3 (q_at S + 1)) 0 4 0) 13 0 0) Sm h') := by
  refine g_Ct.of hl (by decide) (by first | rfl | simp [g_rfc, Value.category]) (Nat.le_of_ble_eq_true rfl) ?_
  intro X hX hXl hR
  obtain ⟨hnp, hns, hne, hpar, hhome, hact⟩ := id hB
  show g_Go E X _ h true 0 0 0 [some (.ref (A 0 0))] []
  refine g_aload_n hX dS_click_0 rfl rfl (by first | rfl | exact g_rfr _) 1 rfl ?_
  refine g_get hX dS_click_1 fS_41 (w_s hW) rfl 4 rfl ?_
  refine g_aload_n hX dS_click_4 rfl rfl (by first | rfl | exact g_rfr _) 5 rfl ?_
  refine g_cV0r (wt := 1) hX ((show g_Rd X.l mS_slideShown 4 53 [.ref (A 0 0)] E h (some (.ref (A 2 p))) by have h9 := c_S_slideShown hX.tr hW hB hC; rw [hs] at h9; exact h9)) dS_click_5 (w_s hW) kS_252 (g_rm.of hR (by decide) (by decide)) (by first | exact Nat.zero_le _ | (rw [hR]; decide)) (by first | exact Nat.zero_le _ | (rw [hR]; decide)) (by first | decide | (simp [Value.category])) 8 rfl ?_
  refine g_cS1r (wt := 1) hX (c_S_lastBuild hX.tr hW hB (q_slide_lt hs)) dS_click_8 kS_260 (g_rm.of hR (by decide) (by decide)) (by first | exact Nat.zero_le _ | (rw [hR]; decide)) (by first | exact Nat.zero_le _ | (rw [hR]; decide)) (by first | decide | (simp [Value.category])) 11 rfl ?_
  refine g_icmp_ge hX dS_click_11 31 14 (by decide) rfl (fun c11 => ?_) (fun c11 => ?_)
  · refine g_aload_n hX dS_click_31 rfl rfl (by first | rfl | exact g_rfr _) 32 rfl ?_
    refine g_aload_n hX dS_click_32 rfl rfl (by first | rfl | exact g_rfr _) 33 rfl ?_
    refine g_get (v := .int (nI (q_at S))) hX dS_click_33 fS_37 (w_s hW) (by rw [← w_sa_s hB hC hs]; rfl) 36 rfl ?_
    refine g_iconst hX dS_click_36 (v := 1) (by decide) 37 rfl ?_
    refine g_iadd hX dS_click_37 38 rfl ?_
    rw [nI_1 (q_at S)]
    refine g_cV1r (wt := 0) hX ((show g_Rd X.l mS_findSlide 3 40 [.ref (A 0 0), .int (nI (q_at S + 1))] E h (some (.ref (A 2 p2))) by have h9 := c_S_findSlide hX.tr hW hB (nI (q_at S + 1)); rw [hm] at h9; exact h9)) dS_click_38 (w_s hW) kS_268 (g_rm.of hR (by decide) (by decide)) (by first | exact Nat.zero_le _ | (rw [hR]; decide)) (by first | exact Nat.zero_le _ | (rw [hR]; decide)) (by first | decide | (simp [Value.category])) 41 rfl ?_
    refine g_ifnonnull (r := some (A 2 p2)) hX dS_click_41 46 44 (by decide) rfl (fun _ _ => ?_) (fun q => by cases q)
    refine g_aload_n hX dS_click_46 rfl rfl (by first | rfl | exact g_rfr _) 47 rfl ?_
    refine g_aload_n hX dS_click_47 rfl rfl (by first | rfl | exact g_rfr _) 48 rfl ?_
    refine g_get (v := .int (nI (q_at S))) hX dS_click_48 fS_37 (w_s hW) (by rw [← w_sa_s hB hC hs]; rfl) 51 rfl ?_
    refine g_iconst hX dS_click_51 (v := 1) (by decide) 52 rfl ?_
    refine g_iadd hX dS_click_52 53 rfl ?_
    rw [nI_1 (q_at S)]
    refine g_iconst hX dS_click_53 (v := 0) (by decide) 54 rfl ?_
    refine g_iconst hX dS_click_54 (v := 0) (by decide) 55 rfl ?_
    refine g_cV3 (wt := 0) hX (c_S_show (c := 0) hX.tr hW hB (q_sl_ne hB hC hs)) dS_click_55 (w_s hW) kS_264 (g_rm.of hR (by decide) (by decide)) (by first | exact Nat.zero_le _ | (rw [hR]; decide)) (by first | exact Nat.zero_le _ | (rw [hR]; decide)) (by first | decide | (simp [Value.category])) (fun q => by cases q) 58 rfl (fun v h hP => ?_) (fun k h hP => by cases hP.1)
    obtain ⟨hv, hW⟩ := hP
    cases hv
    show g_Go E X _ h false 0 0 58 _ []
    refine g_iconst hX dS_click_58 (v := 1) (by decide) 59 rfl ?_
    exact g_iret hX rfl rfl dS_click_59 ⟨rfl, hW⟩ rfl (Nat.zero_le _) (Nat.zero_le _)
  · exact absurd hl0 c11
set_option maxRecDepth 100000 in
set_option maxHeartbeats 4000000 in
theorem c_S_back_b {l : Launch} (hl : l.stackTraces = false) {E : g_E} {A : w_A} {S Sm : q_S} {h : g_H} (hW : w_W E A S Sm h) (hB : w_B S) {n p : Nat} (hn : q_clicks S = n + 1) (hn31 : n + 1 < 2 ^ 31) (ha31 : q_at S < 2 ^ 31) (hC : w_C S) (hs : q_slide S (nI (q_at S)) = some p) : g_Ct l mS_back 5 73 0 0 [.ref (A 0 0)] E h (false, fun r h' => r = .inr (some (.int 1)) ∧ w_W E A (q_up2 (q_up1 (q_up1 S 0 3 (q_at S)) 0 4 n) 13 0 (q_len S p (nI n) (q_ne S))) Sm h') := by
  refine g_Ct.of hl (by decide) (by first | rfl | simp [g_rfc, Value.category]) (Nat.le_of_ble_eq_true rfl) ?_
  intro X hX hXl hR
  obtain ⟨hnp, hns, hne, hpar, hhome, hact⟩ := id hB
  show g_Go E X _ h true 0 0 0 [some (.ref (A 0 0)), none] []
  refine g_aload_n hX dS_back_0 rfl rfl (by first | rfl | exact g_rfr _) 1 rfl ?_
  refine g_get hX dS_back_1 fS_41 (w_s hW) rfl 4 rfl ?_
  refine g_if_le hX dS_back_4 23 7 (by decide) rfl (fun c4 => ?_) (fun c4 => ?_)
  · exact absurd c4 (by show ¬ nI (q_clicks S) ≤ 0; rw [hn]; exact nI_nle (by omega) hn31)
  · refine g_aload_n hX dS_back_7 rfl rfl (by first | rfl | exact g_rfr _) 8 rfl ?_
    refine g_aload_n hX dS_back_8 rfl rfl (by first | rfl | exact g_rfr _) 9 rfl ?_
    refine g_get (v := .int (nI (q_at S))) hX dS_back_9 fS_37 (w_s hW) (by rw [← w_sa_s hB hC hs]; rfl) 12 rfl ?_
    refine g_aload_n hX dS_back_12 rfl rfl (by first | rfl | exact g_rfr _) 13 rfl ?_
    refine g_get hX dS_back_13 fS_41 (w_s hW) rfl 16 rfl ?_
    refine g_iconst hX dS_back_16 (v := 1) (by decide) 17 rfl ?_
    refine g_isub hX dS_back_17 18 rfl ?_
    rw [show nI (q_clicks S) - 1 = nI n from by rw [hn]; exact nI_pred n]
    refine g_cV2 (wt := 0) hX (c_S_showEnd hX.tr hW hB ha31 hs) dS_back_18 (w_s hW) kS_271 (g_rm.of hR (by decide) (by decide)) (by first | exact Nat.zero_le _ | (rw [hR]; decide)) (by first | exact Nat.zero_le _ | (rw [hR]; decide)) (by first | decide | (simp [Value.category])) (fun q => by cases q) 21 rfl (fun v h hP => ?_) (fun k h hP => by cases hP.1)
    obtain ⟨hv, hW⟩ := hP
    cases hv
    show g_Go E X _ h false 0 0 21 _ []
    refine g_iconst hX dS_back_21 (v := 1) (by decide) 22 rfl ?_
    exact g_iret hX rfl rfl dS_back_22 ⟨rfl, hW⟩ rfl (Nat.zero_le _) (Nat.zero_le _)
set_option maxRecDepth 100000 in
set_option maxHeartbeats 4000000 in
theorem c_S_back_n {l : Launch} (hl : l.stackTraces = false) {E : g_E} {A : w_A} {S Sm : q_S} {h : g_H} (hW : w_W E A S Sm h) (hB : w_B S)  (hc : q_clicks S = 0) (hC : w_C S) (hs : q_slide S (nI (q_at S)) = none) : g_Ct l mS_back 5 73 0 0 [.ref (A 0 0)] E h (false, fun r h' => r = .inr (some (.int 0)) ∧ w_W E A (S) Sm h') := by
  refine g_Ct.of hl (by decide) (by first | rfl | simp [g_rfc, Value.category]) (Nat.le_of_ble_eq_true rfl) ?_
  intro X hX hXl hR
  obtain ⟨hnp, hns, hne, hpar, hhome, hact⟩ := id hB
  show g_Go E X _ h true 0 0 0 [some (.ref (A 0 0)), none] []
  refine g_aload_n hX dS_back_0 rfl rfl (by first | rfl | exact g_rfr _) 1 rfl ?_
  refine g_get hX dS_back_1 fS_41 (w_s hW) rfl 4 rfl ?_
  refine g_if_le hX dS_back_4 23 7 (by decide) rfl (fun c4 => ?_) (fun c4 => ?_)
  · refine g_aload_n hX dS_back_23 rfl rfl (by first | rfl | exact g_rfr _) 24 rfl ?_
    refine g_aload_n hX dS_back_24 rfl rfl (by first | rfl | exact g_rfr _) 25 rfl ?_
    refine g_get (v := .int (-1)) hX dS_back_25 fS_37 (w_s hW) (by rw [← w_sa_n hB hC hs]; rfl) 28 rfl ?_
    refine g_iconst hX dS_back_28 (v := 1) (by decide) 29 rfl ?_
    refine g_isub hX dS_back_29 30 rfl ?_
    refine g_cV1r (wt := 0) hX (c_S_findSlide_n hX.tr hW hB (Or.inl (by decide))) dS_back_30 (w_s hW) kS_268 (g_rm.of hR (by decide) (by decide)) (by first | exact Nat.zero_le _ | (rw [hR]; decide)) (by first | exact Nat.zero_le _ | (rw [hR]; decide)) (by first | decide | (simp [Value.category])) 33 rfl ?_
    refine g_astore_n hX (L' := [_, _]) dS_back_33 rfl (by decide) (by first | rfl | exact g_rfr _) rfl 34 rfl ?_
    refine g_aload_n hX dS_back_34 rfl rfl (by first | rfl | exact g_rfr _) 35 rfl ?_
    refine g_ifnonnull (r := none) hX dS_back_35 40 38 (by decide) rfl (fun a q => by cases q) (fun _ => ?_)
    refine g_iconst hX dS_back_38 (v := 0) (by decide) 39 rfl ?_
    exact g_iret hX rfl rfl dS_back_39 ⟨rfl, hW⟩ rfl (Nat.zero_le _) (Nat.zero_le _)
  · exact absurd (show nI (q_clicks S) ≤ 0 by rw [hc]; decide) c4
set_option maxRecDepth 100000 in
set_option maxHeartbeats 4000000 in
theorem c_S_back_a {l : Launch} (hl : l.stackTraces = false) {E : g_E} {A : w_A} {S Sm : q_S} {h : g_H} (hW : w_W E A S Sm h) (hB : w_B S) {p : Nat} (hc : q_clicks S = 0) (ha : q_at S = 0) (hC : w_C S) (hs : q_slide S (nI (q_at S)) = some p) : g_Ct l mS_back 5 73 0 0 [.ref (A 0 0)] E h (false, fun r h' => r = .inr (some (.int 0)) ∧ w_W E A (S) Sm h') := by
  refine g_Ct.of hl (by decide) (by first | rfl | simp [g_rfc, Value.category]) (Nat.le_of_ble_eq_true rfl) ?_
  intro X hX hXl hR
  obtain ⟨hnp, hns, hne, hpar, hhome, hact⟩ := id hB
  show g_Go E X _ h true 0 0 0 [some (.ref (A 0 0)), none] []
  refine g_aload_n hX dS_back_0 rfl rfl (by first | rfl | exact g_rfr _) 1 rfl ?_
  refine g_get hX dS_back_1 fS_41 (w_s hW) rfl 4 rfl ?_
  refine g_if_le hX dS_back_4 23 7 (by decide) rfl (fun c4 => ?_) (fun c4 => ?_)
  · refine g_aload_n hX dS_back_23 rfl rfl (by first | rfl | exact g_rfr _) 24 rfl ?_
    refine g_aload_n hX dS_back_24 rfl rfl (by first | rfl | exact g_rfr _) 25 rfl ?_
    refine g_get (v := .int 0) hX dS_back_25 fS_37 (w_s hW) (by rw [show (0 : Int32) = w_slideAt S by rw [w_sa_s hB hC hs, ha]; rfl]; rfl) 28 rfl ?_
    refine g_iconst hX dS_back_28 (v := 1) (by decide) 29 rfl ?_
    refine g_isub hX dS_back_29 30 rfl ?_
    refine g_cV1r (wt := 0) hX (c_S_findSlide_n hX.tr hW hB (Or.inl (by decide))) dS_back_30 (w_s hW) kS_268 (g_rm.of hR (by decide) (by decide)) (by first | exact Nat.zero_le _ | (rw [hR]; decide)) (by first | exact Nat.zero_le _ | (rw [hR]; decide)) (by first | decide | (simp [Value.category])) 33 rfl ?_
    refine g_astore_n hX (L' := [_, _]) dS_back_33 rfl (by decide) (by first | rfl | exact g_rfr _) rfl 34 rfl ?_
    refine g_aload_n hX dS_back_34 rfl rfl (by first | rfl | exact g_rfr _) 35 rfl ?_
    refine g_ifnonnull (r := none) hX dS_back_35 40 38 (by decide) rfl (fun a q => by cases q) (fun _ => ?_)
    refine g_iconst hX dS_back_38 (v := 0) (by decide) 39 rfl ?_
    exact g_iret hX rfl rfl dS_back_39 ⟨rfl, hW⟩ rfl (Nat.zero_le _) (Nat.zero_le _)
  · exact absurd (show nI (q_clicks S) ≤ 0 by rw [hc]; decide) c4
set_option maxRecDepth 100000 in
set_option maxHeartbeats 4000000 in
theorem c_S_back_c {l : Launch} (hl : l.stackTraces = false) {E : g_E} {A : w_A} {S Sm : q_S} {h : g_H} (hW : w_W E A S Sm h) (hB : w_B S) {a p0 p : Nat} (hc : q_clicks S = 0) (ha : q_at S = a + 1) (ha31 : a + 1 < 2 ^ 31) (hC : w_C S) (hs : q_slide S (nI (q_at S)) = some p0) (hm : q_slide S (nI a) = some p) : g_Ct l mS_back 5 73 0 0 [.ref (A 0 0)] E h (false, fun r h' => r = .inr (some (.int 1)) ∧ w_W E A (q_up2 (q_up1 (q_up1 S 0 3 a) 0 4 (q_last S p)) 13 0 (q_len S p (nI (q_last S p)) (q_ne S))) Sm h') := by
  refine g_Ct.of hl (by decide) (by first | rfl | simp [g_rfc, Value.category]) (Nat.le_of_ble_eq_true rfl) ?_
  intro X hX hXl hR
  obtain ⟨hnp, hns, hne, hpar, hhome, hact⟩ := id hB
  show g_Go E X _ h true 0 0 0 [some (.ref (A 0 0)), none] []
  refine g_aload_n hX dS_back_0 rfl rfl (by first | rfl | exact g_rfr _) 1 rfl ?_
  refine g_get hX dS_back_1 fS_41 (w_s hW) rfl 4 rfl ?_
  refine g_if_le hX dS_back_4 23 7 (by decide) rfl (fun c4 => ?_) (fun c4 => ?_)
  · refine g_aload_n hX dS_back_23 rfl rfl (by first | rfl | exact g_rfr _) 24 rfl ?_
    refine g_aload_n hX dS_back_24 rfl rfl (by first | rfl | exact g_rfr _) 25 rfl ?_
    refine g_get (v := .int (nI (q_at S))) hX dS_back_25 fS_37 (w_s hW) (by rw [← w_sa_s hB hC hs]; rfl) 28 rfl ?_
    refine g_iconst hX dS_back_28 (v := 1) (by decide) 29 rfl ?_
    refine g_isub hX dS_back_29 30 rfl ?_
    rw [show nI (q_at S) - 1 = nI a from by rw [ha]; exact nI_pred a]
    refine g_cV1r (wt := 0) hX ((show g_Rd X.l mS_findSlide 3 40 [.ref (A 0 0), .int (nI a)] E h (some (.ref (A 2 p))) by have h9 := c_S_findSlide hX.tr hW hB (nI a); rw [hm] at h9; exact h9)) dS_back_30 (w_s hW) kS_268 (g_rm.of hR (by decide) (by decide)) (by first | exact Nat.zero_le _ | (rw [hR]; decide)) (by first | exact Nat.zero_le _ | (rw [hR]; decide)) (by first | decide | (simp [Value.category])) 33 rfl ?_
    refine g_astore_n hX (L' := [_, _]) dS_back_33 rfl (by decide) (by first | rfl | exact g_rfr _) rfl 34 rfl ?_
    refine g_aload_n hX dS_back_34 rfl rfl (by first | rfl | exact g_rfr _) 35 rfl ?_
    refine g_ifnonnull (r := some (A 2 p)) hX dS_back_35 40 38 (by decide) rfl (fun _ _ => ?_) (fun q => by cases q)
    refine g_aload_n hX dS_back_40 rfl rfl (by first | rfl | exact g_rfr _) 41 rfl ?_
    refine g_aload_n hX dS_back_41 rfl rfl (by first | rfl | exact g_rfr _) 42 rfl ?_
    refine g_get (v := .int (nI (q_at S))) hX dS_back_42 fS_37 (w_s hW) (by rw [← w_sa_s hB hC hs]; rfl) 45 rfl ?_
    refine g_iconst hX dS_back_45 (v := 1) (by decide) 46 rfl ?_
    refine g_isub hX dS_back_46 47 rfl ?_
    rw [show nI (q_at S) - 1 = nI a from by rw [ha]; exact nI_pred a]
    refine g_aload_n hX dS_back_47 rfl rfl (by first | rfl | exact g_rfr _) 48 rfl ?_
    refine g_cS1r (wt := 2) hX (c_S_lastBuild hX.tr hW hB (q_slide_lt hm)) dS_back_48 kS_260 (g_rm.of hR (by decide) (by decide)) (by first | exact Nat.zero_le _ | (rw [hR]; decide)) (by first | exact Nat.zero_le _ | (rw [hR]; decide)) (by first | decide | (simp [Value.category])) 51 rfl ?_
    refine g_cV2 (wt := 0) hX (c_S_showEnd hX.tr hW hB (by omega) hm) dS_back_51 (w_s hW) kS_271 (g_rm.of hR (by decide) (by decide)) (by first | exact Nat.zero_le _ | (rw [hR]; decide)) (by first | exact Nat.zero_le _ | (rw [hR]; decide)) (by first | decide | (simp [Value.category])) (fun q => by cases q) 54 rfl (fun v h hP => ?_) (fun k h hP => by cases hP.1)
    obtain ⟨hv, hW⟩ := hP
    cases hv
    show g_Go E X _ h false 0 0 54 _ []
    refine g_iconst hX dS_back_54 (v := 1) (by decide) 55 rfl ?_
    exact g_iret hX rfl rfl dS_back_55 ⟨rfl, hW⟩ rfl (Nat.zero_le _) (Nat.zero_le _)
  · exact absurd (show nI (q_clicks S) ≤ 0 by rw [hc]; decide) c4
set_option maxRecDepth 100000 in
set_option maxHeartbeats 4000000 in
theorem c_S_jump_1 {l : Launch} (hl : l.stackTraces = false) {E : g_E} {A : w_A} {S Sm : q_S} {h : g_H} (hW : w_W E A S Sm h) (hB : w_B S) {k : Int32} (hk : q_slide S k = none) : g_Ct l mS_jump 6 82 1 6 [.ref (A 0 0), .int k] E h (false, fun r h' => r = .inl 1 ∧ h' = h) := by
  refine g_Ct.of hl (by decide) (by first | rfl | simp [g_rfc, Value.category]) (Nat.le_of_ble_eq_true rfl) ?_
  intro X hX hXl hR
  obtain ⟨hnp, hns, hne, hpar, hhome, hact⟩ := id hB
  show g_Go E X _ h true 0 0 0 [some (.ref (A 0 0)), some (.int k)] []
  refine g_aload_n hX dS_jump_0 rfl rfl (by first | rfl | exact g_rfr _) 1 rfl ?_
  refine g_iload_n hX dS_jump_1 rfl rfl 2 rfl ?_
  refine g_cV1r (wt := 0) hX ((show g_Rd X.l mS_findSlide 3 40 [.ref (A 0 0), .int k] E h (some .null) by have h9 := c_S_findSlide hX.tr hW hB k; rw [hk] at h9; exact h9)) dS_jump_2 (w_s hW) kS_268 (g_rm.of hR (by decide) (by decide)) (by first | exact Nat.zero_le _ | (rw [hR]; decide)) (by first | exact Nat.zero_le _ | (rw [hR]; decide)) (by first | decide | (simp [Value.category])) 5 rfl ?_
  refine g_ifnonnull (r := none) hX dS_jump_5 19 8 (by decide) rfl (fun a q => by cases q) (fun _ => ?_)
  exact g_throwW (wt := 0) hX rfl dS_jump_8 dS_jump_11 dS_jump_12 dS_jump_15 dS_jump_18 rfl rfl rfl rfl (tx := "no such slide") (by simp [g_strs]) x_1 rfl ⟨rfl, rfl⟩ rfl (by rw [hR]; decide) (by rw [hR]; decide) (by rw [hR]; decide) (by decide) (by rw [hR]; decide)
set_option maxRecDepth 100000 in
set_option maxHeartbeats 4000000 in
theorem c_S_jump_0 {l : Launch} (hl : l.stackTraces = false) {E : g_E} {A : w_A} {S Sm : q_S} {h : g_H} (hW : w_W E A S Sm h) (hB : w_B S) {k p : Nat} (hk31 : k < 2 ^ 31) (hk : q_slide S (nI k) = some p) : g_Ct l mS_jump 6 82 0 0 [.ref (A 0 0), .int (nI k)] E h (false, fun r h' => r = .inr none ∧ w_W E A (q_up2 (q_up1 (q_up1 S 0 3 k) 0 4 0) 13 0 0) Sm h') := by
  refine g_Ct.of hl (by decide) (by first | rfl | simp [g_rfc, Value.category]) (Nat.le_of_ble_eq_true rfl) ?_
  intro X hX hXl hR
  obtain ⟨hnp, hns, hne, hpar, hhome, hact⟩ := id hB
  show g_Go E X _ h true 0 0 0 [some (.ref (A 0 0)), some (.int (nI k))] []
  refine g_aload_n hX dS_jump_0 rfl rfl (by first | rfl | exact g_rfr _) 1 rfl ?_
  refine g_iload_n hX dS_jump_1 rfl rfl 2 rfl ?_
  refine g_cV1r (wt := 0) hX ((show g_Rd X.l mS_findSlide 3 40 [.ref (A 0 0), .int (nI k)] E h (some (.ref (A 2 p))) by have h9 := c_S_findSlide hX.tr hW hB (nI k); rw [hk] at h9; exact h9)) dS_jump_2 (w_s hW) kS_268 (g_rm.of hR (by decide) (by decide)) (by first | exact Nat.zero_le _ | (rw [hR]; decide)) (by first | exact Nat.zero_le _ | (rw [hR]; decide)) (by first | decide | (simp [Value.category])) 5 rfl ?_
  refine g_ifnonnull (r := some (A 2 p)) hX dS_jump_5 19 8 (by decide) rfl (fun _ _ => ?_) (fun q => by cases q)
  refine g_aload_n hX dS_jump_19 rfl rfl (by first | rfl | exact g_rfr _) 20 rfl ?_
  refine g_iload_n hX dS_jump_20 rfl rfl 21 rfl ?_
  refine g_iconst hX dS_jump_21 (v := 0) (by decide) 22 rfl ?_
  refine g_iconst hX dS_jump_22 (v := 0) (by decide) 23 rfl ?_
  refine g_cV3 (wt := 0) hX (c_S_show (c := 0) hX.tr hW hB (q_sl_ne' hB hk31 hk)) dS_jump_23 (w_s hW) kS_264 (g_rm.of hR (by decide) (by decide)) (by first | exact Nat.zero_le _ | (rw [hR]; decide)) (by first | exact Nat.zero_le _ | (rw [hR]; decide)) (by first | decide | (simp [Value.category])) (fun q => by cases q) 26 rfl (fun v h hP => ?_) (fun k h hP => by cases hP.1)
  obtain ⟨hv, hW⟩ := hP
  cases hv
  show g_Go E X _ h false 0 0 26 _ []
  exact g_vret hX rfl dS_jump_26 ⟨rfl, by exact hW⟩ rfl (Nat.zero_le _) (Nat.zero_le _)
set_option maxRecDepth 100000 in
set_option maxHeartbeats 4000000 in
theorem c_S_tick_1 {l : Launch} (hl : l.stackTraces = false) {E : g_E} {A : w_A} {S Sm : q_S} {h : g_H} (hW : w_W E A S Sm h) (hB : w_B S) {n : Int32} (hn : n < 0 ∨ ¬ n ≤ 1000) : g_Ct l mS_tick 6 82 1 6 [.ref (A 0 0), .int n] E h (false, fun r h' => r = .inl 0 ∧ h' = h) := by
  refine g_Ct.of hl (by decide) (by first | rfl | simp [g_rfc, Value.category]) (Nat.le_of_ble_eq_true rfl) ?_
  intro X hX hXl hR
  obtain ⟨hnp, hns, hne, hpar, hhome, hact⟩ := id hB
  show g_Go E X _ h true 0 0 0 [some (.ref (A 0 0)), some (.int n)] []
  refine g_iload_n hX dS_tick_0 rfl rfl 1 rfl ?_
  refine g_iconst hX dS_tick_1 (v := 0) (by decide) 2 rfl ?_
  refine g_sipush hX dS_tick_2 (v := 1000) (by decide) 5 rfl ?_
  refine g_cS3r (wt := 0) hX (c_S_isWithin hX.tr E h _ _ _) dS_tick_5 kS_47 (g_rm.of hR (by decide) (by decide)) (by first | exact Nat.zero_le _ | (rw [hR]; decide)) (by first | exact Nat.zero_le _ | (rw [hR]; decide)) (by first | decide | (simp [Value.category])) 8 rfl ?_
  refine g_if_ne hX dS_tick_8 22 11 (by decide) rfl (fun c8 => ?_) (fun c8 => ?_)
  · exact absurd (r_in_0 hn) c8
  · exact g_throwW (wt := 0) hX rfl dS_tick_11 dS_tick_14 dS_tick_15 dS_tick_18 dS_tick_21 rfl rfl rfl rfl (tx := "no such time to pass") (by simp [g_strs]) x_0 rfl ⟨rfl, rfl⟩ rfl (by rw [hR]; decide) (by rw [hR]; decide) (by rw [hR]; decide) (by decide) (by rw [hR]; decide)
set_option maxRecDepth 100000 in
set_option maxHeartbeats 4000000 in
theorem c_S_tick_0 {l : Launch} (hl : l.stackTraces = false) {E : g_E} {A : w_A} {S Sm : q_S} {h : g_H} (hW : w_W E A S Sm h) (hB : w_B S) {n : Int32} (hn : ¬ n < 0) (hn2 : n ≤ 1000) : g_Ct l mS_tick 6 82 0 0 [.ref (A 0 0), .int n] E h (false, fun r h' => r = .inr none ∧ w_W E A (q_up2 S 13 0 (if q_time S + n ≤ 1000000 then q_time S + n else 1000000)) Sm h') := by
  refine g_Ct.of hl (by decide) (by first | rfl | simp [g_rfc, Value.category]) (Nat.le_of_ble_eq_true rfl) ?_
  intro X hX hXl hR
  obtain ⟨hnp, hns, hne, hpar, hhome, hact⟩ := id hB
  show g_Go E X _ h true 0 0 0 [some (.ref (A 0 0)), some (.int n)] []
  refine g_iload_n hX dS_tick_0 rfl rfl 1 rfl ?_
  refine g_iconst hX dS_tick_1 (v := 0) (by decide) 2 rfl ?_
  refine g_sipush hX dS_tick_2 (v := 1000) (by decide) 5 rfl ?_
  refine g_cS3r (wt := 0) hX (c_S_isWithin hX.tr E h _ _ _) dS_tick_5 kS_47 (g_rm.of hR (by decide) (by decide)) (by first | exact Nat.zero_le _ | (rw [hR]; decide)) (by first | exact Nat.zero_le _ | (rw [hR]; decide)) (by first | decide | (simp [Value.category])) 8 rfl ?_
  refine g_if_ne hX dS_tick_8 22 11 (by decide) rfl (fun c8 => ?_) (fun c8 => ?_)
  · refine g_aload_n hX dS_tick_22 rfl rfl (by first | rfl | exact g_rfr _) 23 rfl ?_
    refine g_aload_n hX dS_tick_23 rfl rfl (by first | rfl | exact g_rfr _) 24 rfl ?_
    refine g_get hX dS_tick_24 fS_44 (w_s hW) rfl 27 rfl ?_
    refine g_iload_n hX dS_tick_27 rfl rfl 28 rfl ?_
    refine g_iadd hX dS_tick_28 29 rfl ?_
    refine g_ldcw hX dS_tick_29 lS_278 32 rfl ?_
    refine g_mmin (wt := 1) hX dS_tick_32 kS_279 (by rw [hR]; decide) (by simp [Value.category]) (by rw [hR]; decide) (Nat.zero_le _) (Nat.zero_le _) 35 rfl ?_
    rw [q_mn_le]
    refine g_put0 hX dS_tick_35 fS_44 (w_s hW) (w_cb hW 0 0 (by decide) ⟨rfl, by decide⟩) rfl rfl (Nat.le_of_ble_eq_true rfl) 38 rfl ?_
    exact g_vret hX rfl dS_tick_38 ⟨rfl, by exact w_putC (Tc := q_up2 S 13 0 (if q_time S + n ≤ 1000000 then q_time S + n else 1000000)) (k0 := 0) (i0 := 0) hW (by decide) ⟨rfl, by decide⟩ ⟨rfl, rfl, rfl, rfl, rfl, rfl, rfl⟩ w_uc13 w_tk_cell.symm⟩ rfl (Nat.zero_le _) (Nat.zero_le _)
  · exact absurd (c8.symm.trans (r_in_1 hn hn2)) (by decide)
set_option maxRecDepth 100000 in
set_option maxHeartbeats 4000000 in
theorem c_S_amount_1 {l : Launch} (hl : l.stackTraces = false) {E : g_E} {A : w_A} {S Sm : q_S} {h : g_H} (hW : w_W E A S Sm h) (hB : w_B S) {s : Int32} (a : Int32) (hs : r_noEffect S s = 1) : g_Ct l mS_amount 7 95 1 6 [.ref (A 0 0), .int s, .int a] E h (false, fun r h' => r = .inl 1 ∧ h' = h) := by
  refine g_Ct.of hl (by decide) (by first | rfl | simp [g_rfc, Value.category]) (Nat.le_of_ble_eq_true rfl) ?_
  intro X hX hXl hR
  obtain ⟨hnp, hns, hne, hpar, hhome, hact⟩ := id hB
  show g_Go E X _ h true 0 0 0 [some (.ref (A 0 0)), some (.int s), some (.int a), none] []
  refine g_aload_n hX dS_amount_0 rfl rfl (by first | rfl | exact g_rfr _) 1 rfl ?_
  refine g_iload_n hX dS_amount_1 rfl rfl 2 rfl ?_
  refine g_cV1 (wt := 0) hX (c_S_findEffect_1 hX.tr hW hB hs) dS_amount_2 (w_s hW) kS_231 (g_rm.of hR (by decide) (by decide)) (by first | exact Nat.zero_le _ | (rw [hR]; decide)) (by first | exact Nat.zero_le _ | (rw [hR]; decide)) (by first | decide | (simp [Value.category])) (fun q => by cases q) 5 rfl (fun v h' hP => by cases hP.1) (fun k h' hP => ?_)
  obtain ⟨hk9, hh9⟩ := hP
  cases hk9
  subst hh9
  exact g_Th.out hX rfl ⟨rfl, rfl⟩ rfl (by rw [hR]; decide) (by rw [hR]; decide)
set_option maxRecDepth 100000 in
set_option maxHeartbeats 4000000 in
theorem c_S_amount_2 {l : Launch} (hl : l.stackTraces = false) {E : g_E} {A : w_A} {S Sm : q_S} {h : g_H} (hW : w_W E A S Sm h) (hB : w_B S) {e : Nat} (he : e < q_ne S) {a : Int32} (ha : a < -40 ∨ ¬ a ≤ 40) : g_Ct l mS_amount 7 95 1 6 [.ref (A 0 0), .int (nI e), .int a] E h (false, fun r h' => r = .inl 0 ∧ h' = h) := by
  refine g_Ct.of hl (by decide) (by first | rfl | simp [g_rfc, Value.category]) (Nat.le_of_ble_eq_true rfl) ?_
  intro X hX hXl hR
  obtain ⟨hnp, hns, hne, hpar, hhome, hact⟩ := id hB
  show g_Go E X _ h true 0 0 0 [some (.ref (A 0 0)), some (.int (nI e)), some (.int a), none] []
  refine g_aload_n hX dS_amount_0 rfl rfl (by first | rfl | exact g_rfr _) 1 rfl ?_
  refine g_iload_n hX dS_amount_1 rfl rfl 2 rfl ?_
  refine g_cV1r (wt := 0) hX (c_S_findEffect hX.tr hW hB he) dS_amount_2 (w_s hW) kS_231 (g_rm.of hR (by decide) (by decide)) (by first | exact Nat.zero_le _ | (rw [hR]; decide)) (by first | exact Nat.zero_le _ | (rw [hR]; decide)) (by first | decide | (simp [Value.category])) 5 rfl ?_
  refine g_astore_n hX (L' := [_, _, _, _]) dS_amount_5 rfl (by decide) (by first | rfl | exact g_rfr _) rfl 6 rfl ?_
  refine g_iload_n hX dS_amount_6 rfl rfl 7 rfl ?_
  refine g_bipush hX dS_amount_7 (v := (-40)) (by decide) 9 rfl ?_
  refine g_bipush hX dS_amount_9 (v := 40) (by decide) 11 rfl ?_
  refine g_cS3r (wt := 0) hX (c_S_isWithin hX.tr E h _ _ _) dS_amount_11 kS_47 (g_rm.of hR (by decide) (by decide)) (by first | exact Nat.zero_le _ | (rw [hR]; decide)) (by first | exact Nat.zero_le _ | (rw [hR]; decide)) (by first | decide | (simp [Value.category])) 14 rfl ?_
  refine g_if_ne hX dS_amount_14 27 17 (by decide) rfl (fun c14 => ?_) (fun c14 => ?_)
  · exact absurd (r_in_0 ha) c14
  · exact g_throw (wt := 0) hX rfl dS_amount_17 dS_amount_20 dS_amount_21 dS_amount_23 dS_amount_26 rfl rfl rfl rfl (tx := "no such amount") (by simp [g_strs]) x_0 rfl ⟨rfl, rfl⟩ rfl (by rw [hR]; decide) (by rw [hR]; decide) (by rw [hR]; decide) (by decide) (by rw [hR]; decide)
set_option maxRecDepth 100000 in
set_option maxHeartbeats 4000000 in
theorem c_S_amount_0 {l : Launch} (hl : l.stackTraces = false) {E : g_E} {A : w_A} {S Sm : q_S} {h : g_H} (hW : w_W E A S Sm h) (hB : w_B S) {e : Nat} (he : e < q_ne S) {a : Int32} (ha : ¬ a < -40) (ha2 : a ≤ 40) : g_Ct l mS_amount 7 95 0 0 [.ref (A 0 0), .int (nI e), .int a] E h (false, fun r h' => r = .inr none ∧ w_W E A (q_up2 S 11 e a) Sm h') := by
  refine g_Ct.of hl (by decide) (by first | rfl | simp [g_rfc, Value.category]) (Nat.le_of_ble_eq_true rfl) ?_
  intro X hX hXl hR
  obtain ⟨hnp, hns, hne, hpar, hhome, hact⟩ := id hB
  show g_Go E X _ h true 0 0 0 [some (.ref (A 0 0)), some (.int (nI e)), some (.int a), none] []
  refine g_aload_n hX dS_amount_0 rfl rfl (by first | rfl | exact g_rfr _) 1 rfl ?_
  refine g_iload_n hX dS_amount_1 rfl rfl 2 rfl ?_
  refine g_cV1r (wt := 0) hX (c_S_findEffect hX.tr hW hB he) dS_amount_2 (w_s hW) kS_231 (g_rm.of hR (by decide) (by decide)) (by first | exact Nat.zero_le _ | (rw [hR]; decide)) (by first | exact Nat.zero_le _ | (rw [hR]; decide)) (by first | decide | (simp [Value.category])) 5 rfl ?_
  refine g_astore_n hX (L' := [_, _, _, _]) dS_amount_5 rfl (by decide) (by first | rfl | exact g_rfr _) rfl 6 rfl ?_
  refine g_iload_n hX dS_amount_6 rfl rfl 7 rfl ?_
  refine g_bipush hX dS_amount_7 (v := (-40)) (by decide) 9 rfl ?_
  refine g_bipush hX dS_amount_9 (v := 40) (by decide) 11 rfl ?_
  refine g_cS3r (wt := 0) hX (c_S_isWithin hX.tr E h _ _ _) dS_amount_11 kS_47 (g_rm.of hR (by decide) (by decide)) (by first | exact Nat.zero_le _ | (rw [hR]; decide)) (by first | exact Nat.zero_le _ | (rw [hR]; decide)) (by first | decide | (simp [Value.category])) 14 rfl ?_
  refine g_if_ne hX dS_amount_14 27 17 (by decide) rfl (fun c14 => ?_) (fun c14 => ?_)
  · refine g_aload_n hX dS_amount_27 rfl rfl (by first | rfl | exact g_rfr _) 28 rfl ?_
    refine g_iload_n hX dS_amount_28 rfl rfl 29 rfl ?_
    refine g_put0 hX dS_amount_29 fS_237 (w_c hW 15 e (by decide) he) (w_cb hW 15 e (by decide) he) rfl rfl (Nat.le_of_ble_eq_true rfl) 32 rfl ?_
    exact g_vret hX rfl dS_amount_32 ⟨rfl, by exact w_putC (Tc := q_up2 S 11 e a) (k0 := 15) (i0 := e) hW (by decide) he ⟨rfl, rfl, rfl, rfl, rfl, rfl, rfl⟩ w_uc11 w_am_cell.symm⟩ rfl (Nat.zero_le _) (Nat.zero_le _)
  · exact absurd (c14.symm.trans (r_in_1 ha ha2)) (by decide)
set_option maxRecDepth 100000 in
set_option maxHeartbeats 4000000 in
theorem c_S_theme_1 {l : Launch} (hl : l.stackTraces = false) {E : g_E} {A : w_A} {S Sm : q_S} {h : g_H} (hW : w_W E A S Sm h) (hB : w_B S) {p : Int32} (v : Int32) (hp : r_noProperty p = 1) : g_Ct l mS_theme 8 107 1 6 [.ref (A 0 0), .int p, .int v] E h (false, fun r h' => r = .inl 0 ∧ h' = h) := by
  refine g_Ct.of hl (by decide) (by first | rfl | simp [g_rfc, Value.category]) (Nat.le_of_ble_eq_true rfl) ?_
  intro X hX hXl hR
  obtain ⟨hnp, hns, hne, hpar, hhome, hact⟩ := id hB
  show g_Go E X _ h true 0 0 0 [some (.ref (A 0 0)), some (.int p), some (.int v)] []
  refine g_iload_n hX dS_theme_0 rfl rfl 1 rfl ?_
  refine g_iload_n hX dS_theme_1 rfl rfl 2 rfl ?_
  refine g_cS2 (wt := 0) hX (c_S_cv_1 hX.tr E h v hp) dS_theme_2 kS_119 (g_rm.of hR (by decide) (by decide)) (by first | exact Nat.zero_le _ | (rw [hR]; decide)) (by first | exact Nat.zero_le _ | (rw [hR]; decide)) (by first | decide | (simp [Value.category])) (fun q => by cases q) 5 rfl (fun v h' hP => by cases hP.1) (fun k h' hP => ?_)
  obtain ⟨hk9, hh9⟩ := hP
  cases hk9
  subst hh9
  exact g_Th.out hX rfl ⟨rfl, rfl⟩ rfl (by rw [hR]; decide) (by rw [hR]; decide)
set_option maxRecDepth 100000 in
set_option maxHeartbeats 4000000 in
theorem c_S_theme_2 {l : Launch} (hl : l.stackTraces = false) {E : g_E} {A : w_A} {S Sm : q_S} {h : g_H} (hW : w_W E A S Sm h) (hB : w_B S) {p : Nat} (hp : p < 7) {v : Int32} (hv : r_lim p v = 1) : g_Ct l mS_theme 8 107 1 6 [.ref (A 0 0), .int (nI p), .int v] E h (false, fun r h' => r = .inl 0 ∧ h' = h) := by
  refine g_Ct.of hl (by decide) (by first | rfl | simp [g_rfc, Value.category]) (Nat.le_of_ble_eq_true rfl) ?_
  intro X hX hXl hR
  obtain ⟨hnp, hns, hne, hpar, hhome, hact⟩ := id hB
  show g_Go E X _ h true 0 0 0 [some (.ref (A 0 0)), some (.int (nI p)), some (.int v)] []
  refine g_iload_n hX dS_theme_0 rfl rfl 1 rfl ?_
  refine g_iload_n hX dS_theme_1 rfl rfl 2 rfl ?_
  refine g_cS2 (wt := 0) hX (c_S_cv_2 hX.tr E h hp hv) dS_theme_2 kS_119 (g_rm.of hR (by decide) (by decide)) (by first | exact Nat.zero_le _ | (rw [hR]; decide)) (by first | exact Nat.zero_le _ | (rw [hR]; decide)) (by first | decide | (simp [Value.category])) (fun q => by cases q) 5 rfl (fun v h' hP => by cases hP.1) (fun k h' hP => ?_)
  obtain ⟨hk9, hh9⟩ := hP
  cases hk9
  subst hh9
  exact g_Th.out hX rfl ⟨rfl, rfl⟩ rfl (by rw [hR]; decide) (by rw [hR]; decide)
set_option maxRecDepth 100000 in
set_option maxHeartbeats 4000000 in
theorem c_S_theme_0 {l : Launch} (hl : l.stackTraces = false) {E : g_E} {A : w_A} {S Sm : q_S} {h : g_H} (hW : w_W E A S Sm h) (hB : w_B S) {p : Nat} (hp : p < 7) {v : Int32} (hv : r_lim p v = 0) : g_Ct l mS_theme 8 107 0 0 [.ref (A 0 0), .int (nI p), .int v] E h (false, fun r h' => r = .inr none ∧ w_W E A (q_up2 S 4 p v) Sm h') := by
  refine g_Ct.of hl (by decide) (by first | rfl | simp [g_rfc, Value.category]) (Nat.le_of_ble_eq_true rfl) ?_
  intro X hX hXl hR
  obtain ⟨hnp, hns, hne, hpar, hhome, hact⟩ := id hB
  show g_Go E X _ h true 0 0 0 [some (.ref (A 0 0)), some (.int (nI p)), some (.int v)] []
  refine g_iload_n hX dS_theme_0 rfl rfl 1 rfl ?_
  refine g_iload_n hX dS_theme_1 rfl rfl 2 rfl ?_
  refine g_cS2v (wt := 0) hX (c_S_cv_0 hX.tr E h hp hv) dS_theme_2 kS_119 (g_rm.of hR (by decide) (by decide)) (by first | exact Nat.zero_le _ | (rw [hR]; decide)) (by first | exact Nat.zero_le _ | (rw [hR]; decide)) (by first | decide | (simp [Value.category])) 5 rfl ?_
  refine g_aload_n hX dS_theme_5 rfl rfl (by first | rfl | exact g_rfr _) 6 rfl ?_
  refine g_get hX dS_theme_6 fS_10 (w_s hW) rfl 9 rfl ?_
  refine g_iload_n hX dS_theme_9 rfl rfl 10 rfl ?_
  refine g_iload_n hX dS_theme_10 rfl rfl 11 rfl ?_
  refine g_iast hX dS_theme_11 (w_c hW 1 0 (by decide) ⟨rfl, by decide⟩) (w_cb hW 1 0 (by decide) ⟨rfl, by decide⟩) (g_ix.nat hp (by decide)) 12 rfl ?_
  exact g_vret hX rfl dS_theme_12 ⟨rfl, by exact w_putC (Tc := q_up2 S 4 p v) (k0 := 1) (i0 := 0) hW (by decide) ⟨rfl, by decide⟩ ⟨rfl, rfl, rfl, rfl, rfl, rfl, rfl⟩ w_uc4 rfl⟩ rfl (Nat.zero_le _) (Nat.zero_le _)
set_option maxRecDepth 100000 in
set_option maxHeartbeats 4000000 in
theorem c_S_set_1 {l : Launch} (hl : l.stackTraces = false) {E : g_E} {A : w_A} {S Sm : q_S} {h : g_H} (hW : w_W E A S Sm h) (hB : w_B S) {s : Int32} (p v : Int32) (hs : r_noShape S s = 1) : g_Ct l mS_set 8 107 1 6 [.ref (A 0 0), .int s, .int p, .int v] E h (false, fun r h' => r = .inl 1 ∧ h' = h) := by
  refine g_Ct.of hl (by decide) (by first | rfl | simp [g_rfc, Value.category]) (Nat.le_of_ble_eq_true rfl) ?_
  intro X hX hXl hR
  obtain ⟨hnp, hns, hne, hpar, hhome, hact⟩ := id hB
  show g_Go E X _ h true 0 0 0 [some (.ref (A 0 0)), some (.int s), some (.int p), some (.int v), none] []
  refine g_aload_n hX dS_set_0 rfl rfl (by first | rfl | exact g_rfr _) 1 rfl ?_
  refine g_iload_n hX dS_set_1 rfl rfl 2 rfl ?_
  refine g_cV1 (wt := 0) hX (c_S_findShape_1 hX.tr hW hB hs) dS_set_2 (w_s hW) kS_123 (g_rm.of hR (by decide) (by decide)) (by first | exact Nat.zero_le _ | (rw [hR]; decide)) (by first | exact Nat.zero_le _ | (rw [hR]; decide)) (by first | decide | (simp [Value.category])) (fun q => by cases q) 5 rfl (fun v h' hP => by cases hP.1) (fun k h' hP => ?_)
  obtain ⟨hk9, hh9⟩ := hP
  cases hk9
  subst hh9
  exact g_Th.out hX rfl ⟨rfl, rfl⟩ rfl (by rw [hR]; decide) (by rw [hR]; decide)
set_option maxRecDepth 100000 in
set_option maxHeartbeats 4000000 in
theorem c_S_set_2 {l : Launch} (hl : l.stackTraces = false) {E : g_E} {A : w_A} {S Sm : q_S} {h : g_H} (hW : w_W E A S Sm h) (hB : w_B S) {j : Nat} (hj : j < q_ns S) {p : Int32} (v : Int32) (hp : r_noProperty p = 1) : g_Ct l mS_set 8 107 1 6 [.ref (A 0 0), .int (nI j), .int p, .int v] E h (false, fun r h' => r = .inl 0 ∧ h' = h) := by
  refine g_Ct.of hl (by decide) (by first | rfl | simp [g_rfc, Value.category]) (Nat.le_of_ble_eq_true rfl) ?_
  intro X hX hXl hR
  obtain ⟨hnp, hns, hne, hpar, hhome, hact⟩ := id hB
  show g_Go E X _ h true 0 0 0 [some (.ref (A 0 0)), some (.int (nI j)), some (.int p), some (.int v), none] []
  refine g_aload_n hX dS_set_0 rfl rfl (by first | rfl | exact g_rfr _) 1 rfl ?_
  refine g_iload_n hX dS_set_1 rfl rfl 2 rfl ?_
  refine g_cV1r (wt := 0) hX (c_S_findShape hX.tr hW hB hj) dS_set_2 (w_s hW) kS_123 (g_rm.of hR (by decide) (by decide)) (by first | exact Nat.zero_le _ | (rw [hR]; decide)) (by first | exact Nat.zero_le _ | (rw [hR]; decide)) (by first | decide | (simp [Value.category])) 5 rfl ?_
  refine g_astore hX (L' := [_, _, _, _, _]) dS_set_5 (by decide) (by first | rfl | exact g_rfr _) rfl 7 rfl ?_
  refine g_iload_n hX dS_set_7 rfl rfl 8 rfl ?_
  refine g_iload_n hX dS_set_8 rfl rfl 9 rfl ?_
  refine g_cS2 (wt := 0) hX (c_S_cv_1 hX.tr E h v hp) dS_set_9 kS_119 (g_rm.of hR (by decide) (by decide)) (by first | exact Nat.zero_le _ | (rw [hR]; decide)) (by first | exact Nat.zero_le _ | (rw [hR]; decide)) (by first | decide | (simp [Value.category])) (fun q => by cases q) 12 rfl (fun v h' hP => by cases hP.1) (fun k h' hP => ?_)
  obtain ⟨hk9, hh9⟩ := hP
  cases hk9
  subst hh9
  exact g_Th.out hX rfl ⟨rfl, rfl⟩ rfl (by rw [hR]; decide) (by rw [hR]; decide)
set_option maxRecDepth 100000 in
set_option maxHeartbeats 4000000 in
theorem c_S_set_3 {l : Launch} (hl : l.stackTraces = false) {E : g_E} {A : w_A} {S Sm : q_S} {h : g_H} (hW : w_W E A S Sm h) (hB : w_B S) {j : Nat} (hj : j < q_ns S) {p : Nat} (hp : p < 7) {v : Int32} (hv : r_lim p v = 1) : g_Ct l mS_set 8 107 1 6 [.ref (A 0 0), .int (nI j), .int (nI p), .int v] E h (false, fun r h' => r = .inl 0 ∧ h' = h) := by
  refine g_Ct.of hl (by decide) (by first | rfl | simp [g_rfc, Value.category]) (Nat.le_of_ble_eq_true rfl) ?_
  intro X hX hXl hR
  obtain ⟨hnp, hns, hne, hpar, hhome, hact⟩ := id hB
  show g_Go E X _ h true 0 0 0 [some (.ref (A 0 0)), some (.int (nI j)), some (.int (nI p)), some (.int v), none] []
  refine g_aload_n hX dS_set_0 rfl rfl (by first | rfl | exact g_rfr _) 1 rfl ?_
  refine g_iload_n hX dS_set_1 rfl rfl 2 rfl ?_
  refine g_cV1r (wt := 0) hX (c_S_findShape hX.tr hW hB hj) dS_set_2 (w_s hW) kS_123 (g_rm.of hR (by decide) (by decide)) (by first | exact Nat.zero_le _ | (rw [hR]; decide)) (by first | exact Nat.zero_le _ | (rw [hR]; decide)) (by first | decide | (simp [Value.category])) 5 rfl ?_
  refine g_astore hX (L' := [_, _, _, _, _]) dS_set_5 (by decide) (by first | rfl | exact g_rfr _) rfl 7 rfl ?_
  refine g_iload_n hX dS_set_7 rfl rfl 8 rfl ?_
  refine g_iload_n hX dS_set_8 rfl rfl 9 rfl ?_
  refine g_cS2 (wt := 0) hX (c_S_cv_2 hX.tr E h hp hv) dS_set_9 kS_119 (g_rm.of hR (by decide) (by decide)) (by first | exact Nat.zero_le _ | (rw [hR]; decide)) (by first | exact Nat.zero_le _ | (rw [hR]; decide)) (by first | decide | (simp [Value.category])) (fun q => by cases q) 12 rfl (fun v h' hP => by cases hP.1) (fun k h' hP => ?_)
  obtain ⟨hk9, hh9⟩ := hP
  cases hk9
  subst hh9
  exact g_Th.out hX rfl ⟨rfl, rfl⟩ rfl (by rw [hR]; decide) (by rw [hR]; decide)
set_option maxRecDepth 100000 in
set_option maxHeartbeats 4000000 in
theorem c_S_set_0 {l : Launch} (hl : l.stackTraces = false) {E : g_E} {A : w_A} {S Sm : q_S} {h : g_H} (hW : w_W E A S Sm h) (hB : w_B S) {j : Nat} (hj : j < q_ns S) {p : Nat} (hp : p < 7) {v : Int32} (hv : r_lim p v = 0) : g_Ct l mS_set 8 107 0 0 [.ref (A 0 0), .int (nI j), .int (nI p), .int v] E h (false, fun r h' => r = .inr none ∧ w_W E A (q_up2 (q_up2 S 2 (7 * j + p) 1) 3 (7 * j + p) v) Sm h') := by
  refine g_Ct.of hl (by decide) (by first | rfl | simp [g_rfc, Value.category]) (Nat.le_of_ble_eq_true rfl) ?_
  intro X hX hXl hR
  obtain ⟨hnp, hns, hne, hpar, hhome, hact⟩ := id hB
  show g_Go E X _ h true 0 0 0 [some (.ref (A 0 0)), some (.int (nI j)), some (.int (nI p)), some (.int v), none] []
  refine g_aload_n hX dS_set_0 rfl rfl (by first | rfl | exact g_rfr _) 1 rfl ?_
  refine g_iload_n hX dS_set_1 rfl rfl 2 rfl ?_
  refine g_cV1r (wt := 0) hX (c_S_findShape hX.tr hW hB hj) dS_set_2 (w_s hW) kS_123 (g_rm.of hR (by decide) (by decide)) (by first | exact Nat.zero_le _ | (rw [hR]; decide)) (by first | exact Nat.zero_le _ | (rw [hR]; decide)) (by first | decide | (simp [Value.category])) 5 rfl ?_
  refine g_astore hX (L' := [_, _, _, _, _]) dS_set_5 (by decide) (by first | rfl | exact g_rfr _) rfl 7 rfl ?_
  refine g_iload_n hX dS_set_7 rfl rfl 8 rfl ?_
  refine g_iload_n hX dS_set_8 rfl rfl 9 rfl ?_
  refine g_cS2v (wt := 0) hX (c_S_cv_0 hX.tr E h hp hv) dS_set_9 kS_119 (g_rm.of hR (by decide) (by decide)) (by first | exact Nat.zero_le _ | (rw [hR]; decide)) (by first | exact Nat.zero_le _ | (rw [hR]; decide)) (by first | decide | (simp [Value.category])) 12 rfl ?_
  refine g_aload hX dS_set_12 rfl (by first | rfl | exact g_rfr _) 14 rfl ?_
  refine g_get hX dS_set_14 fS_127 (w_c hW 7 j (by decide) hj) rfl 17 rfl ?_
  refine g_iload_n hX dS_set_17 rfl rfl 18 rfl ?_
  refine g_iconst hX dS_set_18 (v := 1) (by decide) 19 rfl ?_
  refine g_zast hX dS_set_19 (w_c hW 8 j (by decide) hj) (w_cb hW 8 j (by decide) hj) (g_ix.nat hp (by decide)) rfl 20 rfl ?_
  rw [w_own_cell hp 2]
  refine g_stepC hW 8 j (q_up2 S 2 (7 * j + p) 1) (by decide) hj ⟨rfl, rfl, rfl, rfl, rfl, rfl, rfl⟩ (w_uc2 hp) rfl (fun h hW => ?_)
  refine g_aload hX dS_set_20 rfl (by first | rfl | exact g_rfr _) 22 rfl ?_
  refine g_get hX dS_set_22 fS_131 (w_c hW 7 j (by decide) hj) rfl 25 rfl ?_
  refine g_iload_n hX dS_set_25 rfl rfl 26 rfl ?_
  refine g_iload_n hX dS_set_26 rfl rfl 27 rfl ?_
  refine g_iast hX dS_set_27 (w_c hW 9 j (by decide) hj) (w_cb hW 9 j (by decide) hj) (g_ix.nat hp (by decide)) 28 rfl ?_
  exact g_vret hX rfl dS_set_28 ⟨rfl, by rw [w_own_cell (S := q_up2 S 2 (7 * j + p) 1) hp 3]; exact w_putC (Tc := q_up2 (q_up2 S 2 (7 * j + p) 1) 3 (7 * j + p) v) (k0 := 9) (i0 := j) hW (by decide) hj ⟨rfl, rfl, rfl, rfl, rfl, rfl, rfl⟩ (w_uc3 hp) rfl⟩ rfl (Nat.zero_le _) (Nat.zero_le _)
set_option maxRecDepth 100000 in
set_option maxHeartbeats 4000000 in
theorem c_S_unset_1 {l : Launch} (hl : l.stackTraces = false) {E : g_E} {A : w_A} {S Sm : q_S} {h : g_H} (hW : w_W E A S Sm h) (hB : w_B S) {s : Int32} (p : Int32) (hs : r_noShape S s = 1) : g_Ct l mS_unset 7 95 1 6 [.ref (A 0 0), .int s, .int p] E h (false, fun r h' => r = .inl 1 ∧ h' = h) := by
  refine g_Ct.of hl (by decide) (by first | rfl | simp [g_rfc, Value.category]) (Nat.le_of_ble_eq_true rfl) ?_
  intro X hX hXl hR
  obtain ⟨hnp, hns, hne, hpar, hhome, hact⟩ := id hB
  show g_Go E X _ h true 0 0 0 [some (.ref (A 0 0)), some (.int s), some (.int p), none, none] []
  refine g_aload_n hX dS_unset_0 rfl rfl (by first | rfl | exact g_rfr _) 1 rfl ?_
  refine g_iload_n hX dS_unset_1 rfl rfl 2 rfl ?_
  refine g_cV1 (wt := 0) hX (c_S_findShape_1 hX.tr hW hB hs) dS_unset_2 (w_s hW) kS_123 (g_rm.of hR (by decide) (by decide)) (by first | exact Nat.zero_le _ | (rw [hR]; decide)) (by first | exact Nat.zero_le _ | (rw [hR]; decide)) (by first | decide | (simp [Value.category])) (fun q => by cases q) 5 rfl (fun v h' hP => by cases hP.1) (fun k h' hP => ?_)
  obtain ⟨hk9, hh9⟩ := hP
  cases hk9
  subst hh9
  exact g_Th.out hX rfl ⟨rfl, rfl⟩ rfl (by rw [hR]; decide) (by rw [hR]; decide)
set_option maxRecDepth 100000 in
set_option maxHeartbeats 4000000 in
theorem c_S_unset_2 {l : Launch} (hl : l.stackTraces = false) {E : g_E} {A : w_A} {S Sm : q_S} {h : g_H} (hW : w_W E A S Sm h) (hB : w_B S) {j : Nat} (hj : j < q_ns S) {p : Int32} (hp : r_noProperty p = 1) : g_Ct l mS_unset 7 95 1 6 [.ref (A 0 0), .int (nI j), .int p] E h (false, fun r h' => r = .inl 0 ∧ h' = h) := by
  refine g_Ct.of hl (by decide) (by first | rfl | simp [g_rfc, Value.category]) (Nat.le_of_ble_eq_true rfl) ?_
  intro X hX hXl hR
  obtain ⟨hnp, hns, hne, hpar, hhome, hact⟩ := id hB
  show g_Go E X _ h true 0 0 0 [some (.ref (A 0 0)), some (.int (nI j)), some (.int p), none, none] []
  refine g_aload_n hX dS_unset_0 rfl rfl (by first | rfl | exact g_rfr _) 1 rfl ?_
  refine g_iload_n hX dS_unset_1 rfl rfl 2 rfl ?_
  refine g_cV1r (wt := 0) hX (c_S_findShape hX.tr hW hB hj) dS_unset_2 (w_s hW) kS_123 (g_rm.of hR (by decide) (by decide)) (by first | exact Nat.zero_le _ | (rw [hR]; decide)) (by first | exact Nat.zero_le _ | (rw [hR]; decide)) (by first | decide | (simp [Value.category])) 5 rfl ?_
  refine g_astore_n hX (L' := [_, _, _, _, _]) dS_unset_5 rfl (by decide) (by first | rfl | exact g_rfr _) rfl 6 rfl ?_
  refine g_iload_n hX dS_unset_6 rfl rfl 7 rfl ?_
  refine g_cS1 (wt := 0) hX (c_S_cp_1 hX.tr E h hp) dS_unset_7 kS_134 (g_rm.of hR (by decide) (by decide)) (by first | exact Nat.zero_le _ | (rw [hR]; decide)) (by first | exact Nat.zero_le _ | (rw [hR]; decide)) (by first | decide | (simp [Value.category])) (fun q => by cases q) 10 rfl (fun v h' hP => by cases hP.1) (fun k h' hP => ?_)
  obtain ⟨hk9, hh9⟩ := hP
  cases hk9
  subst hh9
  exact g_Th.out hX rfl ⟨rfl, rfl⟩ rfl (by rw [hR]; decide) (by rw [hR]; decide)
set_option maxRecDepth 100000 in
set_option maxHeartbeats 4000000 in
theorem c_S_unset_0 {l : Launch} (hl : l.stackTraces = false) {E : g_E} {A : w_A} {S Sm : q_S} {h : g_H} (hW : w_W E A S Sm h) (hB : w_B S) {j : Nat} (hj : j < q_ns S) {p : Nat} (hp : p < 7) (hC : w_C S) : g_Ct l mS_unset 7 95 0 0 [.ref (A 0 0), .int (nI j), .int (nI p)] E h (false, fun r h' => r = .inr (some (.int (S.2 2 (7 * j + p)))) ∧ w_W E A (q_up2 S 2 (7 * j + p) 0) Sm h') := by
  refine g_Ct.of hl (by decide) (by first | rfl | simp [g_rfc, Value.category]) (Nat.le_of_ble_eq_true rfl) ?_
  intro X hX hXl hR
  obtain ⟨hnp, hns, hne, hpar, hhome, hact⟩ := id hB
  show g_Go E X _ h true 0 0 0 [some (.ref (A 0 0)), some (.int (nI j)), some (.int (nI p)), none, none] []
  refine g_aload_n hX dS_unset_0 rfl rfl (by first | rfl | exact g_rfr _) 1 rfl ?_
  refine g_iload_n hX dS_unset_1 rfl rfl 2 rfl ?_
  refine g_cV1r (wt := 0) hX (c_S_findShape hX.tr hW hB hj) dS_unset_2 (w_s hW) kS_123 (g_rm.of hR (by decide) (by decide)) (by first | exact Nat.zero_le _ | (rw [hR]; decide)) (by first | exact Nat.zero_le _ | (rw [hR]; decide)) (by first | decide | (simp [Value.category])) 5 rfl ?_
  refine g_astore_n hX (L' := [_, _, _, _, _]) dS_unset_5 rfl (by decide) (by first | rfl | exact g_rfr _) rfl 6 rfl ?_
  refine g_iload_n hX dS_unset_6 rfl rfl 7 rfl ?_
  refine g_cS1v (wt := 0) hX (c_S_cp_0 hX.tr E h hp) dS_unset_7 kS_134 (g_rm.of hR (by decide) (by decide)) (by first | exact Nat.zero_le _ | (rw [hR]; decide)) (by first | exact Nat.zero_le _ | (rw [hR]; decide)) (by first | decide | (simp [Value.category])) 10 rfl ?_
  refine g_aload_n hX dS_unset_10 rfl rfl (by first | rfl | exact g_rfr _) 11 rfl ?_
  refine g_get hX dS_unset_11 fS_127 (w_c hW 7 j (by decide) hj) rfl 14 rfl ?_
  refine g_iload_n hX dS_unset_14 rfl rfl 15 rfl ?_
  refine g_zald hX dS_unset_15 (w_c hW 8 j (by decide) hj) (g_ix.nat hp (by decide)) 16 rfl ?_
  rw [if_pos hp]
  refine g_istore hX (L' := [_, _, _, _, _]) dS_unset_16 (by decide) rfl 18 rfl ?_
  refine g_aload_n hX dS_unset_18 rfl rfl (by first | rfl | exact g_rfr _) 19 rfl ?_
  refine g_get hX dS_unset_19 fS_127 (w_c hW 7 j (by decide) hj) rfl 22 rfl ?_
  refine g_iload_n hX dS_unset_22 rfl rfl 23 rfl ?_
  refine g_iconst hX dS_unset_23 (v := 0) (by decide) 24 rfl ?_
  refine g_zast hX dS_unset_24 (w_c hW 8 j (by decide) hj) (w_cb hW 8 j (by decide) hj) (g_ix.nat hp (by decide)) rfl 25 rfl ?_
  refine g_iload hX dS_unset_25 rfl 27 rfl ?_
  exact g_iret hX rfl (by rcases hC.2.2.1 (7 * j + p) with q | q <;> (show narrow .boolean (.int (S.2 2 (7 * j + p))) = .int (S.2 2 (7 * j + p)); rw [q]; rfl)) dS_unset_27 ⟨rfl, by rw [w_own_cell hp 2]; exact w_putC (Tc := q_up2 S 2 (7 * j + p) 0) (k0 := 8) (i0 := j) hW (by decide) hj ⟨rfl, rfl, rfl, rfl, rfl, rfl, rfl⟩ (w_uc2 hp) rfl⟩ rfl (Nat.zero_le _) (Nat.zero_le _)
set_option maxRecDepth 100000 in
set_option maxHeartbeats 4000000 in
theorem c_S_pixel_1 {l : Launch} (hl : l.stackTraces = false) {E : g_E} {A : w_A} {S Sm : q_S} {h : g_H} (hW : w_W E A S Sm h) (hB : w_B S) {x y : Int32} (hx : x < 0 ∨ 24 ≤ x ∨ y < 0 ∨ ¬ y < 16) : g_Rd l mS_pixel 8 121 [.ref (A 0 0), .int x, .int y] E h (some (.int (-1))) := by
  refine g_Rd.of hl (by decide) (by first | rfl | simp [g_rfc, Value.category]) (Nat.le_of_ble_eq_true rfl) ?_
  intro X hX hXl hR
  obtain ⟨hnp, hns, hne, hpar, hhome, hact⟩ := id hB
  show g_Go E X _ h true 0 0 0 [some (.ref (A 0 0)), some (.int x), some (.int y), none, none] []
  refine g_iload_n hX dS_pixel_0 rfl rfl 1 rfl ?_
  refine g_iconst hX dS_pixel_1 (v := 0) (by decide) 2 rfl ?_
  refine g_bipush hX dS_pixel_2 (v := 23) (by decide) 4 rfl ?_
  refine g_cS3r (wt := 0) hX (c_S_isWithin hX.tr E h _ _ _) dS_pixel_4 kS_47 (g_rm.of hR (by decide) (by decide)) (by first | exact Nat.zero_le _ | (rw [hR]; decide)) (by first | exact Nat.zero_le _ | (rw [hR]; decide)) (by first | decide | (simp [Value.category])) 7 rfl ?_
  refine g_if_eq hX dS_pixel_7 20 10 (by decide) rfl (fun c7 => ?_) (fun c7 => ?_)
  · refine g_iconst hX dS_pixel_20 (v := (-1)) (by decide) 21 rfl ?_
    exact g_iret hX rfl rfl dS_pixel_21 ⟨rfl, rfl⟩ rfl (Nat.zero_le _) (Nat.zero_le _)
  · refine g_iload_n hX dS_pixel_10 rfl rfl 11 rfl ?_
    refine g_iconst hX dS_pixel_11 (v := 0) (by decide) 12 rfl ?_
    refine g_bipush hX dS_pixel_12 (v := 15) (by decide) 14 rfl ?_
    refine g_cS3r (wt := 0) hX (c_S_isWithin hX.tr E h _ _ _) dS_pixel_14 kS_47 (g_rm.of hR (by decide) (by decide)) (by first | exact Nat.zero_le _ | (rw [hR]; decide)) (by first | exact Nat.zero_le _ | (rw [hR]; decide)) (by first | decide | (simp [Value.category])) 17 rfl ?_
    refine g_if_ne hX dS_pixel_17 22 20 (by decide) rfl (fun c17 => ?_) (fun c17 => ?_)
    · exact absurd hx (q_px c7 c17)
    · refine g_iconst hX dS_pixel_20 (v := (-1)) (by decide) 21 rfl ?_
      exact g_iret hX rfl rfl dS_pixel_21 ⟨rfl, rfl⟩ rfl (Nat.zero_le _) (Nat.zero_le _)
set_option maxRecDepth 100000 in
set_option maxHeartbeats 4000000 in
theorem c_S_pixel_n {l : Launch} (hl : l.stackTraces = false) {E : g_E} {A : w_A} {S Sm : q_S} {h : g_H} (hW : w_W E A S Sm h) (hB : w_B S) {x y : Int32} (hx : ¬ x < 0) (hx2 : ¬ 24 ≤ x) (hy : ¬ y < 0) (hy2 : y < 16) (hC : w_C S) (hs : q_slide S (nI (q_at S)) = none) : g_Rd l mS_pixel 8 121 [.ref (A 0 0), .int x, .int y] E h (some (.int 16777215)) := by
  refine g_Rd.of hl (by decide) (by first | rfl | simp [g_rfc, Value.category]) (Nat.le_of_ble_eq_true rfl) ?_
  intro X hX hXl hR
  obtain ⟨hnp, hns, hne, hpar, hhome, hact⟩ := id hB
  show g_Go E X _ h true 0 0 0 [some (.ref (A 0 0)), some (.int x), some (.int y), none, none] []
  refine g_iload_n hX dS_pixel_0 rfl rfl 1 rfl ?_
  refine g_iconst hX dS_pixel_1 (v := 0) (by decide) 2 rfl ?_
  refine g_bipush hX dS_pixel_2 (v := 23) (by decide) 4 rfl ?_
  refine g_cS3r (wt := 0) hX (c_S_isWithin hX.tr E h _ _ _) dS_pixel_4 kS_47 (g_rm.of hR (by decide) (by decide)) (by first | exact Nat.zero_le _ | (rw [hR]; decide)) (by first | exact Nat.zero_le _ | (rw [hR]; decide)) (by first | decide | (simp [Value.category])) 7 rfl ?_
  refine g_if_eq hX dS_pixel_7 20 10 (by decide) rfl (fun c7 => ?_) (fun c7 => ?_)
  · exact absurd (c7.symm.trans (r_in_1 hx (q_le23.mpr hx2))) (by decide)
  · refine g_iload_n hX dS_pixel_10 rfl rfl 11 rfl ?_
    refine g_iconst hX dS_pixel_11 (v := 0) (by decide) 12 rfl ?_
    refine g_bipush hX dS_pixel_12 (v := 15) (by decide) 14 rfl ?_
    refine g_cS3r (wt := 0) hX (c_S_isWithin hX.tr E h _ _ _) dS_pixel_14 kS_47 (g_rm.of hR (by decide) (by decide)) (by first | exact Nat.zero_le _ | (rw [hR]; decide)) (by first | exact Nat.zero_le _ | (rw [hR]; decide)) (by first | decide | (simp [Value.category])) 17 rfl ?_
    refine g_if_ne hX dS_pixel_17 22 20 (by decide) rfl (fun c17 => ?_) (fun c17 => ?_)
    · refine g_ldcw hX dS_pixel_22 lS_292 25 rfl ?_
      refine g_istore_n hX (L' := [_, _, _, _, _]) dS_pixel_25 rfl (by decide) rfl 26 rfl ?_
      refine g_iconst hX dS_pixel_26 (v := 0) (by decide) 27 rfl ?_
      refine g_istore hX (L' := [_, _, _, _, _]) dS_pixel_27 (by decide) rfl 29 rfl ?_
      refine g_iload hX dS_pixel_29 rfl 31 rfl ?_
      refine g_iconst hX dS_pixel_31 (v := 2) (by decide) 32 rfl ?_
      refine g_icmp_gt hX dS_pixel_32 58 35 (by decide) rfl (fun c32 => ?_) (fun c32 => ?_)
      · exact absurd c32 (by decide)
      · refine g_aload_n hX dS_pixel_35 rfl rfl (by first | rfl | exact g_rfr _) 36 rfl ?_
        refine g_aload_n hX dS_pixel_36 rfl rfl (by first | rfl | exact g_rfr _) 37 rfl ?_
        refine g_cV0r (wt := 1) hX ((show g_Rd X.l mS_slideShown 4 53 [.ref (A 0 0)] E h (some .null) by have h9 := c_S_slideShown hX.tr hW hB hC; rw [hs] at h9; exact h9)) dS_pixel_37 (w_s hW) kS_252 (g_rm.of hR (by decide) (by decide)) (by first | exact Nat.zero_le _ | (rw [hR]; decide)) (by first | exact Nat.zero_le _ | (rw [hR]; decide)) (by first | decide | (simp [Value.category])) 40 rfl ?_
        refine g_iload hX dS_pixel_40 rfl 42 rfl ?_
        refine g_cS2r (wt := 1) hX (c_S_pu_n hX.tr hW hB _) dS_pixel_42 kS_293 (g_rm.of hR (by decide) (by decide)) (by first | exact Nat.zero_le _ | (rw [hR]; decide)) (by first | exact Nat.zero_le _ | (rw [hR]; decide)) (by first | decide | (simp [Value.category])) 45 rfl ?_
        refine g_iload_n hX dS_pixel_45 rfl rfl 46 rfl ?_
        refine g_iload_n hX dS_pixel_46 rfl rfl 47 rfl ?_
        refine g_iload_n hX dS_pixel_47 rfl rfl 48 rfl ?_
        refine g_cV4r (wt := 0) hX (c_S_paint_n hX.tr hW hB _ _ _) dS_pixel_48 (w_s hW) kS_297 (g_rm.of hR (by decide) (by decide)) (by first | exact Nat.zero_le _ | (rw [hR]; decide)) (by first | exact Nat.zero_le _ | (rw [hR]; decide)) (by first | decide | (simp [Value.category])) 51 rfl ?_
        refine g_istore_n hX (L' := [_, _, _, _, _]) dS_pixel_51 rfl (by decide) rfl 52 rfl ?_
        refine g_iinc hX (L' := [_, _, _, _, _]) dS_pixel_52 (v := 1) rfl (by decide) rfl 55 rfl ?_
        refine g_goto hX dS_pixel_55 29 (by decide) ?_
        refine g_iload hX dS_pixel_29 rfl 31 rfl ?_
        refine g_iconst hX dS_pixel_31 (v := 2) (by decide) 32 rfl ?_
        refine g_icmp_gt hX dS_pixel_32 58 35 (by decide) rfl (fun c32 => ?_) (fun c32 => ?_)
        · exact absurd c32 (by decide)
        · refine g_aload_n hX dS_pixel_35 rfl rfl (by first | rfl | exact g_rfr _) 36 rfl ?_
          refine g_aload_n hX dS_pixel_36 rfl rfl (by first | rfl | exact g_rfr _) 37 rfl ?_
          refine g_cV0r (wt := 1) hX ((show g_Rd X.l mS_slideShown 4 53 [.ref (A 0 0)] E h (some .null) by have h9 := c_S_slideShown hX.tr hW hB hC; rw [hs] at h9; exact h9)) dS_pixel_37 (w_s hW) kS_252 (g_rm.of hR (by decide) (by decide)) (by first | exact Nat.zero_le _ | (rw [hR]; decide)) (by first | exact Nat.zero_le _ | (rw [hR]; decide)) (by first | decide | (simp [Value.category])) 40 rfl ?_
          refine g_iload hX dS_pixel_40 rfl 42 rfl ?_
          refine g_cS2r (wt := 1) hX (c_S_pu_n hX.tr hW hB _) dS_pixel_42 kS_293 (g_rm.of hR (by decide) (by decide)) (by first | exact Nat.zero_le _ | (rw [hR]; decide)) (by first | exact Nat.zero_le _ | (rw [hR]; decide)) (by first | decide | (simp [Value.category])) 45 rfl ?_
          refine g_iload_n hX dS_pixel_45 rfl rfl 46 rfl ?_
          refine g_iload_n hX dS_pixel_46 rfl rfl 47 rfl ?_
          refine g_iload_n hX dS_pixel_47 rfl rfl 48 rfl ?_
          refine g_cV4r (wt := 0) hX (c_S_paint_n hX.tr hW hB _ _ _) dS_pixel_48 (w_s hW) kS_297 (g_rm.of hR (by decide) (by decide)) (by first | exact Nat.zero_le _ | (rw [hR]; decide)) (by first | exact Nat.zero_le _ | (rw [hR]; decide)) (by first | decide | (simp [Value.category])) 51 rfl ?_
          refine g_istore_n hX (L' := [_, _, _, _, _]) dS_pixel_51 rfl (by decide) rfl 52 rfl ?_
          refine g_iinc hX (L' := [_, _, _, _, _]) dS_pixel_52 (v := 2) rfl (by decide) rfl 55 rfl ?_
          refine g_goto hX dS_pixel_55 29 (by decide) ?_
          refine g_iload hX dS_pixel_29 rfl 31 rfl ?_
          refine g_iconst hX dS_pixel_31 (v := 2) (by decide) 32 rfl ?_
          refine g_icmp_gt hX dS_pixel_32 58 35 (by decide) rfl (fun c32 => ?_) (fun c32 => ?_)
          · exact absurd c32 (by decide)
          · refine g_aload_n hX dS_pixel_35 rfl rfl (by first | rfl | exact g_rfr _) 36 rfl ?_
            refine g_aload_n hX dS_pixel_36 rfl rfl (by first | rfl | exact g_rfr _) 37 rfl ?_
            refine g_cV0r (wt := 1) hX ((show g_Rd X.l mS_slideShown 4 53 [.ref (A 0 0)] E h (some .null) by have h9 := c_S_slideShown hX.tr hW hB hC; rw [hs] at h9; exact h9)) dS_pixel_37 (w_s hW) kS_252 (g_rm.of hR (by decide) (by decide)) (by first | exact Nat.zero_le _ | (rw [hR]; decide)) (by first | exact Nat.zero_le _ | (rw [hR]; decide)) (by first | decide | (simp [Value.category])) 40 rfl ?_
            refine g_iload hX dS_pixel_40 rfl 42 rfl ?_
            refine g_cS2r (wt := 1) hX (c_S_pu_n hX.tr hW hB _) dS_pixel_42 kS_293 (g_rm.of hR (by decide) (by decide)) (by first | exact Nat.zero_le _ | (rw [hR]; decide)) (by first | exact Nat.zero_le _ | (rw [hR]; decide)) (by first | decide | (simp [Value.category])) 45 rfl ?_
            refine g_iload_n hX dS_pixel_45 rfl rfl 46 rfl ?_
            refine g_iload_n hX dS_pixel_46 rfl rfl 47 rfl ?_
            refine g_iload_n hX dS_pixel_47 rfl rfl 48 rfl ?_
            refine g_cV4r (wt := 0) hX (c_S_paint_n hX.tr hW hB _ _ _) dS_pixel_48 (w_s hW) kS_297 (g_rm.of hR (by decide) (by decide)) (by first | exact Nat.zero_le _ | (rw [hR]; decide)) (by first | exact Nat.zero_le _ | (rw [hR]; decide)) (by first | decide | (simp [Value.category])) 51 rfl ?_
            refine g_istore_n hX (L' := [_, _, _, _, _]) dS_pixel_51 rfl (by decide) rfl 52 rfl ?_
            refine g_iinc hX (L' := [_, _, _, _, _]) dS_pixel_52 (v := 3) rfl (by decide) rfl 55 rfl ?_
            refine g_goto hX dS_pixel_55 29 (by decide) ?_
            refine g_iload hX dS_pixel_29 rfl 31 rfl ?_
            refine g_iconst hX dS_pixel_31 (v := 2) (by decide) 32 rfl ?_
            refine g_icmp_gt hX dS_pixel_32 58 35 (by decide) rfl (fun c32 => ?_) (fun c32 => ?_)
            · refine g_iload_n hX dS_pixel_58 rfl rfl 59 rfl ?_
              exact g_iret hX rfl rfl dS_pixel_59 ⟨rfl, rfl⟩ rfl (Nat.zero_le _) (Nat.zero_le _)
            · exact absurd (by decide) c32
    · exact absurd (c17.symm.trans (r_in_1 hy (q_le15.mpr hy2))) (by decide)
set_option maxRecDepth 100000 in
set_option maxHeartbeats 4000000 in
theorem c_S_pixel_s {l : Launch} (hl : l.stackTraces = false) {E : g_E} {A : w_A} {S Sm : q_S} {h : g_H} (hW : w_W E A S Sm h) (hB : w_B S) {x y : Int32} {p q m : Nat} (hx : ¬ x < 0) (hx2 : ¬ 24 ≤ x) (hy : ¬ y < 0) (hy2 : y < 16) (hC : w_C S) (hs : q_slide S (nI (q_at S)) = some p) (hq : q < q_np S) (hm : m < q_np S) (k2 : S.2 0 p = 2) (k1 : S.2 0 q = 1) (k0 : S.2 0 m = 0) (pq : S.1 1 p = q + 1) (qm : S.1 1 q = m + 1) : g_Rd l mS_pixel 8 121 [.ref (A 0 0), .int x, .int y] E h (some (.int (q_paint S p 1 x y (q_paint S q 0 x y (q_paint S m 0 x y 16777215 (q_ns S)) (q_ns S)) (q_ns S)))) := by
  refine g_Rd.of hl (by decide) (by first | rfl | simp [g_rfc, Value.category]) (Nat.le_of_ble_eq_true rfl) ?_
  intro X hX hXl hR
  obtain ⟨hnp, hns, hne, hpar, hhome, hact⟩ := id hB
  show g_Go E X _ h true 0 0 0 [some (.ref (A 0 0)), some (.int x), some (.int y), none, none] []
  refine g_iload_n hX dS_pixel_0 rfl rfl 1 rfl ?_
  refine g_iconst hX dS_pixel_1 (v := 0) (by decide) 2 rfl ?_
  refine g_bipush hX dS_pixel_2 (v := 23) (by decide) 4 rfl ?_
  refine g_cS3r (wt := 0) hX (c_S_isWithin hX.tr E h _ _ _) dS_pixel_4 kS_47 (g_rm.of hR (by decide) (by decide)) (by first | exact Nat.zero_le _ | (rw [hR]; decide)) (by first | exact Nat.zero_le _ | (rw [hR]; decide)) (by first | decide | (simp [Value.category])) 7 rfl ?_
  refine g_if_eq hX dS_pixel_7 20 10 (by decide) rfl (fun c7 => ?_) (fun c7 => ?_)
  · exact absurd (c7.symm.trans (r_in_1 hx (q_le23.mpr hx2))) (by decide)
  · refine g_iload_n hX dS_pixel_10 rfl rfl 11 rfl ?_
    refine g_iconst hX dS_pixel_11 (v := 0) (by decide) 12 rfl ?_
    refine g_bipush hX dS_pixel_12 (v := 15) (by decide) 14 rfl ?_
    refine g_cS3r (wt := 0) hX (c_S_isWithin hX.tr E h _ _ _) dS_pixel_14 kS_47 (g_rm.of hR (by decide) (by decide)) (by first | exact Nat.zero_le _ | (rw [hR]; decide)) (by first | exact Nat.zero_le _ | (rw [hR]; decide)) (by first | decide | (simp [Value.category])) 17 rfl ?_
    refine g_if_ne hX dS_pixel_17 22 20 (by decide) rfl (fun c17 => ?_) (fun c17 => ?_)
    · refine g_ldcw hX dS_pixel_22 lS_292 25 rfl ?_
      refine g_istore_n hX (L' := [_, _, _, _, _]) dS_pixel_25 rfl (by decide) rfl 26 rfl ?_
      refine g_iconst hX dS_pixel_26 (v := 0) (by decide) 27 rfl ?_
      refine g_istore hX (L' := [_, _, _, _, _]) dS_pixel_27 (by decide) rfl 29 rfl ?_
      refine g_iload hX dS_pixel_29 rfl 31 rfl ?_
      refine g_iconst hX dS_pixel_31 (v := 2) (by decide) 32 rfl ?_
      refine g_icmp_gt hX dS_pixel_32 58 35 (by decide) rfl (fun c32 => ?_) (fun c32 => ?_)
      · exact absurd c32 (by decide)
      · refine g_aload_n hX dS_pixel_35 rfl rfl (by first | rfl | exact g_rfr _) 36 rfl ?_
        refine g_aload_n hX dS_pixel_36 rfl rfl (by first | rfl | exact g_rfr _) 37 rfl ?_
        refine g_cV0r (wt := 1) hX ((show g_Rd X.l mS_slideShown 4 53 [.ref (A 0 0)] E h (some (.ref (A 2 p))) by have h9 := c_S_slideShown hX.tr hW hB hC; rw [hs] at h9; exact h9)) dS_pixel_37 (w_s hW) kS_252 (g_rm.of hR (by decide) (by decide)) (by first | exact Nat.zero_le _ | (rw [hR]; decide)) (by first | exact Nat.zero_le _ | (rw [hR]; decide)) (by first | decide | (simp [Value.category])) 40 rfl ?_
        refine g_iload hX dS_pixel_40 rfl 42 rfl ?_
        refine g_cS2r (wt := 1) hX (c_S_pu_0 hX.tr hW hB (q_slide_lt hs) hq hm k2 k1 k0 pq qm) dS_pixel_42 kS_293 (g_rm.of hR (by decide) (by decide)) (by first | exact Nat.zero_le _ | (rw [hR]; decide)) (by first | exact Nat.zero_le _ | (rw [hR]; decide)) (by first | decide | (simp [Value.category])) 45 rfl ?_
        refine g_iload_n hX dS_pixel_45 rfl rfl 46 rfl ?_
        refine g_iload_n hX dS_pixel_46 rfl rfl 47 rfl ?_
        refine g_iload_n hX dS_pixel_47 rfl rfl 48 rfl ?_
        refine g_cV4r (wt := 0) hX (c_S_paint hX.tr hW hB hm _ _ _ (all := 0) (by rw [k0]; decide) hC) dS_pixel_48 (w_s hW) kS_297 (g_rm.of hR (by decide) (by decide)) (by first | exact Nat.zero_le _ | (rw [hR]; decide)) (by first | exact Nat.zero_le _ | (rw [hR]; decide)) (by first | decide | (simp [Value.category])) 51 rfl ?_
        refine g_istore_n hX (L' := [_, _, _, _, _]) dS_pixel_51 rfl (by decide) rfl 52 rfl ?_
        refine g_iinc hX (L' := [_, _, _, _, _]) dS_pixel_52 (v := 1) rfl (by decide) rfl 55 rfl ?_
        refine g_goto hX dS_pixel_55 29 (by decide) ?_
        refine g_iload hX dS_pixel_29 rfl 31 rfl ?_
        refine g_iconst hX dS_pixel_31 (v := 2) (by decide) 32 rfl ?_
        refine g_icmp_gt hX dS_pixel_32 58 35 (by decide) rfl (fun c32 => ?_) (fun c32 => ?_)
        · exact absurd c32 (by decide)
        · refine g_aload_n hX dS_pixel_35 rfl rfl (by first | rfl | exact g_rfr _) 36 rfl ?_
          refine g_aload_n hX dS_pixel_36 rfl rfl (by first | rfl | exact g_rfr _) 37 rfl ?_
          refine g_cV0r (wt := 1) hX ((show g_Rd X.l mS_slideShown 4 53 [.ref (A 0 0)] E h (some (.ref (A 2 p))) by have h9 := c_S_slideShown hX.tr hW hB hC; rw [hs] at h9; exact h9)) dS_pixel_37 (w_s hW) kS_252 (g_rm.of hR (by decide) (by decide)) (by first | exact Nat.zero_le _ | (rw [hR]; decide)) (by first | exact Nat.zero_le _ | (rw [hR]; decide)) (by first | decide | (simp [Value.category])) 40 rfl ?_
          refine g_iload hX dS_pixel_40 rfl 42 rfl ?_
          refine g_cS2r (wt := 1) hX (c_S_pu_1 hX.tr hW hB (q_slide_lt hs) hq hm k2 k1 k0 pq qm) dS_pixel_42 kS_293 (g_rm.of hR (by decide) (by decide)) (by first | exact Nat.zero_le _ | (rw [hR]; decide)) (by first | exact Nat.zero_le _ | (rw [hR]; decide)) (by first | decide | (simp [Value.category])) 45 rfl ?_
          refine g_iload_n hX dS_pixel_45 rfl rfl 46 rfl ?_
          refine g_iload_n hX dS_pixel_46 rfl rfl 47 rfl ?_
          refine g_iload_n hX dS_pixel_47 rfl rfl 48 rfl ?_
          refine g_cV4r (wt := 0) hX (c_S_paint hX.tr hW hB hq _ _ _ (all := 0) (by rw [k1]; decide) hC) dS_pixel_48 (w_s hW) kS_297 (g_rm.of hR (by decide) (by decide)) (by first | exact Nat.zero_le _ | (rw [hR]; decide)) (by first | exact Nat.zero_le _ | (rw [hR]; decide)) (by first | decide | (simp [Value.category])) 51 rfl ?_
          refine g_istore_n hX (L' := [_, _, _, _, _]) dS_pixel_51 rfl (by decide) rfl 52 rfl ?_
          refine g_iinc hX (L' := [_, _, _, _, _]) dS_pixel_52 (v := 2) rfl (by decide) rfl 55 rfl ?_
          refine g_goto hX dS_pixel_55 29 (by decide) ?_
          refine g_iload hX dS_pixel_29 rfl 31 rfl ?_
          refine g_iconst hX dS_pixel_31 (v := 2) (by decide) 32 rfl ?_
          refine g_icmp_gt hX dS_pixel_32 58 35 (by decide) rfl (fun c32 => ?_) (fun c32 => ?_)
          · exact absurd c32 (by decide)
          · refine g_aload_n hX dS_pixel_35 rfl rfl (by first | rfl | exact g_rfr _) 36 rfl ?_
            refine g_aload_n hX dS_pixel_36 rfl rfl (by first | rfl | exact g_rfr _) 37 rfl ?_
            refine g_cV0r (wt := 1) hX ((show g_Rd X.l mS_slideShown 4 53 [.ref (A 0 0)] E h (some (.ref (A 2 p))) by have h9 := c_S_slideShown hX.tr hW hB hC; rw [hs] at h9; exact h9)) dS_pixel_37 (w_s hW) kS_252 (g_rm.of hR (by decide) (by decide)) (by first | exact Nat.zero_le _ | (rw [hR]; decide)) (by first | exact Nat.zero_le _ | (rw [hR]; decide)) (by first | decide | (simp [Value.category])) 40 rfl ?_
            refine g_iload hX dS_pixel_40 rfl 42 rfl ?_
            refine g_cS2r (wt := 1) hX (c_S_pu_2 hX.tr hW hB (q_slide_lt hs) hq hm k2 k1 k0 pq qm) dS_pixel_42 kS_293 (g_rm.of hR (by decide) (by decide)) (by first | exact Nat.zero_le _ | (rw [hR]; decide)) (by first | exact Nat.zero_le _ | (rw [hR]; decide)) (by first | decide | (simp [Value.category])) 45 rfl ?_
            refine g_iload_n hX dS_pixel_45 rfl rfl 46 rfl ?_
            refine g_iload_n hX dS_pixel_46 rfl rfl 47 rfl ?_
            refine g_iload_n hX dS_pixel_47 rfl rfl 48 rfl ?_
            refine g_cV4r (wt := 0) hX (c_S_paint hX.tr hW hB (q_slide_lt hs) _ _ _ (all := 1) (by rw [k2]; decide) hC) dS_pixel_48 (w_s hW) kS_297 (g_rm.of hR (by decide) (by decide)) (by first | exact Nat.zero_le _ | (rw [hR]; decide)) (by first | exact Nat.zero_le _ | (rw [hR]; decide)) (by first | decide | (simp [Value.category])) 51 rfl ?_
            refine g_istore_n hX (L' := [_, _, _, _, _]) dS_pixel_51 rfl (by decide) rfl 52 rfl ?_
            refine g_iinc hX (L' := [_, _, _, _, _]) dS_pixel_52 (v := 3) rfl (by decide) rfl 55 rfl ?_
            refine g_goto hX dS_pixel_55 29 (by decide) ?_
            refine g_iload hX dS_pixel_29 rfl 31 rfl ?_
            refine g_iconst hX dS_pixel_31 (v := 2) (by decide) 32 rfl ?_
            refine g_icmp_gt hX dS_pixel_32 58 35 (by decide) rfl (fun c32 => ?_) (fun c32 => ?_)
            · refine g_iload_n hX dS_pixel_58 rfl rfl 59 rfl ?_
              exact g_iret hX rfl rfl dS_pixel_59 ⟨rfl, rfl⟩ rfl (Nat.zero_le _) (Nat.zero_le _)
            · exact absurd (by decide) c32
    · exact absurd (c17.symm.trans (r_in_1 hy (q_le15.mpr hy2))) (by decide)
