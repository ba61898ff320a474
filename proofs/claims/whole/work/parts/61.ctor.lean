/-! constructors -/
theorem g_set_id {h : g_H} {b : Nat} {e : va_E} (hb : h b = some e) : g_set h b e = h := by
  funext q
  unfold g_set
  by_cases hq : q = b
  · rw [if_pos hq, hq, hb]
  · rw [if_neg hq]
theorem g_fresh {h : g_H} {a q : Nat} {e : va_E} (hq : g_set h a e q = none) : a ≠ q ∧ h q = none := by
  by_cases hn : q = a
  · rw [hn, g_set_same] at hq
    cases hq
  · exact ⟨fun e9 => hn e9.symm, (g_set_ne h e hn).symm.trans hq⟩
abbrev g_L0 (E : g_E) : va_E := .inr (6, [.ref (E.ad 2), .int 0, .int 0])
theorem g_fit {C : String} (r : Option Nat) : fits (.object C) (va_rf r) = true := by
  cases r <;> rfl
theorem g_nar {C : String} (r : Option Nat) : narrow (.object C) (va_rf r) = va_rf r := by
  cases r <;> rfl
set_option maxRecDepth 100000 in
set_option maxHeartbeats 4000000 in
theorem c_P_init {l : Launch} (hl : l.stackTraces = false) {E : g_E} {h : g_H} {b : Nat} {k : Int32} {r : Option Nat} (hb : h b = some (.inr (1, [.int 0, .null, .null, .null]))) (hb0 : E.H0.size ≤ b) : g_Ct l mP_init 4 50 2 6 [.ref b, .int k, va_rf r] E h (false, fun r' h' => ∃ q0 q1, h q0 = none ∧ E.H0.size ≤ q0 ∧ (g_set h q0 (g_L0 E)) q1 = none ∧ E.H0.size ≤ q1 ∧ r' = .inr none ∧ h' = g_set (g_set (g_set h q0 (g_L0 E)) q1 (g_L0 E)) b (.inr (1, [.int k, va_rf r, .ref q0, .ref q1]))) := by
  refine g_Ct.of hl (by decide) (by first | rfl | (cases r <;> rfl) | simp [g_rfc, Value.category]) (Nat.le_of_ble_eq_true rfl) ?_
  intro X hX hXl hR
  suffices hgo : g_Go E X (false, fun r' h' => ∃ q0 q1, h q0 = none ∧ E.H0.size ≤ q0 ∧ (g_set h q0 (g_L0 E)) q1 = none ∧ E.H0.size ≤ q1 ∧ r' = .inr none ∧ h' = g_set (g_set (g_set h q0 (g_L0 E)) q1 (g_L0 E)) b (.inr (1, [.int k, va_rf r, .ref q0, .ref q1]))) (g_set h b (.inr (1, [.int 0, .null, .null, .null]))) true 0 0 0 [some (.ref b), some (.int k), some (va_rf r)] [] by
    rw [g_set_id hb] at hgo
    exact hgo
  refine g_aload_n hX dP_init_0 rfl rfl (by first | rfl | exact g_rfr _) 1 rfl ?_
  refine g_objInit (wt := 0) hX dP_init_1 kP_1 (by decide) (by rw [hR]; decide) (by rw [hR]; decide) 4 rfl ?_
  refine g_aload_n hX dP_init_4 rfl rfl (by first | rfl | exact g_rfr _) 5 rfl ?_
  refine g_new hX dP_init_5 nP_7 (by rw [hR]; decide) (by rw [hR]; decide) 8 rfl (fun q0 hq0 zq0 => ?_)
  have hbq0 := (g_fresh hq0).1
  replace hq0 := (g_fresh hq0).2
  rw [g_set_comm _ _ _ hbq0]
  refine g_dup hX dP_init_8 rfl 9 rfl ?_
  refine g_cI0 (wt := 2) hX (c_A_init hX.tr ((g_set_ne _ _ (Ne.symm hbq0)).trans (g_set_same _ _ _)) zq0) dP_init_9 kP_9 (g_rm.of hR (by decide) (by decide)) (by first | exact Nat.zero_le _ | (rw [hR]; decide)) (by first | exact Nat.zero_le _ | (rw [hR]; decide)) (by first | decide | (simp [Value.category])) (fun q => by cases q) 12 rfl (fun v h9 hP => ?_) (fun k h9 hP => by cases hP.1)
  obtain ⟨hv, hh⟩ := hP
  cases hv
  rw [g_set_comm _ _ _ hbq0, g_set_set] at hh
  subst hh
  show g_Go E X _ _ false _ _ 12 _ [.ref q0, .ref b]
  refine g_putF0 hX dP_init_12 fP_10 rfl (g_set_same _ _ _) hb0 rfl (by first | rfl | exact g_fit _) (Nat.le_of_ble_eq_true rfl) 15 rfl ?_
  rw [g_set_set]
  refine g_aload_n hX dP_init_15 rfl rfl (by first | rfl | exact g_rfr _) 16 rfl ?_
  refine g_new hX dP_init_16 nP_7 (by rw [hR]; decide) (by rw [hR]; decide) 19 rfl (fun q1 hq1 zq1 => ?_)
  have hbq1 := (g_fresh hq1).1
  replace hq1 := (g_fresh hq1).2
  rw [g_set_comm _ _ _ hbq1]
  refine g_dup hX dP_init_19 rfl 20 rfl ?_
  refine g_cI0 (wt := 2) hX (c_A_init hX.tr ((g_set_ne _ _ (Ne.symm hbq1)).trans (g_set_same _ _ _)) zq1) dP_init_20 kP_9 (g_rm.of hR (by decide) (by decide)) (by first | exact Nat.zero_le _ | (rw [hR]; decide)) (by first | exact Nat.zero_le _ | (rw [hR]; decide)) (by first | decide | (simp [Value.category])) (fun q => by cases q) 23 rfl (fun v h9 hP => ?_) (fun k h9 hP => by cases hP.1)
  obtain ⟨hv, hh⟩ := hP
  cases hv
  rw [g_set_comm _ _ _ hbq1, g_set_set] at hh
  subst hh
  show g_Go E X _ _ false _ _ 23 _ [.ref q1, .ref b]
  refine g_putF0 hX dP_init_23 fP_16 rfl (g_set_same _ _ _) hb0 rfl (by first | rfl | exact g_fit _) (Nat.le_of_ble_eq_true rfl) 26 rfl ?_
  rw [g_set_set]
  refine g_aload_n hX dP_init_26 rfl rfl (by first | rfl | exact g_rfr _) 27 rfl ?_
  refine g_iload_n hX dP_init_27 rfl rfl 28 rfl ?_
  refine g_putF0 hX dP_init_28 fP_19 rfl (g_set_same _ _ _) hb0 rfl (by first | rfl | exact g_fit _) (Nat.le_of_ble_eq_true rfl) 31 rfl ?_
  rw [g_set_set]
  refine g_aload_n hX dP_init_31 rfl rfl (by first | rfl | exact g_rfr _) 32 rfl ?_
  refine g_aload_n hX dP_init_32 rfl rfl (by first | rfl | exact g_rfr _) 33 rfl ?_
  refine g_putF0 hX dP_init_33 fP_23 rfl (g_set_same _ _ _) hb0 (g_nar _) (g_fit _) (Nat.le_of_ble_eq_true rfl) 36 rfl ?_
  rw [g_set_set]
  exact g_vret hX rfl dP_init_36 ⟨q0, q1, hq0, zq0, hq1, zq1, rfl, rfl⟩ rfl (by rw [hR]; decide) (by rw [hR]; decide)
set_option maxRecDepth 100000 in
set_option maxHeartbeats 4000000 in
theorem c_H_init {l : Launch} (hl : l.stackTraces = false) {E : g_E} {h : g_H} {b : Nat} {i s : Int32} {p : Nat} (hb : h b = some (.inr (2, [.int 0, .null, .int 0, .null, .null, .null, .null]))) (hb0 : E.H0.size ≤ b) : g_Ct l mH_init 4 50 4 20 [.ref b, .int i, .ref p, .int s] E h (false, fun r' h' => ∃ q0 q1 q2 q3, h q0 = none ∧ E.H0.size ≤ q0 ∧ (g_set h q0 (g_bools E 7 (fun _ => 0))) q1 = none ∧ E.H0.size ≤ q1 ∧ (g_set (g_set h q0 (g_bools E 7 (fun _ => 0))) q1 (g_ints E 7 (fun _ => 0))) q2 = none ∧ E.H0.size ≤ q2 ∧ (g_set (g_set (g_set h q0 (g_bools E 7 (fun _ => 0))) q1 (g_ints E 7 (fun _ => 0))) q2 (g_L0 E)) q3 = none ∧ E.H0.size ≤ q3 ∧ r' = .inr none ∧ h' = g_set (g_set (g_set (g_set (g_set h q0 (g_bools E 7 (fun _ => 0))) q1 (g_ints E 7 (fun _ => 0))) q2 (g_L0 E)) q3 (g_L0 E)) b (.inr (2, [.int i, .ref p, .int s, .ref q0, .ref q1, .ref q2, .ref q3]))) := by
  refine g_Ct.of hl (by decide) (by first | rfl | (cases r <;> rfl) | simp [g_rfc, Value.category]) (Nat.le_of_ble_eq_true rfl) ?_
  intro X hX hXl hR
  suffices hgo : g_Go E X (false, fun r' h' => ∃ q0 q1 q2 q3, h q0 = none ∧ E.H0.size ≤ q0 ∧ (g_set h q0 (g_bools E 7 (fun _ => 0))) q1 = none ∧ E.H0.size ≤ q1 ∧ (g_set (g_set h q0 (g_bools E 7 (fun _ => 0))) q1 (g_ints E 7 (fun _ => 0))) q2 = none ∧ E.H0.size ≤ q2 ∧ (g_set (g_set (g_set h q0 (g_bools E 7 (fun _ => 0))) q1 (g_ints E 7 (fun _ => 0))) q2 (g_L0 E)) q3 = none ∧ E.H0.size ≤ q3 ∧ r' = .inr none ∧ h' = g_set (g_set (g_set (g_set (g_set h q0 (g_bools E 7 (fun _ => 0))) q1 (g_ints E 7 (fun _ => 0))) q2 (g_L0 E)) q3 (g_L0 E)) b (.inr (2, [.int i, .ref p, .int s, .ref q0, .ref q1, .ref q2, .ref q3]))) (g_set h b (.inr (2, [.int 0, .null, .int 0, .null, .null, .null, .null]))) true 0 0 0 [some (.ref b), some (.int i), some (.ref p), some (.int s)] [] by
    rw [g_set_id hb] at hgo
    exact hgo
  refine g_aload_n hX dH_init_0 rfl rfl (by first | rfl | exact g_rfr _) 1 rfl ?_
  refine g_objInit (wt := 0) hX dH_init_1 kH_3 (by decide) (by rw [hR]; decide) (by rw [hR]; decide) 4 rfl ?_
  refine g_aload_n hX dH_init_4 rfl rfl (by first | rfl | exact g_rfr _) 5 rfl ?_
  refine g_bipush hX dH_init_5 (v := 7) (by decide) 7 rfl ?_
  refine g_newa (t := 1) (N := 7) (a0 := (7, .inl (fun _ => 0))) hX dH_init_7 a_boolean rfl rfl (fun C q => by cases q) (fun _ => rfl) (by decide) (by decide) (by decide) (by rw [hR]; decide) (by rw [hR]; decide) 9 rfl (fun q0 hq0 zq0 => ?_)
  have hbq0 := (g_fresh hq0).1
  replace hq0 := (g_fresh hq0).2
  rw [g_set_comm _ _ _ hbq0]
  refine g_putF0 hX dH_init_9 fH_9 rfl (g_set_same _ _ _) hb0 rfl (by first | rfl | exact g_fit _) (Nat.le_of_ble_eq_true rfl) 12 rfl ?_
  rw [g_set_set]
  refine g_aload_n hX dH_init_12 rfl rfl (by first | rfl | exact g_rfr _) 13 rfl ?_
  refine g_bipush hX dH_init_13 (v := 7) (by decide) 15 rfl ?_
  refine g_newa (t := 0) (N := 7) (a0 := (7, .inl (fun _ => 0))) hX dH_init_15 a_int rfl rfl (fun C q => by cases q) (fun _ => rfl) (by decide) (by decide) (by decide) (by rw [hR]; decide) (by rw [hR]; decide) 17 rfl (fun q1 hq1 zq1 => ?_)
  have hbq1 := (g_fresh hq1).1
  replace hq1 := (g_fresh hq1).2
  rw [g_set_comm _ _ _ hbq1]
  refine g_putF0 hX dH_init_17 fH_15 rfl (g_set_same _ _ _) hb0 rfl (by first | rfl | exact g_fit _) (Nat.le_of_ble_eq_true rfl) 20 rfl ?_
  rw [g_set_set]
  refine g_aload_n hX dH_init_20 rfl rfl (by first | rfl | exact g_rfr _) 21 rfl ?_
  refine g_new hX dH_init_21 nH_19 (by rw [hR]; decide) (by rw [hR]; decide) 24 rfl (fun q2 hq2 zq2 => ?_)
  have hbq2 := (g_fresh hq2).1
  replace hq2 := (g_fresh hq2).2
  rw [g_set_comm _ _ _ hbq2]
  refine g_dup hX dH_init_24 rfl 25 rfl ?_
  refine g_cI0 (wt := 2) hX (c_A_init hX.tr ((g_set_ne _ _ (Ne.symm hbq2)).trans (g_set_same _ _ _)) zq2) dH_init_25 kH_21 (g_rm.of hR (by decide) (by decide)) (by first | exact Nat.zero_le _ | (rw [hR]; decide)) (by first | exact Nat.zero_le _ | (rw [hR]; decide)) (by first | decide | (simp [Value.category])) (fun q => by cases q) 28 rfl (fun v h9 hP => ?_) (fun k h9 hP => by cases hP.1)
  obtain ⟨hv, hh⟩ := hP
  cases hv
  rw [g_set_comm _ _ _ hbq2, g_set_set] at hh
  subst hh
  show g_Go E X _ _ false _ _ 28 _ [.ref q2, .ref b]
  refine g_putF0 hX dH_init_28 fH_22 rfl (g_set_same _ _ _) hb0 rfl (by first | rfl | exact g_fit _) (Nat.le_of_ble_eq_true rfl) 31 rfl ?_
  rw [g_set_set]
  refine g_aload_n hX dH_init_31 rfl rfl (by first | rfl | exact g_rfr _) 32 rfl ?_
  refine g_new hX dH_init_32 nH_19 (by rw [hR]; decide) (by rw [hR]; decide) 35 rfl (fun q3 hq3 zq3 => ?_)
  have hbq3 := (g_fresh hq3).1
  replace hq3 := (g_fresh hq3).2
  rw [g_set_comm _ _ _ hbq3]
  refine g_dup hX dH_init_35 rfl 36 rfl ?_
  refine g_cI0 (wt := 2) hX (c_A_init hX.tr ((g_set_ne _ _ (Ne.symm hbq3)).trans (g_set_same _ _ _)) zq3) dH_init_36 kH_21 (g_rm.of hR (by decide) (by decide)) (by first | exact Nat.zero_le _ | (rw [hR]; decide)) (by first | exact Nat.zero_le _ | (rw [hR]; decide)) (by first | decide | (simp [Value.category])) (fun q => by cases q) 39 rfl (fun v h9 hP => ?_) (fun k h9 hP => by cases hP.1)
  obtain ⟨hv, hh⟩ := hP
  cases hv
  rw [g_set_comm _ _ _ hbq3, g_set_set] at hh
  subst hh
  show g_Go E X _ _ false _ _ 39 _ [.ref q3, .ref b]
  refine g_putF0 hX dH_init_39 fH_26 rfl (g_set_same _ _ _) hb0 rfl (by first | rfl | exact g_fit _) (Nat.le_of_ble_eq_true rfl) 42 rfl ?_
  rw [g_set_set]
  refine g_aload_n hX dH_init_42 rfl rfl (by first | rfl | exact g_rfr _) 43 rfl ?_
  refine g_iload_n hX dH_init_43 rfl rfl 44 rfl ?_
  refine g_putF0 hX dH_init_44 fH_29 rfl (g_set_same _ _ _) hb0 rfl (by first | rfl | exact g_fit _) (Nat.le_of_ble_eq_true rfl) 47 rfl ?_
  rw [g_set_set]
  refine g_aload_n hX dH_init_47 rfl rfl (by first | rfl | exact g_rfr _) 48 rfl ?_
  refine g_aload_n hX dH_init_48 rfl rfl (by first | rfl | exact g_rfr _) 49 rfl ?_
  refine g_putF0 hX dH_init_49 fH_33 rfl (g_set_same _ _ _) hb0 rfl (by first | rfl | exact g_fit _) (Nat.le_of_ble_eq_true rfl) 52 rfl ?_
  rw [g_set_set]
  refine g_aload_n hX dH_init_52 rfl rfl (by first | rfl | exact g_rfr _) 53 rfl ?_
  refine g_iload_n hX dH_init_53 rfl rfl 54 rfl ?_
  refine g_putF0 hX dH_init_54 fH_37 rfl (g_set_same _ _ _) hb0 rfl (by first | rfl | exact g_fit _) (Nat.le_of_ble_eq_true rfl) 57 rfl ?_
  rw [g_set_set]
  exact g_vret hX rfl dH_init_57 ⟨q0, q1, q2, q3, hq0, zq0, hq1, zq1, hq2, zq2, hq3, zq3, rfl, rfl⟩ rfl (by rw [hR]; decide) (by rw [hR]; decide)
set_option maxRecDepth 100000 in
set_option maxHeartbeats 4000000 in
theorem c_G_init {l : Launch} (hl : l.stackTraces = false) {E : g_E} {h : g_H} {b : Nat} {v x : Int32} (hb : h b = some (.inr (3, [.int 0, .int 0]))) (hb0 : E.H0.size ≤ b) : g_Ct l mG_init 1 12 0 0 [.ref b, .int v, .int x] E h (false, fun r' h' => r' = .inr none ∧ h' = g_set h b (.inr (3, [.int v, .int x]))) := by
  refine g_Ct.of hl (by decide) (by first | rfl | (cases r <;> rfl) | simp [g_rfc, Value.category]) (Nat.le_of_ble_eq_true rfl) ?_
  intro X hX hXl hR
  suffices hgo : g_Go E X (false, fun r' h' => r' = .inr none ∧ h' = g_set h b (.inr (3, [.int v, .int x]))) (g_set h b (.inr (3, [.int 0, .int 0]))) true 0 0 0 [some (.ref b), some (.int v), some (.int x)] [] by
    rw [g_set_id hb] at hgo
    exact hgo
  refine g_aload_n hX dG_init_0 rfl rfl (by first | rfl | exact g_rfr _) 1 rfl ?_
  refine g_objInit (wt := 0) hX dG_init_1 kG_1 (by decide) (by rw [hR]; decide) (by rw [hR]; decide) 4 rfl ?_
  refine g_aload_n hX dG_init_4 rfl rfl (by first | rfl | exact g_rfr _) 5 rfl ?_
  refine g_iload_n hX dG_init_5 rfl rfl 6 rfl ?_
  refine g_putF0 hX dG_init_6 fG_7 rfl (g_set_same _ _ _) hb0 rfl (by first | rfl | exact g_fit _) (Nat.le_of_ble_eq_true rfl) 9 rfl ?_
  rw [g_set_set]
  refine g_aload_n hX dG_init_9 rfl rfl (by first | rfl | exact g_rfr _) 10 rfl ?_
  refine g_iload_n hX dG_init_10 rfl rfl 11 rfl ?_
  refine g_putF0 hX dG_init_11 fG_13 rfl (g_set_same _ _ _) hb0 rfl (by first | rfl | exact g_fit _) (Nat.le_of_ble_eq_true rfl) 14 rfl ?_
  rw [g_set_set]
  exact g_vret hX rfl dG_init_14 ⟨rfl, rfl⟩ rfl (by rw [hR]; decide) (by rw [hR]; decide)
set_option maxRecDepth 100000 in
set_option maxHeartbeats 4000000 in
theorem c_F_init {l : Launch} (hl : l.stackTraces = false) {E : g_E} {h : g_H} {b : Nat} {p : Nat} {k bu ba de du : Int32} (hb : h b = some (.inr (4, [.null, .int 0, .int 0, .int 0, .int 0, .int 0, .int 0, .int 0]))) (hb0 : E.H0.size ≤ b) : g_Ct l mF_init 1 12 0 0 [.ref b, .ref p, .int k, .int bu, .int ba, .int de, .int du] E h (false, fun r' h' => r' = .inr none ∧ h' = g_set h b (.inr (4, [.ref p, .int k, .int bu, .int ba, .int (ba + de), .int (ba + de + du), .int du, .int 0]))) := by
  refine g_Ct.of hl (by decide) (by first | rfl | (cases r <;> rfl) | simp [g_rfc, Value.category]) (Nat.le_of_ble_eq_true rfl) ?_
  intro X hX hXl hR
  suffices hgo : g_Go E X (false, fun r' h' => r' = .inr none ∧ h' = g_set h b (.inr (4, [.ref p, .int k, .int bu, .int ba, .int (ba + de), .int (ba + de + du), .int du, .int 0]))) (g_set h b (.inr (4, [.null, .int 0, .int 0, .int 0, .int 0, .int 0, .int 0, .int 0]))) true 0 0 0 [some (.ref b), some (.ref p), some (.int k), some (.int bu), some (.int ba), some (.int de), some (.int du)] [] by
    rw [g_set_id hb] at hgo
    exact hgo
  refine g_aload_n hX dF_init_0 rfl rfl (by first | rfl | exact g_rfr _) 1 rfl ?_
  refine g_objInit (wt := 0) hX dF_init_1 kF_1 (by decide) (by rw [hR]; decide) (by rw [hR]; decide) 4 rfl ?_
  refine g_aload_n hX dF_init_4 rfl rfl (by first | rfl | exact g_rfr _) 5 rfl ?_
  refine g_iconst hX dF_init_5 (v := 0) (by decide) 6 rfl ?_
  refine g_put0 hX dF_init_6 fF_7 (g_set_same _ _ _) hb0 rfl (by first | rfl | exact g_fit _) (Nat.le_of_ble_eq_true rfl) 9 rfl ?_
  rw [g_set_set]
  refine g_aload_n hX dF_init_9 rfl rfl (by first | rfl | exact g_rfr _) 10 rfl ?_
  refine g_aload_n hX dF_init_10 rfl rfl (by first | rfl | exact g_rfr _) 11 rfl ?_
  refine g_putF0 hX dF_init_11 fF_13 rfl (g_set_same _ _ _) hb0 rfl (by first | rfl | exact g_fit _) (Nat.le_of_ble_eq_true rfl) 14 rfl ?_
  rw [g_set_set]
  refine g_aload_n hX dF_init_14 rfl rfl (by first | rfl | exact g_rfr _) 15 rfl ?_
  refine g_iload_n hX dF_init_15 rfl rfl 16 rfl ?_
  refine g_putF0 hX dF_init_16 fF_17 rfl (g_set_same _ _ _) hb0 rfl (by first | rfl | exact g_fit _) (Nat.le_of_ble_eq_true rfl) 19 rfl ?_
  rw [g_set_set]
  refine g_aload_n hX dF_init_19 rfl rfl (by first | rfl | exact g_rfr _) 20 rfl ?_
  refine g_iload_n hX dF_init_20 rfl rfl 21 rfl ?_
  refine g_putF0 hX dF_init_21 fF_20 rfl (g_set_same _ _ _) hb0 rfl (by first | rfl | exact g_fit _) (Nat.le_of_ble_eq_true rfl) 24 rfl ?_
  rw [g_set_set]
  refine g_aload_n hX dF_init_24 rfl rfl (by first | rfl | exact g_rfr _) 25 rfl ?_
  refine g_iload hX dF_init_25 rfl 27 rfl ?_
  refine g_putF0 hX dF_init_27 fF_23 rfl (g_set_same _ _ _) hb0 rfl (by first | rfl | exact g_fit _) (Nat.le_of_ble_eq_true rfl) 30 rfl ?_
  rw [g_set_set]
  refine g_aload_n hX dF_init_30 rfl rfl (by first | rfl | exact g_rfr _) 31 rfl ?_
  refine g_iload hX dF_init_31 rfl 33 rfl ?_
  refine g_iload hX dF_init_33 rfl 35 rfl ?_
  refine g_iadd hX dF_init_35 36 rfl ?_
  refine g_putF0 hX dF_init_36 fF_26 rfl (g_set_same _ _ _) hb0 rfl (by first | rfl | exact g_fit _) (Nat.le_of_ble_eq_true rfl) 39 rfl ?_
  rw [g_set_set]
  refine g_aload_n hX dF_init_39 rfl rfl (by first | rfl | exact g_rfr _) 40 rfl ?_
  refine g_iload hX dF_init_40 rfl 42 rfl ?_
  refine g_iload hX dF_init_42 rfl 44 rfl ?_
  refine g_iadd hX dF_init_44 45 rfl ?_
  refine g_iload hX dF_init_45 rfl 47 rfl ?_
  refine g_iadd hX dF_init_47 48 rfl ?_
  refine g_putF0 hX dF_init_48 fF_29 rfl (g_set_same _ _ _) hb0 rfl (by first | rfl | exact g_fit _) (Nat.le_of_ble_eq_true rfl) 51 rfl ?_
  rw [g_set_set]
  refine g_aload_n hX dF_init_51 rfl rfl (by first | rfl | exact g_rfr _) 52 rfl ?_
  refine g_iload hX dF_init_52 rfl 54 rfl ?_
  refine g_putF0 hX dF_init_54 fF_32 rfl (g_set_same _ _ _) hb0 rfl (by first | rfl | exact g_fit _) (Nat.le_of_ble_eq_true rfl) 57 rfl ?_
  rw [g_set_set]
  exact g_vret hX rfl dF_init_57 ⟨rfl, rfl⟩ rfl (by rw [hR]; decide) (by rw [hR]; decide)
set_option maxRecDepth 100000 in
set_option maxHeartbeats 4000000 in
theorem c_R_init {l : Launch} (hl : l.stackTraces = false) {E : g_E} {h : g_H} {b : Nat}  (hb : h b = some (.inr (5, [.null, .null, .null, .null, .int 0]))) (hb0 : E.H0.size ≤ b) : g_Ct l mR_init 1 12 4 64 [.ref b] E h (false, fun r' h' => ∃ q0 q1 q2 q3, h q0 = none ∧ E.H0.size ≤ q0 ∧ (g_set h q0 (g_ints E 16 (fun _ => 0))) q1 = none ∧ E.H0.size ≤ q1 ∧ (g_set (g_set h q0 (g_ints E 16 (fun _ => 0))) q1 (g_ints E 16 (fun _ => 0))) q2 = none ∧ E.H0.size ≤ q2 ∧ (g_set (g_set (g_set h q0 (g_ints E 16 (fun _ => 0))) q1 (g_ints E 16 (fun _ => 0))) q2 (g_ints E 16 (fun _ => 0))) q3 = none ∧ E.H0.size ≤ q3 ∧ r' = .inr none ∧ h' = g_set (g_set (g_set (g_set (g_set h q0 (g_ints E 16 (fun _ => 0))) q1 (g_ints E 16 (fun _ => 0))) q2 (g_ints E 16 (fun _ => 0))) q3 (g_ints E 16 (fun _ => 0))) b (.inr (5, [.ref q0, .ref q1, .ref q2, .ref q3, .int 0]))) := by
  refine g_Ct.of hl (by decide) (by first | rfl | (cases r <;> rfl) | simp [g_rfc, Value.category]) (Nat.le_of_ble_eq_true rfl) ?_
  intro X hX hXl hR
  suffices hgo : g_Go E X (false, fun r' h' => ∃ q0 q1 q2 q3, h q0 = none ∧ E.H0.size ≤ q0 ∧ (g_set h q0 (g_ints E 16 (fun _ => 0))) q1 = none ∧ E.H0.size ≤ q1 ∧ (g_set (g_set h q0 (g_ints E 16 (fun _ => 0))) q1 (g_ints E 16 (fun _ => 0))) q2 = none ∧ E.H0.size ≤ q2 ∧ (g_set (g_set (g_set h q0 (g_ints E 16 (fun _ => 0))) q1 (g_ints E 16 (fun _ => 0))) q2 (g_ints E 16 (fun _ => 0))) q3 = none ∧ E.H0.size ≤ q3 ∧ r' = .inr none ∧ h' = g_set (g_set (g_set (g_set (g_set h q0 (g_ints E 16 (fun _ => 0))) q1 (g_ints E 16 (fun _ => 0))) q2 (g_ints E 16 (fun _ => 0))) q3 (g_ints E 16 (fun _ => 0))) b (.inr (5, [.ref q0, .ref q1, .ref q2, .ref q3, .int 0]))) (g_set h b (.inr (5, [.null, .null, .null, .null, .int 0]))) true 0 0 0 [some (.ref b)] [] by
    rw [g_set_id hb] at hgo
    exact hgo
  refine g_aload_n hX dR_init_0 rfl rfl (by first | rfl | exact g_rfr _) 1 rfl ?_
  refine g_objInit (wt := 0) hX dR_init_1 kR_3 (by decide) (by rw [hR]; decide) (by rw [hR]; decide) 4 rfl ?_
  refine g_aload_n hX dR_init_4 rfl rfl (by first | rfl | exact g_rfr _) 5 rfl ?_
  refine g_bipush hX dR_init_5 (v := 16) (by decide) 7 rfl ?_
  refine g_newa (t := 0) (N := 16) (a0 := (16, .inl (fun _ => 0))) hX dR_init_7 a_int rfl rfl (fun C q => by cases q) (fun _ => rfl) (by decide) (by decide) (by decide) (by rw [hR]; decide) (by rw [hR]; decide) 9 rfl (fun q0 hq0 zq0 => ?_)
  have hbq0 := (g_fresh hq0).1
  replace hq0 := (g_fresh hq0).2
  rw [g_set_comm _ _ _ hbq0]
  refine g_putF0 hX dR_init_9 fR_9 rfl (g_set_same _ _ _) hb0 rfl (by first | rfl | exact g_fit _) (Nat.le_of_ble_eq_true rfl) 12 rfl ?_
  rw [g_set_set]
  refine g_aload_n hX dR_init_12 rfl rfl (by first | rfl | exact g_rfr _) 13 rfl ?_
  refine g_bipush hX dR_init_13 (v := 16) (by decide) 15 rfl ?_
  refine g_newa (t := 0) (N := 16) (a0 := (16, .inl (fun _ => 0))) hX dR_init_15 a_int rfl rfl (fun C q => by cases q) (fun _ => rfl) (by decide) (by decide) (by decide) (by rw [hR]; decide) (by rw [hR]; decide) 17 rfl (fun q1 hq1 zq1 => ?_)
  have hbq1 := (g_fresh hq1).1
  replace hq1 := (g_fresh hq1).2
  rw [g_set_comm _ _ _ hbq1]
  refine g_putF0 hX dR_init_17 fR_15 rfl (g_set_same _ _ _) hb0 rfl (by first | rfl | exact g_fit _) (Nat.le_of_ble_eq_true rfl) 20 rfl ?_
  rw [g_set_set]
  refine g_aload_n hX dR_init_20 rfl rfl (by first | rfl | exact g_rfr _) 21 rfl ?_
  refine g_bipush hX dR_init_21 (v := 16) (by decide) 23 rfl ?_
  refine g_newa (t := 0) (N := 16) (a0 := (16, .inl (fun _ => 0))) hX dR_init_23 a_int rfl rfl (fun C q => by cases q) (fun _ => rfl) (by decide) (by decide) (by decide) (by rw [hR]; decide) (by rw [hR]; decide) 25 rfl (fun q2 hq2 zq2 => ?_)
  have hbq2 := (g_fresh hq2).1
  replace hq2 := (g_fresh hq2).2
  rw [g_set_comm _ _ _ hbq2]
  refine g_putF0 hX dR_init_25 fR_18 rfl (g_set_same _ _ _) hb0 rfl (by first | rfl | exact g_fit _) (Nat.le_of_ble_eq_true rfl) 28 rfl ?_
  rw [g_set_set]
  refine g_aload_n hX dR_init_28 rfl rfl (by first | rfl | exact g_rfr _) 29 rfl ?_
  refine g_bipush hX dR_init_29 (v := 16) (by decide) 31 rfl ?_
  refine g_newa (t := 0) (N := 16) (a0 := (16, .inl (fun _ => 0))) hX dR_init_31 a_int rfl rfl (fun C q => by cases q) (fun _ => rfl) (by decide) (by decide) (by decide) (by rw [hR]; decide) (by rw [hR]; decide) 33 rfl (fun q3 hq3 zq3 => ?_)
  have hbq3 := (g_fresh hq3).1
  replace hq3 := (g_fresh hq3).2
  rw [g_set_comm _ _ _ hbq3]
  refine g_putF0 hX dR_init_33 fR_21 rfl (g_set_same _ _ _) hb0 rfl (by first | rfl | exact g_fit _) (Nat.le_of_ble_eq_true rfl) 36 rfl ?_
  rw [g_set_set]
  refine g_aload_n hX dR_init_36 rfl rfl (by first | rfl | exact g_rfr _) 37 rfl ?_
  refine g_iconst hX dR_init_37 (v := 0) (by decide) 38 rfl ?_
  refine g_put0 hX dR_init_38 fR_24 (g_set_same _ _ _) hb0 rfl (by first | rfl | exact g_fit _) (Nat.le_of_ble_eq_true rfl) 41 rfl ?_
  rw [g_set_set]
  exact g_vret hX rfl dR_init_41 ⟨q0, q1, q2, q3, hq0, zq0, hq1, zq1, hq2, zq2, hq3, zq3, rfl, rfl⟩ rfl (by rw [hR]; decide) (by rw [hR]; decide)
def q_th0 : Nat → Int32 := (upd (upd (upd (upd (upd (upd (upd (fun _ => 0) 0 0) 1 0) 2 8) 3 4) 4 8421504) 5 255) 6 4)
