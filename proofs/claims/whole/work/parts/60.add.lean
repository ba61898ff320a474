/-! ArrayList: its constructor, add, growing -/
theorem g_norm1 (h : g_H) {b q : Nat} (e1 e2 e3 e4 e5 : va_E) (hn : b ≠ q) : g_set (g_set (g_set (g_set (g_set h b e1) q e2) b e3) q e4) b e5 = g_set (g_set h q e4) b e5 := by
  rw [g_set_comm (g_set (g_set h b e1) q e2) e3 e4 hn, g_set_set, g_set_set, g_set_comm h e1 e4 hn, g_set_set]
theorem g_norm2 (h : g_H) {b q : Nat} (e1 e4 e5 : va_E) (hn : b ≠ q) : g_set (g_set (g_set h b e1) q e4) b e5 = g_set (g_set h q e4) b e5 := by
  rw [g_set_comm h e1 e4 hn, g_set_set]
theorem l_cap_full {n : Nat} (h0 : n ≠ 0) (hn : n ≤ 33) (h : ¬ n < l_cap n) : (n = 10 ∨ n = 15 ∨ n = 22 ∨ n = 33) := by
  unfold l_cap at h
  split at h
  · omega
  · split at h
    · omega
    · split at h <;> omega
theorem l_cap_next {n : Nat} (h0 : n ≠ 0) (h : n < l_cap n) : l_cap (n + 1) = l_cap n := by
  unfold l_cap at h ⊢
  by_cases h1 : n ≤ 10
  · rw [if_pos h1] at h ⊢
    by_cases h2 : n = 10
    · omega
    · rw [if_pos (by omega)]
  · rw [if_neg h1] at h ⊢
    rw [if_neg (by omega)]
    by_cases h2 : n ≤ 15
    · rw [if_pos h2] at h ⊢
      rw [if_pos (by omega)]
    · rw [if_neg h2] at h ⊢
      rw [if_neg (by omega)]
      by_cases h3 : n ≤ 22
      · rw [if_pos h3] at h ⊢
        rw [if_pos (by omega)]
      · rw [if_neg h3, if_neg (by omega)]
theorem va_up_list {xs : List Nat} {g : Nat → Nat} {x : Nat} : va_up (fun j => (xs[j]?).map g) xs.length (some (g x)) = fun j => ((xs ++ [x])[j]?).map g := by
  funext j
  show (if j = xs.length then some (g x) else (xs[j]?).map g) = ((xs ++ [x])[j]?).map g
  by_cases h : j = xs.length
  · rw [if_pos h, h, List.getElem?_append_right (Nat.le_refl _), Nat.sub_self]
    rfl
  · rw [if_neg h]
    by_cases h2 : j < xs.length
    · rw [List.getElem?_append_left h2]
    · have h3 : (xs ++ [x]).length = xs.length + 1 := by simp
      rw [List.getElem?_eq_none (Nat.not_lt.mp h2), List.getElem?_eq_none (by omega)]
set_option maxRecDepth 100000 in
set_option maxHeartbeats 4000000 in
theorem c_AC_init {l : Launch} (hl : l.stackTraces = false) {E : g_E} {h : g_H} {b : Nat} : g_Ct l mAC_init 1 12 0 0 [.ref b] E h (false, fun r' h' => r' = .inr none ∧ h' = h) := by
  refine g_Ct.of hl (by decide) (by first | rfl | simp [g_rfc, Value.category]) (Nat.le_of_ble_eq_true rfl) ?_
  intro X hX hXl hR
  show g_Go E X _ h true 0 0 0 [some (.ref b)] []
  refine g_aload_n hX dAC_init_0 rfl rfl (by first | rfl | exact g_rfr _) 1 rfl ?_
  refine g_objInit (wt := 0) hX dAC_init_1 kAC_1 (by decide) (by rw [hR]; decide) (by rw [hR]; decide) 4 rfl ?_
  exact g_vret hX rfl dAC_init_4 ⟨rfl, rfl⟩ rfl (Nat.zero_le _) (Nat.zero_le _)
set_option maxRecDepth 100000 in
set_option maxHeartbeats 4000000 in
theorem c_AL_init {l : Launch} (hl : l.stackTraces = false) {E : g_E} {h : g_H} {b : Nat} {r s m : Value} (hb : h b = some (.inr (6, [r, s, m]))) (hb0 : E.H0.size ≤ b) : g_Ct l mAL_init 2 24 0 0 [.ref b] E h (false, fun r' h' => r' = .inr none ∧ h' = g_set h b (.inr (6, [r, s, .int 0]))) := by
  refine g_Ct.of hl (by decide) (by first | rfl | simp [g_rfc, Value.category]) (Nat.le_of_ble_eq_true rfl) ?_
  intro X hX hXl hR
  show g_Go E X _ h true 0 0 0 [some (.ref b)] []
  refine g_aload_n hX dAL_init_0 rfl rfl (by first | rfl | exact g_rfr _) 1 rfl ?_
  refine g_cI0 (wt := 0) hX (c_AC_init hX.tr) dAL_init_1 kAL_1 (g_rm.of hR (by decide) (by decide)) (by first | exact Nat.zero_le _ | (rw [hR]; decide)) (by first | exact Nat.zero_le _ | (rw [hR]; decide)) (by first | decide | (simp [Value.category])) (fun q => by cases q) 4 rfl (fun v h' hP => ?_) (fun k h' hP => by cases hP.1)
  obtain ⟨hv, hh⟩ := hP
  cases hv
  subst hh
  show g_Go E X _ _ false 0 0 4 _ []
  refine g_aload_n hX dAL_init_4 rfl rfl (by first | rfl | exact g_rfr _) 5 rfl ?_
  refine g_iconst hX dAL_init_5 (v := 0) (by decide) 6 rfl ?_
  refine g_put0 hX dAL_init_6 fAL_7 hb hb0 rfl rfl (Nat.le_of_ble_eq_true rfl) 9 rfl ?_
  exact g_vret hX rfl dAL_init_9 ⟨rfl, rfl⟩ rfl (Nat.zero_le _) (Nat.zero_le _)
set_option maxRecDepth 100000 in
set_option maxHeartbeats 4000000 in
theorem c_A_init {l : Launch} (hl : l.stackTraces = false) {E : g_E} {h : g_H} {b : Nat} {r s m : Value} (hb : h b = some (.inr (6, [r, s, m]))) (hb0 : E.H0.size ≤ b) : g_Ct l mA_init 3 36 0 0 [.ref b] E h (false, fun r' h' => r' = .inr none ∧ h' = g_set h b (.inr (6, [.ref (E.ad 2), s, .int 0]))) := by
  refine g_Ct.of hl (by decide) (by first | rfl | simp [g_rfc, Value.category]) (Nat.le_of_ble_eq_true rfl) ?_
  intro X hX hXl hR
  show g_Go E X _ h true 0 0 0 [some (.ref b)] []
  refine g_aload_n hX dA_init_0 rfl rfl (by first | rfl | exact g_rfr _) 1 rfl ?_
  refine g_cI0 (wt := 0) hX (c_AL_init hX.tr hb hb0) dA_init_1 kA_1 (g_rm.of hR (by decide) (by decide)) (by first | exact Nat.zero_le _ | (rw [hR]; decide)) (by first | exact Nat.zero_le _ | (rw [hR]; decide)) (by first | decide | (simp [Value.category])) (fun q => by cases q) 4 rfl (fun v h' hP => ?_) (fun k h' hP => by cases hP.1)
  obtain ⟨hv, hh⟩ := hP
  cases hv
  subst hh
  show g_Go E X _ _ false 0 0 4 _ []
  refine g_aload_n hX dA_init_4 rfl rfl (by first | rfl | exact g_rfr _) 5 rfl ?_
  refine g_gets hX dA_init_5 sA_39 hX.K.2.2.2.2.1 8 rfl ?_
  refine g_put0 hX dA_init_8 fA_9 (g_set_same _ _ _) hb0 rfl rfl (Nat.le_of_ble_eq_true rfl) 11 rfl ?_
  exact g_vret hX rfl dA_init_11 ⟨rfl, by rw [g_set_set]; rfl⟩ rfl (Nat.zero_le _) (Nat.zero_le _)
set_option maxRecDepth 100000 in
set_option maxHeartbeats 4000000 in
theorem c_AS_newLength {l : Launch} (hl : l.stackTraces = false) (E : g_E) (h : g_H) {a b c : Int32} (h0 : ¬ a + q_mx b c ≤ 0) (h1 : ¬ 2147483639 < a + q_mx b c)  : g_Rd l mAS_newLength 1 14 [.int a, .int b, .int c] E h (some (.int (a + q_mx b c))) := by
  refine g_Rd.of hl (by decide) (rfl) (Nat.le_of_ble_eq_true rfl) ?_
  intro X hX hXl hR
  show g_Go E X _ h true 0 0 0 [some (.int a), some (.int b), some (.int c), none] []
  refine g_iload_n hX dAS_newLength_0 rfl rfl 1 rfl ?_
  refine g_iload_n hX dAS_newLength_1 rfl rfl 2 rfl ?_
  refine g_iload_n hX dAS_newLength_2 rfl rfl 3 rfl ?_
  refine g_mmax (wt := 1) hX dAS_newLength_3 kAS_194 (by rw [hR]; decide) (by simp [Value.category]) (by rw [hR]; decide) (Nat.zero_le _) (Nat.zero_le _) 6 rfl ?_
  refine g_iadd hX dAS_newLength_6 7 rfl ?_
  refine g_istore_n hX (L' := [_, _, _, _]) dAS_newLength_7 rfl (by decide) rfl 8 rfl ?_
  refine g_iconst hX dAS_newLength_8 (v := 0) (by decide) 9 rfl ?_
  refine g_iload_n hX dAS_newLength_9 rfl rfl 10 rfl ?_
  refine g_icmp_ge hX dAS_newLength_10 21 13 (by decide) rfl (fun c10 => ?_) (fun c10 => ?_)
  · exact absurd c10 h0
  · refine g_iload_n hX dAS_newLength_13 rfl rfl 14 rfl ?_
    refine g_ldc hX dAS_newLength_14 lAS_200 16 rfl ?_
    refine g_icmp_gt hX dAS_newLength_16 21 19 (by decide) rfl (fun c16 => ?_) (fun c16 => ?_)
    · exact absurd c16 h1
    · refine g_iload_n hX dAS_newLength_19 rfl rfl 20 rfl ?_
      exact g_iret hX rfl rfl dAS_newLength_20 ⟨by rfl, rfl⟩ rfl (Nat.zero_le _) (Nat.zero_le _)
set_option maxRecDepth 100000 in
set_option maxHeartbeats 4000000 in
theorem c_A_grow1_0 {l : Launch} (hl : l.stackTraces = false) {E : g_E} {h : g_H} {b : Nat} {s m : Value} (hb : h b = some (.inr (6, [.ref (E.ad 2), s, m]))) (hb0 : E.H0.size ≤ b) : g_Ct l mA_grow1 3 66 1 33 [.ref b, .int (nI 1)] E h (false, fun r' h' => ∃ q, h q = none ∧ E.H0.size ≤ q ∧ r' = .inr (some (.ref q)) ∧ h' = g_set (g_set h q (g_refs E 10 (fun _ => none))) b (.inr (6, [.ref q, s, m]))) := by
  refine g_Ct.of hl (by decide) (by first | rfl | simp [g_rfc, Value.category]) (Nat.le_of_ble_eq_true rfl) ?_
  intro X hX hXl hR
  show g_Go E X _ h true 0 0 0 [some (.ref b), some (.int (nI 1)), none, none] []
  refine g_aload_n hX dA_grow1_0 rfl rfl (by first | rfl | exact g_rfr _) 1 rfl ?_
  refine g_get hX dA_grow1_1 fA_9 hb rfl 4 rfl ?_
  refine g_alenT hX dA_grow1_4 hX.K.2.2.2.2.2.2.2.1.2.2.1 5 rfl ?_
  refine g_istore_n hX (L' := [_, _, _, _]) dA_grow1_5 rfl (by decide) rfl 6 rfl ?_
  refine g_iload_n hX dA_grow1_6 rfl rfl 7 rfl ?_
  refine g_if_gt hX dA_grow1_7 20 10 (by decide) rfl (fun c7 => ?_) (fun c7 => ?_)
  · exact absurd c7 (by decide)
  · refine g_aload_n hX dA_grow1_10 rfl rfl (by first | rfl | exact g_rfr _) 11 rfl ?_
    refine g_get hX dA_grow1_11 fA_9 hb rfl 14 rfl ?_
    refine g_gets hX dA_grow1_14 sA_39 hX.K.2.2.2.2.1 17 rfl ?_
    refine g_acmp_eq (rx := some (E.ad 2)) (ry := some (E.ad 2)) hX dA_grow1_17 45 20 (by decide) rfl (fun c17 => ?_) (fun c17 => absurd rfl c17)
    refine g_aload_n hX dA_grow1_45 rfl rfl (by first | rfl | exact g_rfr _) 46 rfl ?_
    refine g_bipush hX dA_grow1_46 (v := 10) (by decide) 48 rfl ?_
    refine g_iload_n hX dA_grow1_48 rfl rfl 49 rfl ?_
    refine g_mmax (wt := 1) hX dA_grow1_49 kA_79 (by rw [hR]; decide) (by simp [Value.category]) (by rw [hR]; decide) (Nat.zero_le _) (Nat.zero_le _) 52 rfl ?_
    rw [show q_mx 10 (nI 1) = nI 10 from by decide]
    refine g_anew (N := 10) hX dA_grow1_52 (g_in 498 (by decide +kernel) (by decide +kernel)) (by decide) (by decide) (by decide) (by rw [hR]; decide) (by rw [hR]; decide) 55 rfl (fun q hq0 hq1 => ?_)
    have hqb : b ≠ q := fun e => by rw [e, hq0] at hb; cases hb
    refine g_dup_x1 hX dA_grow1_55 rfl rfl 56 rfl ?_
    refine g_put0 hX dA_grow1_56 fA_9 ((g_set_ne _ _ hqb).trans hb) hb0 rfl rfl (Nat.le_of_ble_eq_true rfl) 59 rfl ?_
    exact g_aret hX rfl (Or.inr ⟨_, rfl⟩) rfl dA_grow1_59 ⟨q, hq0, hq1, rfl, rfl⟩ rfl (by rw [hR]; decide) (by rw [hR]; decide)
set_option maxRecDepth 100000 in
set_option maxHeartbeats 4000000 in
theorem c_A_grow1_c {l : Launch} (hl : l.stackTraces = false) {E : g_E} {h : g_H} {b dd n N ci NN : Nat} {s m : Value} {f : Nat → Option Nat} {C : String} {T0 : u_T} (hb : h b = some (.inr (6, [.ref dd, s, m]))) (hb0 : E.H0.size ≤ b) (ha0 : h dd = some (g_refs E n f)) (h0 : 0 < n) (hN : n ≤ N) (hN1 : N ≤ 33) (hf : ∀ i, n ≤ i → f i = none) (hel : ∀ i y, f i = some y → ∃ fs, h y = some (.inr (ci, fs))) (hcl : g_cl[ci]? = some (C, T0, NN)) (hcast : Cond.castable C "java/lang/Object" ∈ g_wl) (hnl : nI n + q_mx (nI (n + 1) - nI n) (nI n >>> (1 &&& 31)) = nI N) : g_Ct l mA_grow1 3 66 1 33 [.ref b, .int (nI (n + 1))] E h (false, fun r' h' => ∃ q, h q = none ∧ E.H0.size ≤ q ∧ r' = .inr (some (.ref q)) ∧ h' = g_set (g_set h q (g_refs E N f)) b (.inr (6, [.ref q, s, m]))) := by
  refine g_Ct.of hl (by decide) (by first | rfl | simp [g_rfc, Value.category]) (Nat.le_of_ble_eq_true rfl) ?_
  intro X hX hXl hR
  show g_Go E X _ h true 0 0 0 [some (.ref b), some (.int (nI (n + 1))), none, none] []
  refine g_aload_n hX dA_grow1_0 rfl rfl (by first | rfl | exact g_rfr _) 1 rfl ?_
  refine g_get hX dA_grow1_1 fA_9 hb rfl 4 rfl ?_
  refine g_alen (t := 3) hX dA_grow1_4 ha0 rfl rfl 5 rfl ?_
  refine g_istore_n hX (L' := [_, _, _, _]) dA_grow1_5 rfl (by decide) rfl 6 rfl ?_
  refine g_iload_n hX dA_grow1_6 rfl rfl 7 rfl ?_
  refine g_if_gt hX dA_grow1_7 20 10 (by decide) rfl (fun c7 => ?_) (fun c7 => ?_)
  · refine g_iload_n hX dA_grow1_20 rfl rfl 21 rfl ?_
    refine g_iload_n hX dA_grow1_21 rfl rfl 22 rfl ?_
    refine g_iload_n hX dA_grow1_22 rfl rfl 23 rfl ?_
    refine g_isub hX dA_grow1_23 24 rfl ?_
    refine g_iload_n hX dA_grow1_24 rfl rfl 25 rfl ?_
    refine g_iconst hX dA_grow1_25 (v := 1) (by decide) 26 rfl ?_
    refine g_ishr hX dA_grow1_26 27 rfl ?_
    refine g_cS3r (wt := 0) hX (c_AS_newLength hX.tr E h (by rw [hnl]; exact nI_nle (by omega) (by omega)) (by rw [hnl]; exact nI_nlt (b := N) (a := 2147483639) (by omega) (by decide))) dA_grow1_27 kA_73 (g_rm.of hR (by decide) (by decide)) (by first | exact Nat.zero_le _ | (rw [hR]; decide)) (by first | exact Nat.zero_le _ | (rw [hR]; decide)) (by first | decide | (simp [Value.category])) 30 rfl ?_
    rw [hnl]
    refine g_istore_n hX (L' := [_, _, _, _]) dA_grow1_30 rfl (by decide) rfl 31 rfl ?_
    refine g_aload_n hX dA_grow1_31 rfl rfl (by first | rfl | exact g_rfr _) 32 rfl ?_
    refine g_aload_n hX dA_grow1_32 rfl rfl (by first | rfl | exact g_rfr _) 33 rfl ?_
    refine g_get hX dA_grow1_33 fA_9 hb rfl 36 rfl ?_
    refine g_iload_n hX dA_grow1_36 rfl rfl 37 rfl ?_
    refine g_cS2 (wt := 1) hX (c_AR_copyOf2 hX.tr ha0 hN hN1 hf hel hcl hcast) dA_grow1_37 kA_66 (g_rm.of hR (by decide) (by decide)) (by rw [hR]; decide) (by rw [hR]; decide) (by simp [Value.category]) (fun q => by cases q) 40 rfl (fun v h' hP => ?_) (fun k h' hP => by obtain ⟨q, -, -, hk, -⟩ := hP; cases hk)
    obtain ⟨q, hq0, hq1, hv, hh⟩ := hP
    cases hv
    subst hh
    show g_Go E X _ _ false _ _ 40 _ [.ref q, .ref b]
    have hqb : b ≠ q := fun e => by rw [e, hq0] at hb; cases hb
    refine g_dup_x1 hX dA_grow1_40 rfl rfl 41 rfl ?_
    refine g_put0 hX dA_grow1_41 fA_9 ((g_set_ne _ _ hqb).trans hb) hb0 rfl rfl (Nat.le_of_ble_eq_true rfl) 44 rfl ?_
    exact g_aret hX rfl (Or.inr ⟨_, rfl⟩) rfl dA_grow1_44 ⟨q, hq0, hq1, rfl, rfl⟩ rfl (by rw [hR]; decide) (by rw [hR]; decide)
  · exact absurd (nI_lt (a := 0) h0 (by omega)) c7
set_option maxRecDepth 100000 in
set_option maxHeartbeats 4000000 in
theorem c_A_grow0_0 {l : Launch} (hl : l.stackTraces = false) {E : g_E} {h : g_H} {b : Nat} {m : Value} (hb : h b = some (.inr (6, [.ref (E.ad 2), .int (nI 0), m]))) (hb0 : E.H0.size ≤ b) : g_Ct l mA_grow0 4 81 1 33 [.ref b] E h (false, fun r' h' => ∃ q, h q = none ∧ E.H0.size ≤ q ∧ r' = .inr (some (.ref q)) ∧ h' = g_set (g_set h q (g_refs E 10 (fun _ => none))) b (.inr (6, [.ref q, .int (nI 0), m]))) := by
  refine g_Ct.of hl (by decide) (by first | rfl | simp [g_rfc, Value.category]) (Nat.le_of_ble_eq_true rfl) ?_
  intro X hX hXl hR
  show g_Go E X _ h true 0 0 0 [some (.ref b)] []
  refine g_aload_n hX dA_grow0_0 rfl rfl (by first | rfl | exact g_rfr _) 1 rfl ?_
  refine g_aload_n hX dA_grow0_1 rfl rfl (by first | rfl | exact g_rfr _) 2 rfl ?_
  refine g_get hX dA_grow0_2 fA_48 hb rfl 5 rfl ?_
  refine g_iconst hX dA_grow0_5 (v := 1) (by decide) 6 rfl ?_
  refine g_iadd hX dA_grow0_6 7 rfl ?_
  rw [nI_1 0]
  refine g_cV1 (wt := 0) hX (c_A_grow1_0 hX.tr hb hb0) dA_grow0_7 hb kA_69 (g_rm.of hR (by decide) (by decide)) (by rw [hR]; decide) (by rw [hR]; decide) (by decide) (fun q => by cases q) 10 rfl (fun v h' hP => ?_) (fun k h' hP => by obtain ⟨q, -, -, hk, -⟩ := hP; cases hk)
  obtain ⟨q, hq0, hq1, hv, hh⟩ := hP
  cases hv
  show g_Go E X _ h' false _ _ 10 _ [.ref q]
  exact g_aret hX rfl (Or.inr ⟨_, rfl⟩) rfl dA_grow0_10 ⟨q, hq0, hq1, rfl, hh⟩ rfl (by rw [hR]; decide) (by rw [hR]; decide)
set_option maxRecDepth 100000 in
set_option maxHeartbeats 4000000 in
theorem c_A_grow0_c {l : Launch} (hl : l.stackTraces = false) {E : g_E} {h : g_H} {b dd n N ci NN : Nat} {m : Value} {f : Nat → Option Nat} {C : String} {T0 : u_T} (hb : h b = some (.inr (6, [.ref dd, .int (nI n), m]))) (hb0 : E.H0.size ≤ b) (ha0 : h dd = some (g_refs E n f)) (h0 : 0 < n) (hN : n ≤ N) (hN1 : N ≤ 33) (hf : ∀ i, n ≤ i → f i = none) (hel : ∀ i y, f i = some y → ∃ fs, h y = some (.inr (ci, fs))) (hcl : g_cl[ci]? = some (C, T0, NN)) (hcast : Cond.castable C "java/lang/Object" ∈ g_wl) (hnl : nI n + q_mx (nI (n + 1) - nI n) (nI n >>> (1 &&& 31)) = nI N) : g_Ct l mA_grow0 4 81 1 33 [.ref b] E h (false, fun r' h' => ∃ q, h q = none ∧ E.H0.size ≤ q ∧ r' = .inr (some (.ref q)) ∧ h' = g_set (g_set h q (g_refs E N f)) b (.inr (6, [.ref q, .int (nI n), m]))) := by
  refine g_Ct.of hl (by decide) (by first | rfl | simp [g_rfc, Value.category]) (Nat.le_of_ble_eq_true rfl) ?_
  intro X hX hXl hR
  show g_Go E X _ h true 0 0 0 [some (.ref b)] []
  refine g_aload_n hX dA_grow0_0 rfl rfl (by first | rfl | exact g_rfr _) 1 rfl ?_
  refine g_aload_n hX dA_grow0_1 rfl rfl (by first | rfl | exact g_rfr _) 2 rfl ?_
  refine g_get hX dA_grow0_2 fA_48 hb rfl 5 rfl ?_
  refine g_iconst hX dA_grow0_5 (v := 1) (by decide) 6 rfl ?_
  refine g_iadd hX dA_grow0_6 7 rfl ?_
  rw [nI_1 n]
  refine g_cV1 (wt := 0) hX (c_A_grow1_c hX.tr hb hb0 ha0 h0 hN hN1 hf hel hcl hcast hnl) dA_grow0_7 hb kA_69 (g_rm.of hR (by decide) (by decide)) (by rw [hR]; decide) (by rw [hR]; decide) (by decide) (fun q => by cases q) 10 rfl (fun v h' hP => ?_) (fun k h' hP => by obtain ⟨q, -, -, hk, -⟩ := hP; cases hk)
  obtain ⟨q, hq0, hq1, hv, hh⟩ := hP
  cases hv
  show g_Go E X _ h' false _ _ 10 _ [.ref q]
  exact g_aret hX rfl (Or.inr ⟨_, rfl⟩) rfl dA_grow0_10 ⟨q, hq0, hq1, rfl, hh⟩ rfl (by rw [hR]; decide) (by rw [hR]; decide)
set_option maxRecDepth 100000 in
set_option maxHeartbeats 4000000 in
theorem c_A_add3_n {l : Launch} (hl : l.stackTraces = false) {E : g_E} {h : g_H} {e ce Nn : Nat} {fe : List Value} {Ce : String} {Te : u_T} {b dd n : Nat} {m : Value} {f : Nat → Option Nat} (hb : h b = some (.inr (6, [.ref dd, .int (nI n), m]))) (hb0 : E.H0.size ≤ b) (ha0 : h dd = some (g_refs E (l_cap n) f)) (hd0 : E.H0.size ≤ dd) (hn : n < l_cap n) (he : h e = some (.inr (ce, fe))) (hce : g_cl[ce]? = some (Ce, Te, Nn)) (hcaste : Cond.castable Ce "java/lang/Object" ∈ g_wl) : g_Ct l mA_add3 5 93 0 0 [.ref b, .ref e, .ref dd, .int (nI n)] E h (false, fun r' h' => r' = .inr none ∧ h' = g_set (g_set h dd (g_refs E (l_cap n) (va_up f n (some e)))) b (.inr (6, [.ref dd, .int (nI (n + 1)), m]))) := by
  refine g_Ct.of hl (by decide) (by first | rfl | simp [g_rfc, Value.category]) (Nat.le_of_ble_eq_true rfl) ?_
  intro X hX hXl hR
  have hcl9 := l_cap_lt n
  have hbd : b ≠ dd := fun q => by rw [q, ha0] at hb; cases hb
  show g_Go E X _ h true 0 0 0 [some (.ref b), some (.ref e), some (.ref dd), some (.int (nI n))] []
  refine g_iload_n hX dA_add3_0 rfl rfl 1 rfl ?_
  refine g_aload_n hX dA_add3_1 rfl rfl (by first | rfl | exact g_rfr _) 2 rfl ?_
  refine g_alen (t := 3) hX dA_add3_2 ha0 rfl rfl 3 rfl ?_
  refine g_icmp_ne hX dA_add3_3 11 6 (by decide) rfl (fun c3 => ?_) (fun c3 => ?_)
  · refine g_aload_n hX dA_add3_11 rfl rfl (by first | rfl | exact g_rfr _) 12 rfl ?_
    refine g_iload_n hX dA_add3_12 rfl rfl 13 rfl ?_
    refine g_aload_n hX dA_add3_13 rfl rfl (by first | rfl | exact g_rfr _) 14 rfl ?_
    refine g_aast hX dA_add3_14 ha0 hd0 (g_ix.nat hn (by omega)) he hce hcaste 15 rfl ?_
    refine g_aload_n hX dA_add3_15 rfl rfl (by first | rfl | exact g_rfr _) 16 rfl ?_
    refine g_iload_n hX dA_add3_16 rfl rfl 17 rfl ?_
    refine g_iconst hX dA_add3_17 (v := 1) (by decide) 18 rfl ?_
    refine g_iadd hX dA_add3_18 19 rfl ?_
    rw [nI_1 n]
    refine g_put0 hX dA_add3_19 fA_48 ((g_set_ne _ _ hbd).trans hb) hb0 rfl rfl (Nat.le_of_ble_eq_true rfl) 22 rfl ?_
    exact g_vret hX rfl dA_add3_22 ⟨rfl, rfl⟩ rfl (Nat.zero_le _) (Nat.zero_le _)
  · exact absurd (q_inj c3 (by omega) (by omega)) (by omega)
set_option maxRecDepth 100000 in
set_option maxHeartbeats 4000000 in
theorem c_A_add3_0 {l : Launch} (hl : l.stackTraces = false) {E : g_E} {h : g_H} {e ce Nn : Nat} {fe : List Value} {Ce : String} {Te : u_T} {b : Nat} {m : Value} (hb : h b = some (.inr (6, [.ref (E.ad 2), .int (nI 0), m]))) (hb0 : E.H0.size ≤ b) (hne : e ≠ b) (he : h e = some (.inr (ce, fe))) (hce : g_cl[ce]? = some (Ce, Te, Nn)) (hcaste : Cond.castable Ce "java/lang/Object" ∈ g_wl) : g_Ct l mA_add3 5 93 1 33 [.ref b, .ref e, .ref (E.ad 2), .int (nI 0)] E h (false, fun r' h' => ∃ q, h q = none ∧ E.H0.size ≤ q ∧ r' = .inr none ∧ h' = g_set (g_set h q (g_refs E 10 (va_up (fun _ => none) 0 (some e)))) b (.inr (6, [.ref q, .int (nI (0 + 1)), m]))) := by
  refine g_Ct.of hl (by decide) (by first | rfl | simp [g_rfc, Value.category]) (Nat.le_of_ble_eq_true rfl) ?_
  intro X hX hXl hR
  show g_Go E X _ h true 0 0 0 [some (.ref b), some (.ref e), some (.ref (E.ad 2)), some (.int (nI 0))] []
  refine g_iload_n hX dA_add3_0 rfl rfl 1 rfl ?_
  refine g_aload_n hX dA_add3_1 rfl rfl (by first | rfl | exact g_rfr _) 2 rfl ?_
  refine g_alenT hX dA_add3_2 hX.K.2.2.2.2.2.2.2.1.2.2.1 3 rfl ?_
  refine g_icmp_ne hX dA_add3_3 11 6 (by decide) rfl (fun c3 => ?_) (fun c3 => ?_)
  · exact absurd rfl c3
  · refine g_aload_n hX dA_add3_6 rfl rfl (by first | rfl | exact g_rfr _) 7 rfl ?_
    refine g_cV0 (wt := 0) hX (c_A_grow0_0 hX.tr hb hb0) dA_add3_7 hb kA_129 (g_rm.of hR (by decide) (by decide)) (by rw [hR]; decide) (by rw [hR]; decide) (by decide) (fun q => by cases q) 10 rfl (fun v h' hP => ?_) (fun k h' hP => by obtain ⟨q, -, -, hk, -⟩ := hP; cases hk)
    obtain ⟨q, hq0, hq1, hv, hh⟩ := hP
    cases hv
    subst hh
    show g_Go E X _ _ false _ _ 10 _ [.ref q]
    have hqb : b ≠ q := fun e9 => by rw [e9, hq0] at hb; cases hb
    have hqe : e ≠ q := fun e9 => by rw [e9, hq0] at he; cases he
    have he9 : ∀ e1 e2, g_set (g_set h q e1) b e2 e = some (.inr (ce, fe)) := fun e1 e2 => by rw [g_set_ne _ _ hne, g_set_ne _ _ hqe]; exact he
    refine g_astore_n hX (L' := [_, _, _, _]) dA_add3_10 rfl (by decide) (by first | rfl | exact g_rfr _) rfl 11 rfl ?_
    refine g_aload_n hX dA_add3_11 rfl rfl (by first | rfl | exact g_rfr _) 12 rfl ?_
    refine g_iload_n hX dA_add3_12 rfl rfl 13 rfl ?_
    refine g_aload_n hX dA_add3_13 rfl rfl (by first | rfl | exact g_rfr _) 14 rfl ?_
    have hqq : ∀ e1 e2, g_set (g_set h q e1) b e2 q = some e1 := fun e1 e2 => by rw [g_set_ne _ _ (Ne.symm hqb), g_set_same]
    refine g_aast hX dA_add3_14 (hqq _ _) hq1 (g_ix.nat (show 0 < 10 by omega) (by omega)) (he9 _ _) hce hcaste 15 rfl ?_
    refine g_aload_n hX dA_add3_15 rfl rfl (by first | rfl | exact g_rfr _) 16 rfl ?_
    refine g_iload_n hX dA_add3_16 rfl rfl 17 rfl ?_
    refine g_iconst hX dA_add3_17 (v := 1) (by decide) 18 rfl ?_
    refine g_iadd hX dA_add3_18 19 rfl ?_
    rw [nI_1 0]
    refine g_put0 hX dA_add3_19 fA_48 ((g_set_ne _ _ hqb).trans (g_set_same _ _ _)) hb0 rfl rfl (Nat.le_of_ble_eq_true rfl) 22 rfl ?_
    exact g_vret hX rfl dA_add3_22 ⟨q, hq0, hq1, rfl, by rw [g_set_comm (g_set h q _) _ _ hqb, g_set_set, g_set_set]; rfl⟩ rfl (by rw [hR]; decide) (by rw [hR]; decide)
set_option maxRecDepth 100000 in
set_option maxHeartbeats 4000000 in
theorem c_A_add3_c {l : Launch} (hl : l.stackTraces = false) {E : g_E} {h : g_H} {e ce Nn : Nat} {fe : List Value} {Ce : String} {Te : u_T} {b dd n N ci NN : Nat} {m : Value} {f : Nat → Option Nat} {C : String} {T0 : u_T} (hb : h b = some (.inr (6, [.ref dd, .int (nI n), m]))) (hb0 : E.H0.size ≤ b) (ha0 : h dd = some (g_refs E n f)) (h0 : 0 < n) (hN : n < N) (hN1 : N ≤ 33) (hf : ∀ i, n ≤ i → f i = none) (hel : ∀ i y, f i = some y → ∃ fs, h y = some (.inr (ci, fs))) (hcl : g_cl[ci]? = some (C, T0, NN)) (hcast : Cond.castable C "java/lang/Object" ∈ g_wl) (hnl : nI n + q_mx (nI (n + 1) - nI n) (nI n >>> (1 &&& 31)) = nI N) (hne : e ≠ b) (he : h e = some (.inr (ce, fe))) (hce : g_cl[ce]? = some (Ce, Te, Nn)) (hcaste : Cond.castable Ce "java/lang/Object" ∈ g_wl) : g_Ct l mA_add3 5 93 1 33 [.ref b, .ref e, .ref dd, .int (nI n)] E h (false, fun r' h' => ∃ q, h q = none ∧ E.H0.size ≤ q ∧ r' = .inr none ∧ h' = g_set (g_set h q (g_refs E N (va_up f n (some e)))) b (.inr (6, [.ref q, .int (nI (n + 1)), m]))) := by
  refine g_Ct.of hl (by decide) (by first | rfl | simp [g_rfc, Value.category]) (Nat.le_of_ble_eq_true rfl) ?_
  intro X hX hXl hR
  show g_Go E X _ h true 0 0 0 [some (.ref b), some (.ref e), some (.ref dd), some (.int (nI n))] []
  refine g_iload_n hX dA_add3_0 rfl rfl 1 rfl ?_
  refine g_aload_n hX dA_add3_1 rfl rfl (by first | rfl | exact g_rfr _) 2 rfl ?_
  refine g_alen (t := 3) hX dA_add3_2 ha0 rfl rfl 3 rfl ?_
  refine g_icmp_ne hX dA_add3_3 11 6 (by decide) rfl (fun c3 => ?_) (fun c3 => ?_)
  · exact absurd rfl c3
  · refine g_aload_n hX dA_add3_6 rfl rfl (by first | rfl | exact g_rfr _) 7 rfl ?_
    refine g_cV0 (wt := 0) hX (c_A_grow0_c hX.tr hb hb0 ha0 h0 (Nat.le_of_lt hN) hN1 hf hel hcl hcast hnl) dA_add3_7 hb kA_129 (g_rm.of hR (by decide) (by decide)) (by rw [hR]; decide) (by rw [hR]; decide) (by decide) (fun q => by cases q) 10 rfl (fun v h' hP => ?_) (fun k h' hP => by obtain ⟨q, -, -, hk, -⟩ := hP; cases hk)
    obtain ⟨q, hq0, hq1, hv, hh⟩ := hP
    cases hv
    subst hh
    show g_Go E X _ _ false _ _ 10 _ [.ref q]
    have hqb : b ≠ q := fun e9 => by rw [e9, hq0] at hb; cases hb
    have hqe : e ≠ q := fun e9 => by rw [e9, hq0] at he; cases he
    have he9 : ∀ e1 e2, g_set (g_set h q e1) b e2 e = some (.inr (ce, fe)) := fun e1 e2 => by rw [g_set_ne _ _ hne, g_set_ne _ _ hqe]; exact he
    refine g_astore_n hX (L' := [_, _, _, _]) dA_add3_10 rfl (by decide) (by first | rfl | exact g_rfr _) rfl 11 rfl ?_
    refine g_aload_n hX dA_add3_11 rfl rfl (by first | rfl | exact g_rfr _) 12 rfl ?_
    refine g_iload_n hX dA_add3_12 rfl rfl 13 rfl ?_
    refine g_aload_n hX dA_add3_13 rfl rfl (by first | rfl | exact g_rfr _) 14 rfl ?_
    have hqq : ∀ e1 e2, g_set (g_set h q e1) b e2 q = some e1 := fun e1 e2 => by rw [g_set_ne _ _ (Ne.symm hqb), g_set_same]
    refine g_aast hX dA_add3_14 (hqq _ _) hq1 (g_ix.nat (show n < N by omega) (by omega)) (he9 _ _) hce hcaste 15 rfl ?_
    refine g_aload_n hX dA_add3_15 rfl rfl (by first | rfl | exact g_rfr _) 16 rfl ?_
    refine g_iload_n hX dA_add3_16 rfl rfl 17 rfl ?_
    refine g_iconst hX dA_add3_17 (v := 1) (by decide) 18 rfl ?_
    refine g_iadd hX dA_add3_18 19 rfl ?_
    rw [nI_1 n]
    refine g_put0 hX dA_add3_19 fA_48 ((g_set_ne _ _ hqb).trans (g_set_same _ _ _)) hb0 rfl rfl (Nat.le_of_ble_eq_true rfl) 22 rfl ?_
    exact g_vret hX rfl dA_add3_22 ⟨q, hq0, hq1, rfl, by rw [g_set_comm (g_set h q _) _ _ hqb, g_set_set, g_set_set]; rfl⟩ rfl (by rw [hR]; decide) (by rw [hR]; decide)
set_option maxRecDepth 100000 in
set_option maxHeartbeats 4000000 in
theorem c_A_add1_n {l : Launch} (hl : l.stackTraces = false) {E : g_E} {h : g_H} {e ce Nn : Nat} {fe : List Value} {Ce : String} {Te : u_T} {b dd n ci NN : Nat} {f : Nat → Option Nat} {C : String} {T0 : u_T} (ha : l_at E h b dd n f) (hb0 : E.H0.size ≤ b) (hd0 : n ≠ 0 → E.H0.size ≤ dd) (hn : n < 33) (hf : ∀ i, n ≤ i → f i = none) (hel : ∀ i y, f i = some y → ∃ fs, h y = some (.inr (ci, fs))) (hcl : g_cl[ci]? = some (C, T0, NN)) (hcast : Cond.castable C "java/lang/Object" ∈ g_wl) (hne : e ≠ b) (he : h e = some (.inr (ce, fe))) (hce : g_cl[ce]? = some (Ce, Te, Nn)) (hcaste : Cond.castable Ce "java/lang/Object" ∈ g_wl) (h0 : n ≠ 0) (hlt : n < l_cap n) : g_Ct l mA_add1 6 108 1 33 [.ref b, .ref e] E h (false, fun r' h' => ∃ dd', ((n ≠ 0 ∧ dd' = dd) ∨ (h dd' = none ∧ E.H0.size ≤ dd')) ∧ r' = .inr (some (.int 1)) ∧ h' = g_set (g_set h dd' (g_refs E (l_cap (n + 1)) (va_up f n (some e)))) b (.inr (6, [.ref dd', .int (nI (n + 1)), .int (nI (n + 1))]))) := by
  refine g_Ct.of hl (by decide) rfl (Nat.le_of_ble_eq_true rfl) ?_
  intro X hX hXl hR
  have hb : h b = some (.inr (6, [.ref dd, .int (nI n), .int (nI n)])) := by
    have h9 := ha.1
    rw [if_neg h0] at h9
    exact h9
  have had := ha.2.1 h0
  have hbd : dd ≠ b := fun q => by rw [q, hb] at had; cases had
  show g_Go E X _ h true 0 0 0 [some (.ref b), some (.ref e)] []
  refine g_aload_n hX dA_add1_0 rfl rfl (by first | rfl | exact g_rfr _) 1 rfl ?_
  refine g_dup hX dA_add1_1 rfl 2 rfl ?_
  refine g_get hX dA_add1_2 fA_63 hb rfl 5 rfl ?_
  refine g_iconst hX dA_add1_5 (v := 1) (by decide) 6 rfl ?_
  refine g_iadd hX dA_add1_6 7 rfl ?_
  rw [nI_1 n]
  refine g_put0 hX dA_add1_7 fA_63 hb hb0 rfl rfl (Nat.le_of_ble_eq_true rfl) 10 rfl ?_
  refine g_aload_n hX dA_add1_10 rfl rfl (by first | rfl | exact g_rfr _) 11 rfl ?_
  refine g_aload_n hX dA_add1_11 rfl rfl (by first | rfl | exact g_rfr _) 12 rfl ?_
  refine g_aload_n hX dA_add1_12 rfl rfl (by first | rfl | exact g_rfr _) 13 rfl ?_
  refine g_get hX dA_add1_13 fA_9 (g_set_same _ _ _) rfl 16 rfl ?_
  refine g_aload_n hX dA_add1_16 rfl rfl (by first | rfl | exact g_rfr _) 17 rfl ?_
  refine g_get hX dA_add1_17 fA_48 (g_set_same _ _ _) rfl 20 rfl ?_
  refine g_cV3 (wt := 0) hX (c_A_add3_n hX.tr (g_set_same _ _ _) hb0 ((g_set_ne _ _ hbd).trans had) (hd0 h0) hlt ((g_set_ne _ _ hne).trans he) hce hcaste) dA_add1_20 (g_set_same _ _ _) kA_131 (g_rm.of hR (by decide) (by decide)) (by rw [hR]; decide) (by rw [hR]; decide) (by decide) (fun q => by cases q) 23 rfl (fun v h' hP => ?_) (fun k h' hP => by cases hP.1)
  obtain ⟨hv, hh⟩ := hP
  cases hv
  show g_Go E X _ h' false _ _ 23 _ []
  refine g_iconst hX dA_add1_23 (v := 1) (by decide) 24 rfl ?_
  exact g_iret hX rfl rfl dA_add1_24 ⟨dd, Or.inl ⟨h0, rfl⟩, rfl, by rw [hh, l_cap_next h0 hlt]; exact g_norm2 h _ _ _ (Ne.symm hbd)⟩ rfl (by rw [hR]; decide) (by rw [hR]; decide)
set_option maxRecDepth 100000 in
set_option maxHeartbeats 4000000 in
theorem c_A_add1_0 {l : Launch} (hl : l.stackTraces = false) {E : g_E} {h : g_H} {e ce Nn : Nat} {fe : List Value} {Ce : String} {Te : u_T} {b dd n ci NN : Nat} {f : Nat → Option Nat} {C : String} {T0 : u_T} (ha : l_at E h b dd n f) (hb0 : E.H0.size ≤ b) (hd0 : n ≠ 0 → E.H0.size ≤ dd) (hn : n < 33) (hf : ∀ i, n ≤ i → f i = none) (hel : ∀ i y, f i = some y → ∃ fs, h y = some (.inr (ci, fs))) (hcl : g_cl[ci]? = some (C, T0, NN)) (hcast : Cond.castable C "java/lang/Object" ∈ g_wl) (hne : e ≠ b) (he : h e = some (.inr (ce, fe))) (hce : g_cl[ce]? = some (Ce, Te, Nn)) (hcaste : Cond.castable Ce "java/lang/Object" ∈ g_wl) (h0 : n = 0) : g_Ct l mA_add1 6 108 1 33 [.ref b, .ref e] E h (false, fun r' h' => ∃ dd', ((n ≠ 0 ∧ dd' = dd) ∨ (h dd' = none ∧ E.H0.size ≤ dd')) ∧ r' = .inr (some (.int 1)) ∧ h' = g_set (g_set h dd' (g_refs E (l_cap (n + 1)) (va_up f n (some e)))) b (.inr (6, [.ref dd', .int (nI (n + 1)), .int (nI (n + 1))]))) := by
  refine g_Ct.of hl (by decide) rfl (Nat.le_of_ble_eq_true rfl) ?_
  intro X hX hXl hR
  subst h0
  have hb : h b = some (.inr (6, [.ref (E.ad 2), .int (nI 0), .int (nI 0)])) := ha.1
  have hf0 : f = fun _ => none := funext fun i => hf i (Nat.zero_le _)
  subst hf0
  show g_Go E X _ h true 0 0 0 [some (.ref b), some (.ref e)] []
  refine g_aload_n hX dA_add1_0 rfl rfl (by first | rfl | exact g_rfr _) 1 rfl ?_
  refine g_dup hX dA_add1_1 rfl 2 rfl ?_
  refine g_get hX dA_add1_2 fA_63 hb rfl 5 rfl ?_
  refine g_iconst hX dA_add1_5 (v := 1) (by decide) 6 rfl ?_
  refine g_iadd hX dA_add1_6 7 rfl ?_
  rw [nI_1 0]
  refine g_put0 hX dA_add1_7 fA_63 hb hb0 rfl rfl (Nat.le_of_ble_eq_true rfl) 10 rfl ?_
  refine g_aload_n hX dA_add1_10 rfl rfl (by first | rfl | exact g_rfr _) 11 rfl ?_
  refine g_aload_n hX dA_add1_11 rfl rfl (by first | rfl | exact g_rfr _) 12 rfl ?_
  refine g_aload_n hX dA_add1_12 rfl rfl (by first | rfl | exact g_rfr _) 13 rfl ?_
  refine g_get hX dA_add1_13 fA_9 (g_set_same _ _ _) rfl 16 rfl ?_
  refine g_aload_n hX dA_add1_16 rfl rfl (by first | rfl | exact g_rfr _) 17 rfl ?_
  refine g_get hX dA_add1_17 fA_48 (g_set_same _ _ _) rfl 20 rfl ?_
  refine g_cV3 (wt := 0) hX (c_A_add3_0 hX.tr (g_set_same _ _ _) hb0 hne ((g_set_ne _ _ hne).trans he) hce hcaste) dA_add1_20 (g_set_same _ _ _) kA_131 (g_rm.of hR (by decide) (by decide)) (by rw [hR]; decide) (by rw [hR]; decide) (by decide) (fun q => by cases q) 23 rfl (fun v h' hP => ?_) (fun k h' hP => by obtain ⟨q, -, -, hk, -⟩ := hP; cases hk)
  obtain ⟨q, hq0, hq1, hv, hh⟩ := hP
  cases hv
  show g_Go E X _ h' false _ _ 23 _ []
  have hqb : b ≠ q := fun e9 => by rw [← e9, g_set_same] at hq0; cases hq0
  rw [g_set_ne _ _ (Ne.symm hqb)] at hq0
  refine g_iconst hX dA_add1_23 (v := 1) (by decide) 24 rfl ?_
  exact g_iret hX rfl rfl dA_add1_24 ⟨q, Or.inr ⟨hq0, hq1⟩, rfl, by rw [hh]; exact g_norm2 h _ _ _ hqb⟩ rfl (by rw [hR]; decide) (by rw [hR]; decide)
set_option maxRecDepth 100000 in
set_option maxHeartbeats 4000000 in
theorem c_A_add1_c {l : Launch} (hl : l.stackTraces = false) {E : g_E} {h : g_H} {e ce Nn : Nat} {fe : List Value} {Ce : String} {Te : u_T} {b dd n ci NN : Nat} {f : Nat → Option Nat} {C : String} {T0 : u_T} (ha : l_at E h b dd n f) (hb0 : E.H0.size ≤ b) (hd0 : n ≠ 0 → E.H0.size ≤ dd) (hn : n < 33) (hf : ∀ i, n ≤ i → f i = none) (hel : ∀ i y, f i = some y → ∃ fs, h y = some (.inr (ci, fs))) (hcl : g_cl[ci]? = some (C, T0, NN)) (hcast : Cond.castable C "java/lang/Object" ∈ g_wl) (hne : e ≠ b) (he : h e = some (.inr (ce, fe))) (hce : g_cl[ce]? = some (Ce, Te, Nn)) (hcaste : Cond.castable Ce "java/lang/Object" ∈ g_wl) {N : Nat} (h0 : n ≠ 0) (hcap : l_cap n = n) (hNc : l_cap (n + 1) = N) (hN : n < N) (hN1 : N ≤ 33) (hnl : nI n + q_mx (nI (n + 1) - nI n) (nI n >>> (1 &&& 31)) = nI N) (hci : ci ≠ 6) : g_Ct l mA_add1 6 108 1 33 [.ref b, .ref e] E h (false, fun r' h' => ∃ dd', ((n ≠ 0 ∧ dd' = dd) ∨ (h dd' = none ∧ E.H0.size ≤ dd')) ∧ r' = .inr (some (.int 1)) ∧ h' = g_set (g_set h dd' (g_refs E (l_cap (n + 1)) (va_up f n (some e)))) b (.inr (6, [.ref dd', .int (nI (n + 1)), .int (nI (n + 1))]))) := by
  refine g_Ct.of hl (by decide) rfl (Nat.le_of_ble_eq_true rfl) ?_
  intro X hX hXl hR
  have hb : h b = some (.inr (6, [.ref dd, .int (nI n), .int (nI n)])) := by
    have h9 := ha.1
    rw [if_neg h0] at h9
    exact h9
  have had := ha.2.1 h0
  rw [hcap] at had
  rw [hNc]
  have hbd : dd ≠ b := fun q => by rw [q, hb] at had; cases had
  have hel1 : ∀ (e1 : va_E) (i y : Nat), f i = some y → ∃ fs, g_set h b e1 y = some (.inr (ci, fs)) := fun e1 i y hy => by
    obtain ⟨fs, hfs⟩ := hel i y hy
    exact ⟨fs, (g_set_ne _ _ (fun q => by rw [q, hb] at hfs; cases hfs; exact hci rfl)).trans hfs⟩
  show g_Go E X _ h true 0 0 0 [some (.ref b), some (.ref e)] []
  refine g_aload_n hX dA_add1_0 rfl rfl (by first | rfl | exact g_rfr _) 1 rfl ?_
  refine g_dup hX dA_add1_1 rfl 2 rfl ?_
  refine g_get hX dA_add1_2 fA_63 hb rfl 5 rfl ?_
  refine g_iconst hX dA_add1_5 (v := 1) (by decide) 6 rfl ?_
  refine g_iadd hX dA_add1_6 7 rfl ?_
  rw [nI_1 n]
  refine g_put0 hX dA_add1_7 fA_63 hb hb0 rfl rfl (Nat.le_of_ble_eq_true rfl) 10 rfl ?_
  refine g_aload_n hX dA_add1_10 rfl rfl (by first | rfl | exact g_rfr _) 11 rfl ?_
  refine g_aload_n hX dA_add1_11 rfl rfl (by first | rfl | exact g_rfr _) 12 rfl ?_
  refine g_aload_n hX dA_add1_12 rfl rfl (by first | rfl | exact g_rfr _) 13 rfl ?_
  refine g_get hX dA_add1_13 fA_9 (g_set_same _ _ _) rfl 16 rfl ?_
  refine g_aload_n hX dA_add1_16 rfl rfl (by first | rfl | exact g_rfr _) 17 rfl ?_
  refine g_get hX dA_add1_17 fA_48 (g_set_same _ _ _) rfl 20 rfl ?_
  refine g_cV3 (wt := 0) hX (c_A_add3_c hX.tr (g_set_same _ _ _) hb0 ((g_set_ne _ _ hbd).trans had) (Nat.pos_of_ne_zero h0) hN hN1 hf (hel1 _) hcl hcast hnl hne ((g_set_ne _ _ hne).trans he) hce hcaste) dA_add1_20 (g_set_same _ _ _) kA_131 (g_rm.of hR (by decide) (by decide)) (by rw [hR]; decide) (by rw [hR]; decide) (by decide) (fun q => by cases q) 23 rfl (fun v h' hP => ?_) (fun k h' hP => by obtain ⟨q, -, -, hk, -⟩ := hP; cases hk)
  obtain ⟨q, hq0, hq1, hv, hh⟩ := hP
  cases hv
  show g_Go E X _ h' false _ _ 23 _ []
  have hqb : b ≠ q := fun e9 => by rw [← e9, g_set_same] at hq0; cases hq0
  rw [g_set_ne _ _ (Ne.symm hqb)] at hq0
  refine g_iconst hX dA_add1_23 (v := 1) (by decide) 24 rfl ?_
  exact g_iret hX rfl rfl dA_add1_24 ⟨q, Or.inr ⟨hq0, hq1⟩, rfl, by rw [hh]; exact g_norm2 h _ _ _ hqb⟩ rfl (by rw [hR]; decide) (by rw [hR]; decide)
theorem c_A_add1 {l : Launch} (hl : l.stackTraces = false) {E : g_E} {h : g_H} {e ce Nn : Nat} {fe : List Value} {Ce : String} {Te : u_T} {b dd n ci NN : Nat} {f : Nat → Option Nat} {C : String} {T0 : u_T} (ha : l_at E h b dd n f) (hb0 : E.H0.size ≤ b) (hd0 : n ≠ 0 → E.H0.size ≤ dd) (hn : n < 33) (hf : ∀ i, n ≤ i → f i = none) (hel : ∀ i y, f i = some y → ∃ fs, h y = some (.inr (ci, fs))) (hcl : g_cl[ci]? = some (C, T0, NN)) (hcast : Cond.castable C "java/lang/Object" ∈ g_wl) (hne : e ≠ b) (he : h e = some (.inr (ce, fe))) (hce : g_cl[ce]? = some (Ce, Te, Nn)) (hcaste : Cond.castable Ce "java/lang/Object" ∈ g_wl) (hci : ci ≠ 6) : g_Ct l mA_add1 6 108 1 33 [.ref b, .ref e] E h (false, fun r' h' => ∃ dd', ((n ≠ 0 ∧ dd' = dd) ∨ (h dd' = none ∧ E.H0.size ≤ dd')) ∧ r' = .inr (some (.int 1)) ∧ h' = g_set (g_set h dd' (g_refs E (l_cap (n + 1)) (va_up f n (some e)))) b (.inr (6, [.ref dd', .int (nI (n + 1)), .int (nI (n + 1))]))) := by
  by_cases h0 : n = 0
  · exact c_A_add1_0 hl ha hb0 hd0 hn hf hel hcl hcast hne he hce hcaste h0
  · by_cases hlt : n < l_cap n
    · exact c_A_add1_n hl ha hb0 hd0 hn hf hel hcl hcast hne he hce hcaste h0 hlt
    · have h3 := l_cap_full h0 (by omega) hlt
      rcases h3 with rfl | rfl | rfl | rfl
      · exact c_A_add1_c hl ha hb0 hd0 hn hf hel hcl hcast hne he hce hcaste (N := 15) h0 rfl rfl (by decide) (by decide) (by decide) hci
      · exact c_A_add1_c hl ha hb0 hd0 hn hf hel hcl hcast hne he hce hcaste (N := 22) h0 rfl rfl (by decide) (by decide) (by decide) hci
      · exact c_A_add1_c hl ha hb0 hd0 hn hf hel hcl hcast hne he hce hcaste (N := 33) h0 rfl rfl (by decide) (by decide) (by decide) hci
      · omega
