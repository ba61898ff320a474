set_option maxRecDepth 100000 in
set_option maxHeartbeats 4000000 in
theorem c_S_pu_n {l : Launch} (hl : l.stackTraces = false) {E : g_E} {A : w_A} {S Sm : q_S} {h : g_H} (hW : w_W E A S Sm h) (hB : w_B S) (k : Int32)  : g_Rd l mS_pageUnder 0 0 [.null, .int k] E h (some .null) := by
  refine g_Rd.of hl (by decide) (by first | rfl | simp [g_rfc, Value.category]) (Nat.le_of_ble_eq_true rfl) ?_
  intro X hX hXl hR
  obtain ⟨hnp, hns, hne, hpar, hhome, hact⟩ := id hB
  show g_Go E X _ h true 0 0 0 [some (.null), some (.int k), none] []
  refine g_aload_n hX dS_pageUnder_0 rfl rfl (by first | rfl | exact g_rfr _) 1 rfl ?_
  refine g_astore_n hX (L' := [_, _, _]) dS_pageUnder_1 rfl (by decide) (by first | rfl | exact g_rfr _) rfl 2 rfl ?_
  refine g_aload_n hX dS_pageUnder_2 rfl rfl (by first | rfl | exact g_rfr _) 3 rfl ?_
  refine g_ifnull (r := none) hX dS_pageUnder_3 22 6 (by decide) rfl (fun _ => ?_) (fun a q => by cases q)
  refine g_aload_n hX dS_pageUnder_22 rfl rfl (by first | rfl | exact g_rfr _) 23 rfl ?_
  exact g_aret hX rfl (Or.inl ⟨_, rfl⟩) (by first | rfl | exact g_rfr _) dS_pageUnder_23 ⟨rfl, rfl⟩ rfl (Nat.zero_le _) (Nat.zero_le _)
set_option maxRecDepth 100000 in
set_option maxHeartbeats 4000000 in
theorem c_S_pu_0 {l : Launch} (hl : l.stackTraces = false) {E : g_E} {A : w_A} {S Sm : q_S} {h : g_H} (hW : w_W E A S Sm h) (hB : w_B S) {p q m : Nat} (hp : p < q_np S) (hq : q < q_np S) (hm : m < q_np S) (k2 : S.2 0 p = 2) (k1 : S.2 0 q = 1) (k0 : S.2 0 m = 0) (pq : S.1 1 p = q + 1) (qm : S.1 1 q = m + 1) : g_Rd l mS_pageUnder 0 0 [.ref (A 2 p), .int 0] E h (some (.ref (A 2 m))) := by
  refine g_Rd.of hl (by decide) rfl (Nat.le_of_ble_eq_true rfl) ?_
  intro X hX hXl hR
  have hpq : va_rf ((q_par S p).map (A 2)) = .ref (A 2 q) := by unfold q_par; rw [if_neg (by omega), pq]; rfl
  have hqm : va_rf ((q_par S q).map (A 2)) = .ref (A 2 m) := by unfold q_par; rw [if_neg (by omega), qm]; rfl
  show g_Go E X _ h true 0 0 0 [some (.ref (A 2 p)), some (.int 0), none] []
  refine g_aload_n hX dS_pageUnder_0 rfl rfl rfl 1 rfl ?_
  refine g_astore_n hX (L' := [_, _, _]) dS_pageUnder_1 rfl (by decide) rfl rfl 2 rfl ?_
  refine g_aload_n hX dS_pageUnder_2 rfl rfl rfl 3 rfl ?_
  refine g_ifnull (r := some (A 2 p)) hX dS_pageUnder_3 22 6 (by decide) rfl (fun q => by cases q) (fun _ _ => ?_)
  refine g_aload_n hX dS_pageUnder_6 rfl rfl rfl 7 rfl ?_
  refine g_get hX dS_pageUnder_7 fS_206 (w_c hW 2 p (by decide) hp) rfl 10 rfl ?_
  refine g_iload_n hX dS_pageUnder_10 rfl rfl 11 rfl ?_
  refine g_icmp_le hX dS_pageUnder_11 22 14 (by decide) rfl (fun c => absurd (show S.2 0 p ≤ 0 from c) (by rw [k2]; decide)) (fun c => ?_)
  refine g_aload_n hX dS_pageUnder_14 rfl rfl rfl 15 rfl ?_
  refine g_get hX dS_pageUnder_15 fS_154 (w_c hW 2 p (by decide) hp) rfl 18 rfl ?_
  rw [hpq]
  refine g_astore_n hX (L' := [_, _, _]) dS_pageUnder_18 rfl (by decide) rfl rfl 19 rfl ?_
  refine g_goto hX dS_pageUnder_19 2 (by decide) ?_
  refine g_aload_n hX dS_pageUnder_2 rfl rfl rfl 3 rfl ?_
  refine g_ifnull (r := some (A 2 q)) hX dS_pageUnder_3 22 6 (by decide) rfl (fun q => by cases q) (fun _ _ => ?_)
  refine g_aload_n hX dS_pageUnder_6 rfl rfl rfl 7 rfl ?_
  refine g_get hX dS_pageUnder_7 fS_206 (w_c hW 2 q (by decide) hq) rfl 10 rfl ?_
  refine g_iload_n hX dS_pageUnder_10 rfl rfl 11 rfl ?_
  refine g_icmp_le hX dS_pageUnder_11 22 14 (by decide) rfl (fun c => absurd (show S.2 0 q ≤ 0 from c) (by rw [k1]; decide)) (fun c => ?_)
  refine g_aload_n hX dS_pageUnder_14 rfl rfl rfl 15 rfl ?_
  refine g_get hX dS_pageUnder_15 fS_154 (w_c hW 2 q (by decide) hq) rfl 18 rfl ?_
  rw [hqm]
  refine g_astore_n hX (L' := [_, _, _]) dS_pageUnder_18 rfl (by decide) rfl rfl 19 rfl ?_
  refine g_goto hX dS_pageUnder_19 2 (by decide) ?_
  refine g_aload_n hX dS_pageUnder_2 rfl rfl rfl 3 rfl ?_
  refine g_ifnull (r := some (A 2 m)) hX dS_pageUnder_3 22 6 (by decide) rfl (fun q => by cases q) (fun _ _ => ?_)
  refine g_aload_n hX dS_pageUnder_6 rfl rfl rfl 7 rfl ?_
  refine g_get hX dS_pageUnder_7 fS_206 (w_c hW 2 m (by decide) hm) rfl 10 rfl ?_
  refine g_iload_n hX dS_pageUnder_10 rfl rfl 11 rfl ?_
  refine g_icmp_le hX dS_pageUnder_11 22 14 (by decide) rfl (fun c => ?_) (fun c => absurd (show S.2 0 m ≤ 0 by rw [k0]; decide) c)
  refine g_aload_n hX dS_pageUnder_22 rfl rfl rfl 23 rfl ?_
  exact g_aret hX rfl (Or.inl ⟨_, rfl⟩) rfl dS_pageUnder_23 ⟨rfl, rfl⟩ rfl (Nat.zero_le _) (Nat.zero_le _)
set_option maxRecDepth 100000 in
set_option maxHeartbeats 4000000 in
theorem c_S_pu_1 {l : Launch} (hl : l.stackTraces = false) {E : g_E} {A : w_A} {S Sm : q_S} {h : g_H} (hW : w_W E A S Sm h) (hB : w_B S) {p q m : Nat} (hp : p < q_np S) (hq : q < q_np S) (hm : m < q_np S) (k2 : S.2 0 p = 2) (k1 : S.2 0 q = 1) (k0 : S.2 0 m = 0) (pq : S.1 1 p = q + 1) (qm : S.1 1 q = m + 1) : g_Rd l mS_pageUnder 0 0 [.ref (A 2 p), .int 1] E h (some (.ref (A 2 q))) := by
  refine g_Rd.of hl (by decide) rfl (Nat.le_of_ble_eq_true rfl) ?_
  intro X hX hXl hR
  have hpq : va_rf ((q_par S p).map (A 2)) = .ref (A 2 q) := by unfold q_par; rw [if_neg (by omega), pq]; rfl
  have hqm : va_rf ((q_par S q).map (A 2)) = .ref (A 2 m) := by unfold q_par; rw [if_neg (by omega), qm]; rfl
  show g_Go E X _ h true 0 0 0 [some (.ref (A 2 p)), some (.int 1), none] []
  refine g_aload_n hX dS_pageUnder_0 rfl rfl rfl 1 rfl ?_
  refine g_astore_n hX (L' := [_, _, _]) dS_pageUnder_1 rfl (by decide) rfl rfl 2 rfl ?_
  refine g_aload_n hX dS_pageUnder_2 rfl rfl rfl 3 rfl ?_
  refine g_ifnull (r := some (A 2 p)) hX dS_pageUnder_3 22 6 (by decide) rfl (fun q => by cases q) (fun _ _ => ?_)
  refine g_aload_n hX dS_pageUnder_6 rfl rfl rfl 7 rfl ?_
  refine g_get hX dS_pageUnder_7 fS_206 (w_c hW 2 p (by decide) hp) rfl 10 rfl ?_
  refine g_iload_n hX dS_pageUnder_10 rfl rfl 11 rfl ?_
  refine g_icmp_le hX dS_pageUnder_11 22 14 (by decide) rfl (fun c => absurd (show S.2 0 p ≤ 1 from c) (by rw [k2]; decide)) (fun c => ?_)
  refine g_aload_n hX dS_pageUnder_14 rfl rfl rfl 15 rfl ?_
  refine g_get hX dS_pageUnder_15 fS_154 (w_c hW 2 p (by decide) hp) rfl 18 rfl ?_
  rw [hpq]
  refine g_astore_n hX (L' := [_, _, _]) dS_pageUnder_18 rfl (by decide) rfl rfl 19 rfl ?_
  refine g_goto hX dS_pageUnder_19 2 (by decide) ?_
  refine g_aload_n hX dS_pageUnder_2 rfl rfl rfl 3 rfl ?_
  refine g_ifnull (r := some (A 2 q)) hX dS_pageUnder_3 22 6 (by decide) rfl (fun q => by cases q) (fun _ _ => ?_)
  refine g_aload_n hX dS_pageUnder_6 rfl rfl rfl 7 rfl ?_
  refine g_get hX dS_pageUnder_7 fS_206 (w_c hW 2 q (by decide) hq) rfl 10 rfl ?_
  refine g_iload_n hX dS_pageUnder_10 rfl rfl 11 rfl ?_
  refine g_icmp_le hX dS_pageUnder_11 22 14 (by decide) rfl (fun c => ?_) (fun c => absurd (show S.2 0 q ≤ 1 by rw [k1]; decide) c)
  refine g_aload_n hX dS_pageUnder_22 rfl rfl rfl 23 rfl ?_
  exact g_aret hX rfl (Or.inl ⟨_, rfl⟩) rfl dS_pageUnder_23 ⟨rfl, rfl⟩ rfl (Nat.zero_le _) (Nat.zero_le _)
set_option maxRecDepth 100000 in
set_option maxHeartbeats 4000000 in
theorem c_S_pu_2 {l : Launch} (hl : l.stackTraces = false) {E : g_E} {A : w_A} {S Sm : q_S} {h : g_H} (hW : w_W E A S Sm h) (hB : w_B S) {p q m : Nat} (hp : p < q_np S) (hq : q < q_np S) (hm : m < q_np S) (k2 : S.2 0 p = 2) (k1 : S.2 0 q = 1) (k0 : S.2 0 m = 0) (pq : S.1 1 p = q + 1) (qm : S.1 1 q = m + 1) : g_Rd l mS_pageUnder 0 0 [.ref (A 2 p), .int 2] E h (some (.ref (A 2 p))) := by
  refine g_Rd.of hl (by decide) rfl (Nat.le_of_ble_eq_true rfl) ?_
  intro X hX hXl hR
  have hpq : va_rf ((q_par S p).map (A 2)) = .ref (A 2 q) := by unfold q_par; rw [if_neg (by omega), pq]; rfl
  have hqm : va_rf ((q_par S q).map (A 2)) = .ref (A 2 m) := by unfold q_par; rw [if_neg (by omega), qm]; rfl
  show g_Go E X _ h true 0 0 0 [some (.ref (A 2 p)), some (.int 2), none] []
  refine g_aload_n hX dS_pageUnder_0 rfl rfl rfl 1 rfl ?_
  refine g_astore_n hX (L' := [_, _, _]) dS_pageUnder_1 rfl (by decide) rfl rfl 2 rfl ?_
  refine g_aload_n hX dS_pageUnder_2 rfl rfl rfl 3 rfl ?_
  refine g_ifnull (r := some (A 2 p)) hX dS_pageUnder_3 22 6 (by decide) rfl (fun q => by cases q) (fun _ _ => ?_)
  refine g_aload_n hX dS_pageUnder_6 rfl rfl rfl 7 rfl ?_
  refine g_get hX dS_pageUnder_7 fS_206 (w_c hW 2 p (by decide) hp) rfl 10 rfl ?_
  refine g_iload_n hX dS_pageUnder_10 rfl rfl 11 rfl ?_
  refine g_icmp_le hX dS_pageUnder_11 22 14 (by decide) rfl (fun c => ?_) (fun c => absurd (show S.2 0 p ≤ 2 by rw [k2]; decide) c)
  refine g_aload_n hX dS_pageUnder_22 rfl rfl rfl 23 rfl ?_
  exact g_aret hX rfl (Or.inl ⟨_, rfl⟩) rfl dS_pageUnder_23 ⟨rfl, rfl⟩ rfl (Nat.zero_le _) (Nat.zero_le _)
def r_cv (a b x : Int32) : Int32 := if x < a then 0 else if a + b ≤ x then 0 else 1
set_option maxRecDepth 100000 in
set_option maxHeartbeats 4000000 in
theorem c_S_covers {l : Launch} (hl : l.stackTraces = false) (E : g_E) (h : g_H) (a b x : Int32)  : g_Rd l mS_covers 0 0 [.int a, .int b, .int x] E h (some (.int (r_cv a b x))) := by
  refine g_Rd.of hl (by decide) (rfl) (Nat.le_of_ble_eq_true rfl) ?_
  intro X hX hXl hR
  show g_Go E X _ h true 0 0 0 [some (.int a), some (.int b), some (.int x)] []
  refine g_iload_n hX dS_covers_0 rfl rfl 1 rfl ?_
  refine g_iload_n hX dS_covers_1 rfl rfl 2 rfl ?_
  refine g_icmp_lt hX dS_covers_2 16 5 (by decide) rfl (fun c2 => ?_) (fun c2 => ?_)
  · refine g_iconst hX dS_covers_16 (v := 0) (by decide) 17 rfl ?_
    exact g_iret hX rfl rfl dS_covers_17 ⟨by unfold r_cv; rw [if_pos c2], rfl⟩ rfl (Nat.zero_le _) (Nat.zero_le _)
  · refine g_iload_n hX dS_covers_5 rfl rfl 6 rfl ?_
    refine g_iload_n hX dS_covers_6 rfl rfl 7 rfl ?_
    refine g_iload_n hX dS_covers_7 rfl rfl 8 rfl ?_
    refine g_iadd hX dS_covers_8 9 rfl ?_
    refine g_icmp_ge hX dS_covers_9 16 12 (by decide) rfl (fun c9 => ?_) (fun c9 => ?_)
    · refine g_iconst hX dS_covers_16 (v := 0) (by decide) 17 rfl ?_
      exact g_iret hX rfl rfl dS_covers_17 ⟨by unfold r_cv; rw [if_neg c2, if_pos c9], rfl⟩ rfl (Nat.zero_le _) (Nat.zero_le _)
    · refine g_iconst hX dS_covers_12 (v := 1) (by decide) 13 rfl ?_
      refine g_goto hX dS_covers_13 17 (by decide) ?_
      exact g_iret hX rfl rfl dS_covers_17 ⟨by unfold r_cv; rw [if_neg c2, if_neg c9], rfl⟩ rfl (Nat.zero_le _) (Nat.zero_le _)
theorem q_cov_cv (S : q_S) (j : Nat) (x y : Int32) : ¬ q_cov S j x y = 0 ↔ ¬ r_cv (q_now S j 0) (q_value S j 2) x = 0 ∧ ¬ r_cv (q_now S j 1) (q_value S j 3) y = 0 := by
  unfold q_cov r_cv
  by_cases h1 : x < q_now S j 0
  · simp [h1]
  · by_cases h2 : q_now S j 0 + q_value S j 2 ≤ x
    · simp [h1, h2]
    · by_cases h3 : y < q_now S j 1
      · simp [h1, h2, h3]
      · by_cases h4 : q_now S j 1 + q_value S j 3 ≤ y
        · simp [h1, h2, h3, h4]
        · simp [h1, h2, h3, h4]
def r_bl (c d a : Int32) : Int32 := ((0 ||| q_mixk c d a 16) ||| q_mixk c d a 8) ||| q_mixk c d a 0
theorem q_over_bl (S : q_S) (j : Nat) (d : Int32) : q_over S j d = r_bl (q_value S j 4) d (q_now S j 5) := by
  unfold q_over r_bl
  generalize q_mixk (q_value S j 4) d (q_now S j 5) 0 = u
  generalize q_mixk (q_value S j 4) d (q_now S j 5) 8 = v
  generalize q_mixk (q_value S j 4) d (q_now S j 5) 16 = w
  rw [Int32.zero_or, Int32.zero_or, Int32.or_comm u v, Int32.or_comm (v ||| u) w, Int32.or_assoc]
set_option maxRecDepth 100000 in
set_option maxHeartbeats 4000000 in
theorem c_S_blend {l : Launch} (hl : l.stackTraces = false) (E : g_E) (h : g_H) (c d a : Int32) : g_Rd l mS_blend 0 0 [.int c, .int d, .int a] E h (some (.int (r_bl c d a))) := by
  refine g_Rd.of hl (by decide) rfl (Nat.le_of_ble_eq_true rfl) ?_
  intro X hX hXl hR
  show g_Go E X _ h true 0 0 0 [some (.int c), some (.int d), some (.int a), none, none, none, none] []
  refine g_iconst hX dS_blend_0 (v := 0) (by decide) 1 rfl ?_
  refine g_istore_n hX (L' := [_, _, _, _, _, _, _]) dS_blend_1 rfl (by decide) rfl 2 rfl ?_
  refine g_bipush hX dS_blend_2 (v := 16) (by decide) 4 rfl ?_
  refine g_istore hX (L' := [_, _, _, _, _, _, _]) dS_blend_4 (by decide) rfl 6 rfl ?_
  refine g_iload hX dS_blend_6 rfl 8 rfl ?_
  refine g_if_lt hX dS_blend_8 63 11 (by decide) rfl (fun c8 => by exact absurd c8 (show ¬ (16 : Int32) < 0 by decide)) (fun c8 => ?_)
  refine g_iload_n hX dS_blend_11 rfl rfl 12 rfl ?_
  refine g_iload hX dS_blend_12 rfl 14 rfl ?_
  refine g_ishr hX dS_blend_14 15 rfl ?_
  refine g_sipush hX dS_blend_15 (v := 255) (by decide) 18 rfl ?_
  refine g_iand hX dS_blend_18 19 rfl ?_
  refine g_istore hX (L' := [_, _, _, _, _, _, _]) dS_blend_19 (by decide) rfl 21 rfl ?_
  refine g_iload_n hX dS_blend_21 rfl rfl 22 rfl ?_
  refine g_iload hX dS_blend_22 rfl 24 rfl ?_
  refine g_ishr hX dS_blend_24 25 rfl ?_
  refine g_sipush hX dS_blend_25 (v := 255) (by decide) 28 rfl ?_
  refine g_iand hX dS_blend_28 29 rfl ?_
  refine g_istore hX (L' := [_, _, _, _, _, _, _]) dS_blend_29 (by decide) rfl 31 rfl ?_
  refine g_iload_n hX dS_blend_31 rfl rfl 32 rfl ?_
  refine g_iload hX dS_blend_32 rfl 34 rfl ?_
  refine g_iload_n hX dS_blend_34 rfl rfl 35 rfl ?_
  refine g_imul hX dS_blend_35 36 rfl ?_
  refine g_iload hX dS_blend_36 rfl 38 rfl ?_
  refine g_sipush hX dS_blend_38 (v := 255) (by decide) 41 rfl ?_
  refine g_iload_n hX dS_blend_41 rfl rfl 42 rfl ?_
  refine g_isub hX dS_blend_42 43 rfl ?_
  refine g_imul hX dS_blend_43 44 rfl ?_
  refine g_iadd hX dS_blend_44 45 rfl ?_
  refine g_bipush hX dS_blend_45 (v := 127) (by decide) 47 rfl ?_
  refine g_iadd hX dS_blend_47 48 rfl ?_
  refine g_sipush hX dS_blend_48 (v := 255) (by decide) 51 rfl ?_
  refine g_idiv hX dS_blend_51 (y := 255) (by decide) 52 rfl ?_
  refine g_iload hX dS_blend_52 rfl 54 rfl ?_
  refine g_ishl hX dS_blend_54 55 rfl ?_
  refine g_ior hX dS_blend_55 56 rfl ?_
  refine g_istore_n hX (L' := [_, _, _, _, _, _, _]) dS_blend_56 rfl (by decide) rfl 57 rfl ?_
  refine g_iinc hX (L' := [_, _, _, _, _, _, _]) dS_blend_57 rfl (v := 8) (by decide) rfl 60 rfl ?_
  refine g_goto hX dS_blend_60 6 (by decide) ?_
  refine g_iload hX dS_blend_6 rfl 8 rfl ?_
  refine g_if_lt hX dS_blend_8 63 11 (by decide) rfl (fun c8 => by exact absurd c8 (show ¬ (8 : Int32) < 0 by decide)) (fun c8 => ?_)
  refine g_iload_n hX dS_blend_11 rfl rfl 12 rfl ?_
  refine g_iload hX dS_blend_12 rfl 14 rfl ?_
  refine g_ishr hX dS_blend_14 15 rfl ?_
  refine g_sipush hX dS_blend_15 (v := 255) (by decide) 18 rfl ?_
  refine g_iand hX dS_blend_18 19 rfl ?_
  refine g_istore hX (L' := [_, _, _, _, _, _, _]) dS_blend_19 (by decide) rfl 21 rfl ?_
  refine g_iload_n hX dS_blend_21 rfl rfl 22 rfl ?_
  refine g_iload hX dS_blend_22 rfl 24 rfl ?_
  refine g_ishr hX dS_blend_24 25 rfl ?_
  refine g_sipush hX dS_blend_25 (v := 255) (by decide) 28 rfl ?_
  refine g_iand hX dS_blend_28 29 rfl ?_
  refine g_istore hX (L' := [_, _, _, _, _, _, _]) dS_blend_29 (by decide) rfl 31 rfl ?_
  refine g_iload_n hX dS_blend_31 rfl rfl 32 rfl ?_
  refine g_iload hX dS_blend_32 rfl 34 rfl ?_
  refine g_iload_n hX dS_blend_34 rfl rfl 35 rfl ?_
  refine g_imul hX dS_blend_35 36 rfl ?_
  refine g_iload hX dS_blend_36 rfl 38 rfl ?_
  refine g_sipush hX dS_blend_38 (v := 255) (by decide) 41 rfl ?_
  refine g_iload_n hX dS_blend_41 rfl rfl 42 rfl ?_
  refine g_isub hX dS_blend_42 43 rfl ?_
  refine g_imul hX dS_blend_43 44 rfl ?_
  refine g_iadd hX dS_blend_44 45 rfl ?_
  refine g_bipush hX dS_blend_45 (v := 127) (by decide) 47 rfl ?_
  refine g_iadd hX dS_blend_47 48 rfl ?_
  refine g_sipush hX dS_blend_48 (v := 255) (by decide) 51 rfl ?_
  refine g_idiv hX dS_blend_51 (y := 255) (by decide) 52 rfl ?_
  refine g_iload hX dS_blend_52 rfl 54 rfl ?_
  refine g_ishl hX dS_blend_54 55 rfl ?_
  refine g_ior hX dS_blend_55 56 rfl ?_
  refine g_istore_n hX (L' := [_, _, _, _, _, _, _]) dS_blend_56 rfl (by decide) rfl 57 rfl ?_
  refine g_iinc hX (L' := [_, _, _, _, _, _, _]) dS_blend_57 rfl (v := 0) (by decide) rfl 60 rfl ?_
  refine g_goto hX dS_blend_60 6 (by decide) ?_
  refine g_iload hX dS_blend_6 rfl 8 rfl ?_
  refine g_if_lt hX dS_blend_8 63 11 (by decide) rfl (fun c8 => by exact absurd c8 (show ¬ (0 : Int32) < 0 by decide)) (fun c8 => ?_)
  refine g_iload_n hX dS_blend_11 rfl rfl 12 rfl ?_
  refine g_iload hX dS_blend_12 rfl 14 rfl ?_
  refine g_ishr hX dS_blend_14 15 rfl ?_
  refine g_sipush hX dS_blend_15 (v := 255) (by decide) 18 rfl ?_
  refine g_iand hX dS_blend_18 19 rfl ?_
  refine g_istore hX (L' := [_, _, _, _, _, _, _]) dS_blend_19 (by decide) rfl 21 rfl ?_
  refine g_iload_n hX dS_blend_21 rfl rfl 22 rfl ?_
  refine g_iload hX dS_blend_22 rfl 24 rfl ?_
  refine g_ishr hX dS_blend_24 25 rfl ?_
  refine g_sipush hX dS_blend_25 (v := 255) (by decide) 28 rfl ?_
  refine g_iand hX dS_blend_28 29 rfl ?_
  refine g_istore hX (L' := [_, _, _, _, _, _, _]) dS_blend_29 (by decide) rfl 31 rfl ?_
  refine g_iload_n hX dS_blend_31 rfl rfl 32 rfl ?_
  refine g_iload hX dS_blend_32 rfl 34 rfl ?_
  refine g_iload_n hX dS_blend_34 rfl rfl 35 rfl ?_
  refine g_imul hX dS_blend_35 36 rfl ?_
  refine g_iload hX dS_blend_36 rfl 38 rfl ?_
  refine g_sipush hX dS_blend_38 (v := 255) (by decide) 41 rfl ?_
  refine g_iload_n hX dS_blend_41 rfl rfl 42 rfl ?_
  refine g_isub hX dS_blend_42 43 rfl ?_
  refine g_imul hX dS_blend_43 44 rfl ?_
  refine g_iadd hX dS_blend_44 45 rfl ?_
  refine g_bipush hX dS_blend_45 (v := 127) (by decide) 47 rfl ?_
  refine g_iadd hX dS_blend_47 48 rfl ?_
  refine g_sipush hX dS_blend_48 (v := 255) (by decide) 51 rfl ?_
  refine g_idiv hX dS_blend_51 (y := 255) (by decide) 52 rfl ?_
  refine g_iload hX dS_blend_52 rfl 54 rfl ?_
  refine g_ishl hX dS_blend_54 55 rfl ?_
  refine g_ior hX dS_blend_55 56 rfl ?_
  refine g_istore_n hX (L' := [_, _, _, _, _, _, _]) dS_blend_56 rfl (by decide) rfl 57 rfl ?_
  refine g_iinc hX (L' := [_, _, _, _, _, _, _]) dS_blend_57 rfl (v := -8) (by decide) rfl 60 rfl ?_
  refine g_goto hX dS_blend_60 6 (by decide) ?_
  refine g_iload hX dS_blend_6 rfl 8 rfl ?_
  refine g_if_lt hX dS_blend_8 63 11 (by decide) rfl (fun c8 => ?_) (fun c8 => by exact absurd (show (-8 : Int32) < 0 by decide) c8)
  refine g_iload_n hX dS_blend_63 rfl rfl 64 rfl ?_
  exact g_iret hX rfl rfl dS_blend_64 ⟨by unfold r_bl q_mixk q_mix; rfl, rfl⟩ rfl (Nat.zero_le _) (Nat.zero_le _)
set_option maxRecDepth 100000 in
set_option maxHeartbeats 4000000 in
theorem lp_S_paint {E : g_E} {A : w_A} {S Sm : q_S} {h : g_H} (hW : w_W E A S Sm h) (hB : w_B S) {X : g_X} (hX : g_ok E X mS_paintPage) (hR : X.R = { frames := 7, cells := 0, slots := 0, locals := 101 }) {p : Nat} (hp : p < q_np S) (hC : w_C S) {x y c0 : Int32} {all : Int32} (hall : all = if S.2 0 p = 2 then 1 else 0) : ∀ (rest pre : List Nat) (n : Int32), q_on S p = pre ++ rest →
    g_Go E X (true, fun r' h' => r' = .inr (some (.int (rest.foldl (fun a k => if (all = 0 → S.2 1 k < 0) ∧ ¬ q_cov S k x y = 0 then q_over S k a else a) n))) ∧ h' = h) h true 0 0 14 [some (.ref (A 0 0)), some (.ref (A 2 p)), some (.int x), some (.int y), some (.int c0), some (.int n), some (.int (nI pre.length)), none, none] [] := by
  obtain ⟨hnp, hns, hne, hpar, hhome, hact⟩ := id hB
  have hln := q_on_len S p
  intro rest
  induction rest with
  | nil =>
    intro pre n hxs
    have hl1 : (q_on S p).length = pre.length := by rw [hxs, List.append_nil]
    refine g_iload hX dS_paintPage_14 rfl 16 rfl ?_
    refine g_aload_n hX dS_paintPage_16 rfl rfl (by first | rfl | exact g_rfr _) 17 rfl ?_
    refine g_get hX dS_paintPage_17 fS_115 (w_c hW 2 p (by decide) hp) rfl 20 rfl ?_
    refine g_cF0r (wt := 1) hX (c_size hX.tr (w_l3 hW hB hp)) dS_paintPage_20 (w_l3 hW hB hp).1 kS_71 (g_rm.of hR (by decide) (by decide)) (by first | exact Nat.zero_le _ | (rw [hR]; decide)) (by first | exact Nat.zero_le _ | (rw [hR]; decide)) (by first | decide | (simp [Value.category])) 25 rfl ?_
    refine g_icmp_ge hX dS_paintPage_25 142 28 (by decide) rfl (fun c25 => ?_) (fun c25 => ?_)
    · refine g_iload hX dS_paintPage_142 rfl 144 rfl ?_
      exact g_iret hX rfl rfl dS_paintPage_144 ⟨rfl, rfl⟩ rfl (Nat.zero_le _) (Nat.zero_le _)
    · exact absurd (show nI (q_on S p).length ≤ nI pre.length by rw [hl1]; exact nI_le (Nat.le_refl _) (by omega)) c25
  | cons k rest ih =>
    intro pre n hxs
    have hk : k < q_ns S := (q_mem_on (p := p) (by rw [hxs]; simp)).1
    have hl1 : pre.length < (q_on S p).length := by rw [hxs]; simp
    have h5 := fun n => ih (pre ++ [k]) n (by rw [hxs]; simp)
    rw [q_snoc] at h5
    rw [List.foldl_cons]
    have hy1 : S.2 0 p = 2 → (all = 0 → S.2 1 k < 0) := fun q1 q2 => by rw [hall, if_pos q1] at q2; exact absurd q2 (by decide)
    have hy2 : S.2 1 k = -1 → (all = 0 → S.2 1 k < 0) := fun q1 _ => by rw [q1]; decide
    have hn1 : ¬ S.2 0 p = 2 → ¬ S.2 1 k = -1 → ¬ (all = 0 → S.2 1 k < 0) := fun q1 q2 q3 => by
      rcases hC.2.1 k hk with h8 | h8
      · exact q2 h8
      · exact h8 (q3 (by rw [hall, if_neg q1]))
    refine g_iload hX dS_paintPage_14 rfl 16 rfl ?_
    refine g_aload_n hX dS_paintPage_16 rfl rfl (by first | rfl | exact g_rfr _) 17 rfl ?_
    refine g_get hX dS_paintPage_17 fS_115 (w_c hW 2 p (by decide) hp) rfl 20 rfl ?_
    refine g_cF0r (wt := 1) hX (c_size hX.tr (w_l3 hW hB hp)) dS_paintPage_20 (w_l3 hW hB hp).1 kS_71 (g_rm.of hR (by decide) (by decide)) (by first | exact Nat.zero_le _ | (rw [hR]; decide)) (by first | exact Nat.zero_le _ | (rw [hR]; decide)) (by first | decide | (simp [Value.category])) 25 rfl ?_
    refine g_icmp_ge hX dS_paintPage_25 142 28 (by decide) rfl (fun c25 => ?_) (fun c25 => ?_)
    · exact absurd c25 (nI_ge hl1 (by omega))
    · refine g_aload_n hX dS_paintPage_28 rfl rfl (by first | rfl | exact g_rfr _) 29 rfl ?_
      refine g_get hX dS_paintPage_29 fS_115 (w_c hW 2 p (by decide) hp) rfl 32 rfl ?_
      refine g_iload hX dS_paintPage_32 rfl 34 rfl ?_
      refine g_cF1r (wt := 0) hX (c_get hX.tr (w_l3 hW hB hp) hxs) dS_paintPage_34 (w_l3 hW hB hp).1 kS_195 (g_rm.of hR (by decide) (by decide)) (by first | exact Nat.zero_le _ | (rw [hR]; decide)) (by first | exact Nat.zero_le _ | (rw [hR]; decide)) (by first | decide | (simp [Value.category])) 39 rfl ?_
      refine g_cast (ci := 2) hX dS_paintPage_39 rfl cS_110 (w_c hW 7 k (by decide) hk) 42 rfl ?_
      refine g_astore hX (L' := [_, _, _, _, _, _, _, _, _]) dS_paintPage_42 (by decide) (by first | rfl | exact g_rfr _) rfl 44 rfl ?_
      refine g_aload_n hX dS_paintPage_44 rfl rfl (by first | rfl | exact g_rfr _) 45 rfl ?_
      refine g_get hX dS_paintPage_45 fS_206 (w_c hW 2 p (by decide) hp) rfl 48 rfl ?_
      refine g_iconst hX dS_paintPage_48 (v := 2) (by decide) 49 rfl ?_
      refine g_icmp_eq hX dS_paintPage_49 61 52 (by decide) rfl (fun c49 => ?_) (fun c49 => ?_)
      · refine g_iconst hX dS_paintPage_61 (v := 1) (by decide) 62 rfl ?_
        refine g_goto hX dS_paintPage_62 66 (by decide) ?_
        refine g_istore hX (L' := [_, _, _, _, _, _, _, _, _]) dS_paintPage_66 (by decide) rfl 68 rfl ?_
        refine g_iload hX dS_paintPage_68 rfl 70 rfl ?_
        refine g_if_eq hX dS_paintPage_70 136 73 (by decide) rfl (fun c70 => ?_) (fun c70 => ?_)
        · exact absurd c70 (by decide)
        · refine g_aload_n hX dS_paintPage_73 rfl rfl (by first | rfl | exact g_rfr _) 74 rfl ?_
          refine g_aload hX dS_paintPage_74 rfl (by first | rfl | exact g_rfr _) 76 rfl ?_
          refine g_iconst hX dS_paintPage_76 (v := 0) (by decide) 77 rfl ?_
          refine g_cV2r (wt := 0) hX ((c_S_valueNow hX.tr hW hB hC hk (pr := 0) (by decide))) dS_paintPage_77 (w_s hW) kS_289 (g_rm.of hR (by decide) (by decide)) (by first | exact Nat.zero_le _ | (rw [hR]; decide)) (by first | exact Nat.zero_le _ | (rw [hR]; decide)) (by first | decide | (simp [Value.category])) 80 rfl ?_
          refine g_aload_n hX dS_paintPage_80 rfl rfl (by first | rfl | exact g_rfr _) 81 rfl ?_
          refine g_aload hX dS_paintPage_81 rfl (by first | rfl | exact g_rfr _) 83 rfl ?_
          refine g_iconst hX dS_paintPage_83 (v := 2) (by decide) 84 rfl ?_
          refine g_cV2r (wt := 1) hX ((c_S_resolve hX.tr hW hB hC hk (pr := 2) (by decide))) dS_paintPage_84 (w_s hW) kS_138 (g_rm.of hR (by decide) (by decide)) (by first | exact Nat.zero_le _ | (rw [hR]; decide)) (by first | exact Nat.zero_le _ | (rw [hR]; decide)) (by first | decide | (simp [Value.category])) 87 rfl ?_
          refine g_iload_n hX dS_paintPage_87 rfl rfl 88 rfl ?_
          refine g_cS3r (wt := 0) hX (c_S_covers hX.tr E h _ _ _) dS_paintPage_88 kS_349 (g_rm.of hR (by decide) (by decide)) (by first | exact Nat.zero_le _ | (rw [hR]; decide)) (by first | exact Nat.zero_le _ | (rw [hR]; decide)) (by first | decide | (simp [Value.category])) 91 rfl ?_
          refine g_if_eq hX dS_paintPage_91 136 94 (by decide) rfl (fun c91 => ?_) (fun c91 => ?_)
          · refine g_iinc hX (L' := [_, _, _, _, _, _, _, _, _]) dS_paintPage_136 rfl (q_inc _) rfl 139 rfl ?_
            refine g_goto hX dS_paintPage_139 14 (by decide) ?_
            rw [if_neg (fun q => ((q_cov_cv S k x y).mp q.2).1 c91)]
            refine g_drop (L' := [_, _, _, _, _, _, _, none, _]) 7 rfl ?_
            refine g_drop (L' := [_, _, _, _, _, _, _, _, none]) 8 rfl ?_
            exact h5 _
          · refine g_aload_n hX dS_paintPage_94 rfl rfl (by first | rfl | exact g_rfr _) 95 rfl ?_
            refine g_aload hX dS_paintPage_95 rfl (by first | rfl | exact g_rfr _) 97 rfl ?_
            refine g_iconst hX dS_paintPage_97 (v := 1) (by decide) 98 rfl ?_
            refine g_cV2r (wt := 0) hX ((c_S_valueNow hX.tr hW hB hC hk (pr := 1) (by decide))) dS_paintPage_98 (w_s hW) kS_289 (g_rm.of hR (by decide) (by decide)) (by first | exact Nat.zero_le _ | (rw [hR]; decide)) (by first | exact Nat.zero_le _ | (rw [hR]; decide)) (by first | decide | (simp [Value.category])) 101 rfl ?_
            refine g_aload_n hX dS_paintPage_101 rfl rfl (by first | rfl | exact g_rfr _) 102 rfl ?_
            refine g_aload hX dS_paintPage_102 rfl (by first | rfl | exact g_rfr _) 104 rfl ?_
            refine g_iconst hX dS_paintPage_104 (v := 3) (by decide) 105 rfl ?_
            refine g_cV2r (wt := 1) hX ((c_S_resolve hX.tr hW hB hC hk (pr := 3) (by decide))) dS_paintPage_105 (w_s hW) kS_138 (g_rm.of hR (by decide) (by decide)) (by first | exact Nat.zero_le _ | (rw [hR]; decide)) (by first | exact Nat.zero_le _ | (rw [hR]; decide)) (by first | decide | (simp [Value.category])) 108 rfl ?_
            refine g_iload_n hX dS_paintPage_108 rfl rfl 109 rfl ?_
            refine g_cS3r (wt := 0) hX (c_S_covers hX.tr E h _ _ _) dS_paintPage_109 kS_349 (g_rm.of hR (by decide) (by decide)) (by first | exact Nat.zero_le _ | (rw [hR]; decide)) (by first | exact Nat.zero_le _ | (rw [hR]; decide)) (by first | decide | (simp [Value.category])) 112 rfl ?_
            refine g_if_eq hX dS_paintPage_112 136 115 (by decide) rfl (fun c112 => ?_) (fun c112 => ?_)
            · refine g_iinc hX (L' := [_, _, _, _, _, _, _, _, _]) dS_paintPage_136 rfl (q_inc _) rfl 139 rfl ?_
              refine g_goto hX dS_paintPage_139 14 (by decide) ?_
              rw [if_neg (fun q => ((q_cov_cv S k x y).mp q.2).2 c112)]
              refine g_drop (L' := [_, _, _, _, _, _, _, none, _]) 7 rfl ?_
              refine g_drop (L' := [_, _, _, _, _, _, _, _, none]) 8 rfl ?_
              exact h5 _
            · refine g_aload_n hX dS_paintPage_115 rfl rfl (by first | rfl | exact g_rfr _) 116 rfl ?_
              refine g_aload hX dS_paintPage_116 rfl (by first | rfl | exact g_rfr _) 118 rfl ?_
              refine g_iconst hX dS_paintPage_118 (v := 4) (by decide) 119 rfl ?_
              refine g_cV2r (wt := 0) hX ((c_S_resolve hX.tr hW hB hC hk (pr := 4) (by decide))) dS_paintPage_119 (w_s hW) kS_138 (g_rm.of hR (by decide) (by decide)) (by first | exact Nat.zero_le _ | (rw [hR]; decide)) (by first | exact Nat.zero_le _ | (rw [hR]; decide)) (by first | decide | (simp [Value.category])) 122 rfl ?_
              refine g_iload hX dS_paintPage_122 rfl 124 rfl ?_
              refine g_aload_n hX dS_paintPage_124 rfl rfl (by first | rfl | exact g_rfr _) 125 rfl ?_
              refine g_aload hX dS_paintPage_125 rfl (by first | rfl | exact g_rfr _) 127 rfl ?_
              refine g_iconst hX dS_paintPage_127 (v := 5) (by decide) 128 rfl ?_
              refine g_cV2r (wt := 2) hX ((c_S_valueNow hX.tr hW hB hC hk (pr := 5) (by decide))) dS_paintPage_128 (w_s hW) kS_289 (g_rm.of hR (by decide) (by decide)) (by first | exact Nat.zero_le _ | (rw [hR]; decide)) (by first | exact Nat.zero_le _ | (rw [hR]; decide)) (by first | decide | (simp [Value.category])) 131 rfl ?_
              refine g_cS3r (wt := 0) hX (c_S_blend hX.tr E h _ _ _) dS_paintPage_131 kS_352 (g_rm.of hR (by decide) (by decide)) (by first | exact Nat.zero_le _ | (rw [hR]; decide)) (by first | exact Nat.zero_le _ | (rw [hR]; decide)) (by first | decide | (simp [Value.category])) 134 rfl ?_
              refine g_istore hX (L' := [_, _, _, _, _, _, _, _, _]) dS_paintPage_134 (by decide) rfl 136 rfl ?_
              refine g_iinc hX (L' := [_, _, _, _, _, _, _, _, _]) dS_paintPage_136 rfl (q_inc _) rfl 139 rfl ?_
              refine g_goto hX dS_paintPage_139 14 (by decide) ?_
              rw [if_pos ⟨(hy1 c49), (q_cov_cv S k x y).mpr ⟨c91, c112⟩⟩, q_over_bl]
              refine g_drop (L' := [_, _, _, _, _, _, _, none, _]) 7 rfl ?_
              refine g_drop (L' := [_, _, _, _, _, _, _, _, none]) 8 rfl ?_
              exact h5 _
      · refine g_aload hX dS_paintPage_52 rfl (by first | rfl | exact g_rfr _) 54 rfl ?_
        refine g_get hX dS_paintPage_54 fS_157 (w_c hW 7 k (by decide) hk) rfl 57 rfl ?_
        refine g_iconst hX dS_paintPage_57 (v := (-1)) (by decide) 58 rfl ?_
        refine g_icmp_ne hX dS_paintPage_58 65 61 (by decide) rfl (fun c58 => ?_) (fun c58 => ?_)
        · refine g_iconst hX dS_paintPage_65 (v := 0) (by decide) 66 rfl ?_
          refine g_istore hX (L' := [_, _, _, _, _, _, _, _, _]) dS_paintPage_66 (by decide) rfl 68 rfl ?_
          refine g_iload hX dS_paintPage_68 rfl 70 rfl ?_
          refine g_if_eq hX dS_paintPage_70 136 73 (by decide) rfl (fun c70 => ?_) (fun c70 => ?_)
          · refine g_iinc hX (L' := [_, _, _, _, _, _, _, _, _]) dS_paintPage_136 rfl (q_inc _) rfl 139 rfl ?_
            refine g_goto hX dS_paintPage_139 14 (by decide) ?_
            rw [if_neg (fun q => hn1 c49 c58 q.1)]
            refine g_drop (L' := [_, _, _, _, _, _, _, none, _]) 7 rfl ?_
            refine g_drop (L' := [_, _, _, _, _, _, _, _, none]) 8 rfl ?_
            exact h5 _
          · exact absurd rfl c70
        · refine g_iconst hX dS_paintPage_61 (v := 1) (by decide) 62 rfl ?_
          refine g_goto hX dS_paintPage_62 66 (by decide) ?_
          refine g_istore hX (L' := [_, _, _, _, _, _, _, _, _]) dS_paintPage_66 (by decide) rfl 68 rfl ?_
          refine g_iload hX dS_paintPage_68 rfl 70 rfl ?_
          refine g_if_eq hX dS_paintPage_70 136 73 (by decide) rfl (fun c70 => ?_) (fun c70 => ?_)
          · exact absurd c70 (by decide)
          · refine g_aload_n hX dS_paintPage_73 rfl rfl (by first | rfl | exact g_rfr _) 74 rfl ?_
            refine g_aload hX dS_paintPage_74 rfl (by first | rfl | exact g_rfr _) 76 rfl ?_
            refine g_iconst hX dS_paintPage_76 (v := 0) (by decide) 77 rfl ?_
            refine g_cV2r (wt := 0) hX ((c_S_valueNow hX.tr hW hB hC hk (pr := 0) (by decide))) dS_paintPage_77 (w_s hW) kS_289 (g_rm.of hR (by decide) (by decide)) (by first | exact Nat.zero_le _ | (rw [hR]; decide)) (by first | exact Nat.zero_le _ | (rw [hR]; decide)) (by first | decide | (simp [Value.category])) 80 rfl ?_
            refine g_aload_n hX dS_paintPage_80 rfl rfl (by first | rfl | exact g_rfr _) 81 rfl ?_
            refine g_aload hX dS_paintPage_81 rfl (by first | rfl | exact g_rfr _) 83 rfl ?_
            refine g_iconst hX dS_paintPage_83 (v := 2) (by decide) 84 rfl ?_
            refine g_cV2r (wt := 1) hX ((c_S_resolve hX.tr hW hB hC hk (pr := 2) (by decide))) dS_paintPage_84 (w_s hW) kS_138 (g_rm.of hR (by decide) (by decide)) (by first | exact Nat.zero_le _ | (rw [hR]; decide)) (by first | exact Nat.zero_le _ | (rw [hR]; decide)) (by first | decide | (simp [Value.category])) 87 rfl ?_
            refine g_iload_n hX dS_paintPage_87 rfl rfl 88 rfl ?_
            refine g_cS3r (wt := 0) hX (c_S_covers hX.tr E h _ _ _) dS_paintPage_88 kS_349 (g_rm.of hR (by decide) (by decide)) (by first | exact Nat.zero_le _ | (rw [hR]; decide)) (by first | exact Nat.zero_le _ | (rw [hR]; decide)) (by first | decide | (simp [Value.category])) 91 rfl ?_
            refine g_if_eq hX dS_paintPage_91 136 94 (by decide) rfl (fun c91 => ?_) (fun c91 => ?_)
            · refine g_iinc hX (L' := [_, _, _, _, _, _, _, _, _]) dS_paintPage_136 rfl (q_inc _) rfl 139 rfl ?_
              refine g_goto hX dS_paintPage_139 14 (by decide) ?_
              rw [if_neg (fun q => ((q_cov_cv S k x y).mp q.2).1 c91)]
              refine g_drop (L' := [_, _, _, _, _, _, _, none, _]) 7 rfl ?_
              refine g_drop (L' := [_, _, _, _, _, _, _, _, none]) 8 rfl ?_
              exact h5 _
            · refine g_aload_n hX dS_paintPage_94 rfl rfl (by first | rfl | exact g_rfr _) 95 rfl ?_
              refine g_aload hX dS_paintPage_95 rfl (by first | rfl | exact g_rfr _) 97 rfl ?_
              refine g_iconst hX dS_paintPage_97 (v := 1) (by decide) 98 rfl ?_
              refine g_cV2r (wt := 0) hX ((c_S_valueNow hX.tr hW hB hC hk (pr := 1) (by decide))) dS_paintPage_98 (w_s hW) kS_289 (g_rm.of hR (by decide) (by decide)) (by first | exact Nat.zero_le _ | (rw [hR]; decide)) (by first | exact Nat.zero_le _ | (rw [hR]; decide)) (by first | decide | (simp [Value.category])) 101 rfl ?_
              refine g_aload_n hX dS_paintPage_101 rfl rfl (by first | rfl | exact g_rfr _) 102 rfl ?_
              refine g_aload hX dS_paintPage_102 rfl (by first | rfl | exact g_rfr _) 104 rfl ?_
              refine g_iconst hX dS_paintPage_104 (v := 3) (by decide) 105 rfl ?_
              refine g_cV2r (wt := 1) hX ((c_S_resolve hX.tr hW hB hC hk (pr := 3) (by decide))) dS_paintPage_105 (w_s hW) kS_138 (g_rm.of hR (by decide) (by decide)) (by first | exact Nat.zero_le _ | (rw [hR]; decide)) (by first | exact Nat.zero_le _ | (rw [hR]; decide)) (by first | decide | (simp [Value.category])) 108 rfl ?_
              refine g_iload_n hX dS_paintPage_108 rfl rfl 109 rfl ?_
              refine g_cS3r (wt := 0) hX (c_S_covers hX.tr E h _ _ _) dS_paintPage_109 kS_349 (g_rm.of hR (by decide) (by decide)) (by first | exact Nat.zero_le _ | (rw [hR]; decide)) (by first | exact Nat.zero_le _ | (rw [hR]; decide)) (by first | decide | (simp [Value.category])) 112 rfl ?_
              refine g_if_eq hX dS_paintPage_112 136 115 (by decide) rfl (fun c112 => ?_) (fun c112 => ?_)
              · refine g_iinc hX (L' := [_, _, _, _, _, _, _, _, _]) dS_paintPage_136 rfl (q_inc _) rfl 139 rfl ?_
                refine g_goto hX dS_paintPage_139 14 (by decide) ?_
                rw [if_neg (fun q => ((q_cov_cv S k x y).mp q.2).2 c112)]
                refine g_drop (L' := [_, _, _, _, _, _, _, none, _]) 7 rfl ?_
                refine g_drop (L' := [_, _, _, _, _, _, _, _, none]) 8 rfl ?_
                exact h5 _
              · refine g_aload_n hX dS_paintPage_115 rfl rfl (by first | rfl | exact g_rfr _) 116 rfl ?_
                refine g_aload hX dS_paintPage_116 rfl (by first | rfl | exact g_rfr _) 118 rfl ?_
                refine g_iconst hX dS_paintPage_118 (v := 4) (by decide) 119 rfl ?_
                refine g_cV2r (wt := 0) hX ((c_S_resolve hX.tr hW hB hC hk (pr := 4) (by decide))) dS_paintPage_119 (w_s hW) kS_138 (g_rm.of hR (by decide) (by decide)) (by first | exact Nat.zero_le _ | (rw [hR]; decide)) (by first | exact Nat.zero_le _ | (rw [hR]; decide)) (by first | decide | (simp [Value.category])) 122 rfl ?_
                refine g_iload hX dS_paintPage_122 rfl 124 rfl ?_
                refine g_aload_n hX dS_paintPage_124 rfl rfl (by first | rfl | exact g_rfr _) 125 rfl ?_
                refine g_aload hX dS_paintPage_125 rfl (by first | rfl | exact g_rfr _) 127 rfl ?_
                refine g_iconst hX dS_paintPage_127 (v := 5) (by decide) 128 rfl ?_
                refine g_cV2r (wt := 2) hX ((c_S_valueNow hX.tr hW hB hC hk (pr := 5) (by decide))) dS_paintPage_128 (w_s hW) kS_289 (g_rm.of hR (by decide) (by decide)) (by first | exact Nat.zero_le _ | (rw [hR]; decide)) (by first | exact Nat.zero_le _ | (rw [hR]; decide)) (by first | decide | (simp [Value.category])) 131 rfl ?_
                refine g_cS3r (wt := 0) hX (c_S_blend hX.tr E h _ _ _) dS_paintPage_131 kS_352 (g_rm.of hR (by decide) (by decide)) (by first | exact Nat.zero_le _ | (rw [hR]; decide)) (by first | exact Nat.zero_le _ | (rw [hR]; decide)) (by first | decide | (simp [Value.category])) 134 rfl ?_
                refine g_istore hX (L' := [_, _, _, _, _, _, _, _, _]) dS_paintPage_134 (by decide) rfl 136 rfl ?_
                refine g_iinc hX (L' := [_, _, _, _, _, _, _, _, _]) dS_paintPage_136 rfl (q_inc _) rfl 139 rfl ?_
                refine g_goto hX dS_paintPage_139 14 (by decide) ?_
                rw [if_pos ⟨(hy2 c58), (q_cov_cv S k x y).mpr ⟨c91, c112⟩⟩, q_over_bl]
                refine g_drop (L' := [_, _, _, _, _, _, _, none, _]) 7 rfl ?_
                refine g_drop (L' := [_, _, _, _, _, _, _, _, none]) 8 rfl ?_
                exact h5 _
set_option maxRecDepth 100000 in
set_option maxHeartbeats 4000000 in
theorem c_S_paint_n {l : Launch} (hl : l.stackTraces = false) {E : g_E} {A : w_A} {S Sm : q_S} {h : g_H} (hW : w_W E A S Sm h) (hB : w_B S) (x y c : Int32)  : g_Rd l mS_paintPage 7 101 [.ref (A 0 0), .null, .int x, .int y, .int c] E h (some (.int c)) := by
  refine g_Rd.of hl (by decide) (by first | rfl | simp [g_rfc, Value.category]) (Nat.le_of_ble_eq_true rfl) ?_
  intro X hX hXl hR
  obtain ⟨hnp, hns, hne, hpar, hhome, hact⟩ := id hB
  show g_Go E X _ h true 0 0 0 [some (.ref (A 0 0)), some (.null), some (.int x), some (.int y), some (.int c), none, none, none, none] []
  refine g_aload_n hX dS_paintPage_0 rfl rfl (by first | rfl | exact g_rfr _) 1 rfl ?_
  refine g_ifnonnull (r := none) hX dS_paintPage_1 7 4 (by decide) rfl (fun a q => by cases q) (fun _ => ?_)
  refine g_iload hX dS_paintPage_4 rfl 6 rfl ?_
  exact g_iret hX rfl rfl dS_paintPage_6 ⟨rfl, rfl⟩ rfl (Nat.zero_le _) (Nat.zero_le _)
set_option maxRecDepth 100000 in
set_option maxHeartbeats 4000000 in
theorem c_S_paint {l : Launch} (hl : l.stackTraces = false) {E : g_E} {A : w_A} {S Sm : q_S} {h : g_H} (hW : w_W E A S Sm h) (hB : w_B S) {p : Nat} (hp : p < q_np S) (x y c : Int32) {all : Int32} (hall : all = if S.2 0 p = 2 then 1 else 0) (hC : w_C S) : g_Rd l mS_paintPage 7 101 [.ref (A 0 0), .ref (A 2 p), .int x, .int y, .int c] E h (some (.int (q_paint S p all x y c (q_ns S)))) := by
  refine g_Rd.of hl (by decide) (by first | rfl | simp [g_rfc, Value.category]) (Nat.le_of_ble_eq_true rfl) ?_
  intro X hX hXl hR
  obtain ⟨hnp, hns, hne, hpar, hhome, hact⟩ := id hB
  show g_Go E X _ h true 0 0 0 [some (.ref (A 0 0)), some (.ref (A 2 p)), some (.int x), some (.int y), some (.int c), none, none, none, none] []
  refine g_aload_n hX dS_paintPage_0 rfl rfl (by first | rfl | exact g_rfr _) 1 rfl ?_
  refine g_ifnonnull (r := some (A 2 p)) hX dS_paintPage_1 7 4 (by decide) rfl (fun _ _ => ?_) (fun q => by cases q)
  refine g_iload hX dS_paintPage_7 rfl 9 rfl ?_
  refine g_istore hX (L' := [_, _, _, _, _, _, _, _, _]) dS_paintPage_9 (by decide) rfl 11 rfl ?_
  refine g_iconst hX dS_paintPage_11 (v := 0) (by decide) 12 rfl ?_
  refine g_istore hX (L' := [_, _, _, _, _, _, _, _, _]) dS_paintPage_12 (by decide) rfl 14 rfl ?_
  rw [q_paint_fold]
  exact lp_S_paint hW hB hX hR hp hC hall (q_on S p) [] _ rfl
