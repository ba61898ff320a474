/-! the reference: effects, slides -/
set_option maxRecDepth 100000 in
set_option maxHeartbeats 4000000 in
theorem lp_M_build {E : g_E} {A : w_A} {S : q_S} {h : g_H} (hW : r_W E A S h) (hB : w_B S) {X : g_X} (hX : g_ok E X mM_build) {e : Nat} (he : e < q_ne S) : ∀ (r k : Nat) (n : Int32), k + r = e + 1 → n = nI (q_run S (q_epage S e) k).2.2.2 →
    g_Go E X (true, fun r' h' => r' = .inr (some (.int (nI (q_build S e)))) ∧ h' = h) h true 0 0 4 [some (.ref (A 30 0)), some (.int (nI e)), some (.int n), some (.int (nI k))] [] := by
  obtain ⟨hnp, hns, hne, hpar, hhome, hact⟩ := hB
  have hae : S.1 5 e < q_ns S := hact e he
  have hhe := (hhome _ hae).1
  have hb2 : q_home S (S.1 5 e) < 2 ^ 31 := by omega
  intro r
  induction r with
  | zero =>
    intro k n hk hn
    have hk2 : k = e + 1 := by omega
    subst hk2
    refine g_iload_n hX dM_build_4 rfl rfl 5 rfl ?_
    refine g_iload_n hX dM_build_5 rfl rfl 6 rfl ?_
    refine g_icmp_gt hX dM_build_6 57 9 (by decide) rfl (fun c6 => ?_) (fun c6 => ?_)
    · refine g_iload_n hX dM_build_57 rfl rfl 58 rfl ?_
      exact g_iret hX rfl rfl dM_build_58 ⟨by rw [hn]; rfl, rfl⟩ rfl (Nat.zero_le _) (Nat.zero_le _)
    · exact absurd (nI_lt (by omega) (by omega)) c6
  | succ r ih =>
    intro k n hk hn
    have hak : S.1 5 k < q_ns S := hact k (by omega)
    have hhk := (hhome _ hak).1
    have hb1 : q_home S (S.1 5 k) < 2 ^ 31 := by omega
    refine g_iload_n hX dM_build_4 rfl rfl 5 rfl ?_
    refine g_iload_n hX dM_build_5 rfl rfl 6 rfl ?_
    refine g_icmp_gt hX dM_build_6 57 9 (by decide) rfl (fun c6 => ?_) (fun c6 => ?_)
    · exact absurd c6 (nI_nlt (by omega) (by omega))
    · refine g_aload_n hX dM_build_9 rfl rfl (by first | rfl | exact g_rfr _) 10 rfl ?_
      refine g_get hX dM_build_10 fM_16 (w_m hW) rfl 13 rfl ?_
      refine g_aload_n hX dM_build_13 rfl rfl (by first | rfl | exact g_rfr _) 14 rfl ?_
      refine g_get hX dM_build_14 fM_45 (w_m hW) rfl 17 rfl ?_
      refine g_iload_n hX dM_build_17 rfl rfl 18 rfl ?_
      refine g_iald hX dM_build_18 (w_ar hW _ (by decide)) (g_ix.nat (by omega) (by decide)) 19 rfl ?_
      refine g_iald hX dM_build_19 (w_ar hW _ (by decide)) (g_ix.nat (by omega) (by decide)) 20 rfl ?_
      refine g_aload_n hX dM_build_20 rfl rfl (by first | rfl | exact g_rfr _) 21 rfl ?_
      refine g_get hX dM_build_21 fM_16 (w_m hW) rfl 24 rfl ?_
      refine g_aload_n hX dM_build_24 rfl rfl (by first | rfl | exact g_rfr _) 25 rfl ?_
      refine g_get hX dM_build_25 fM_45 (w_m hW) rfl 28 rfl ?_
      refine g_iload_n hX dM_build_28 rfl rfl 29 rfl ?_
      refine g_iald hX dM_build_29 (w_ar hW _ (by decide)) (g_ix.nat (by omega) (by decide)) 30 rfl ?_
      refine g_iald hX dM_build_30 (w_ar hW _ (by decide)) (g_ix.nat (by omega) (by decide)) 31 rfl ?_
      refine g_icmp_ne hX dM_build_31 49 34 (by decide) rfl (fun c31 => ?_) (fun c31 => ?_)
      · refine g_iload_n hX dM_build_49 rfl rfl 50 rfl ?_
        refine g_istore_n hX (L' := [_, _, _, _]) dM_build_50 rfl (by decide) rfl 51 rfl ?_
        refine g_iinc hX (L' := [_, _, _, _]) dM_build_51 rfl (q_inc _) rfl 54 rfl ?_
        refine g_goto hX dM_build_54 4 (by decide) ?_
        first
          | exact ih (k + 1) _ (by omega) (by rw [q_run_ne (p := q_epage S e) (n := k) (fun q => c31 (congrArg nI q))]; exact hn)
          | exact ih (k + 1) _ (by omega) (by rw [q_run_eq (p := q_epage S e) (n := k) (q_inj c31 hb1 hb2)]; simp only [c40, if_true, if_false]; rw [hn]; try exact nI_1 _)
      · refine g_aload_n hX dM_build_34 rfl rfl (by first | rfl | exact g_rfr _) 35 rfl ?_
        refine g_get hX dM_build_35 fM_51 (w_m hW) rfl 38 rfl ?_
        refine g_iload_n hX dM_build_38 rfl rfl 39 rfl ?_
        refine g_iald hX dM_build_39 (w_ar hW _ (by decide)) (g_ix.nat (by omega) (by decide)) 40 rfl ?_
        refine g_if_ne hX dM_build_40 49 43 (by decide) rfl (fun c40 => ?_) (fun c40 => ?_)
        · refine g_iload_n hX dM_build_49 rfl rfl 50 rfl ?_
          refine g_istore_n hX (L' := [_, _, _, _]) dM_build_50 rfl (by decide) rfl 51 rfl ?_
          refine g_iinc hX (L' := [_, _, _, _]) dM_build_51 rfl (q_inc _) rfl 54 rfl ?_
          refine g_goto hX dM_build_54 4 (by decide) ?_
          first
            | exact ih (k + 1) _ (by omega) (by rw [q_run_ne (p := q_epage S e) (n := k) (fun q => c31 (congrArg nI q))]; exact hn)
            | exact ih (k + 1) _ (by omega) (by rw [q_run_eq (p := q_epage S e) (n := k) (q_inj c31 hb1 hb2)]; simp only [c40, if_true, if_false]; rw [hn]; try exact nI_1 _)
        · refine g_iload_n hX dM_build_43 rfl rfl 44 rfl ?_
          refine g_iconst hX dM_build_44 (v := 1) (by decide) 45 rfl ?_
          refine g_iadd hX dM_build_45 46 rfl ?_
          refine g_goto hX dM_build_46 50 (by decide) ?_
          refine g_istore_n hX (L' := [_, _, _, _]) dM_build_50 rfl (by decide) rfl 51 rfl ?_
          refine g_iinc hX (L' := [_, _, _, _]) dM_build_51 rfl (q_inc _) rfl 54 rfl ?_
          refine g_goto hX dM_build_54 4 (by decide) ?_
          first
            | exact ih (k + 1) _ (by omega) (by rw [q_run_ne (p := q_epage S e) (n := k) (fun q => c31 (congrArg nI q))]; exact hn)
            | exact ih (k + 1) _ (by omega) (by rw [q_run_eq (p := q_epage S e) (n := k) (q_inj c31 hb1 hb2)]; simp only [c40, if_true, if_false]; rw [hn]; try exact nI_1 _)
set_option maxRecDepth 100000 in
set_option maxHeartbeats 4000000 in
theorem c_M_build {l : Launch} (hl : l.stackTraces = false) {E : g_E} {A : w_A} {S : q_S} {h : g_H} (hW : r_W E A S h) (hB : w_B S) {e : Nat} (he : e < q_ne S)  : g_Rd l mM_build 0 0 [.ref (A 30 0), .int (nI e)] E h (some (.int (nI (q_build S e)))) := by
  refine g_Rd.of hl (by decide) (rfl) (Nat.le_of_ble_eq_true rfl) ?_
  intro X hX hXl hR
  obtain ⟨hnp, hns, hne, hpar, hhome, hact⟩ := hB
  show g_Go E X _ h true 0 0 0 [some (.ref (A 30 0)), some (.int (nI e)), none, none] []
  refine g_iconst hX dM_build_0 (v := 0) (by decide) 1 rfl ?_
  refine g_istore_n hX (L' := [_, _, _, _]) dM_build_1 rfl (by decide) rfl 2 rfl ?_
  refine g_iconst hX dM_build_2 (v := 0) (by decide) 3 rfl ?_
  refine g_istore_n hX (L' := [_, _, _, _]) dM_build_3 rfl (by decide) rfl 4 rfl ?_
  have hlp := lp_M_build hW ⟨hnp, hns, hne, hpar, hhome, hact⟩ hX he (e + 1) 0 0 (by omega) rfl
  rw [nI_0] at hlp
  exact hlp
set_option maxRecDepth 100000 in
set_option maxHeartbeats 4000000 in
theorem lp_M_lastBuild {E : g_E} {A : w_A} {S : q_S} {h : g_H} (hW : r_W E A S h) (hB : w_B S) {X : g_X} (hX : g_ok E X mM_lastBuild) {p : Nat} (hp : p < 2 ^ 31) : ∀ (r k : Nat) (n : Int32), k + r = q_ne S → n = nI (q_run S p k).2.2.2 →
    g_Go E X (true, fun r' h' => r' = .inr (some (.int (nI (q_last S p)))) ∧ h' = h) h true 0 0 4 [some (.ref (A 30 0)), some (.int (nI p)), some (.int n), some (.int (nI k))] [] := by
  obtain ⟨hnp, hns, hne, hpar, hhome, hact⟩ := hB
  intro r
  induction r with
  | zero =>
    intro k n hk hn
    have hk2 : k = q_ne S := by omega
    subst hk2
    refine g_iload_n hX dM_lastBuild_4 rfl rfl 5 rfl ?_
    refine g_aload_n hX dM_lastBuild_5 rfl rfl (by first | rfl | exact g_rfr _) 6 rfl ?_
    refine g_get hX dM_lastBuild_6 fM_121 (w_m hW) rfl 9 rfl ?_
    refine g_icmp_ge hX dM_lastBuild_9 50 12 (by decide) rfl (fun c9 => ?_) (fun c9 => ?_)
    · refine g_iload_n hX dM_lastBuild_50 rfl rfl 51 rfl ?_
      exact g_iret hX rfl rfl dM_lastBuild_51 ⟨by rw [hn]; rfl, rfl⟩ rfl (Nat.zero_le _) (Nat.zero_le _)
    · exact absurd (nI_le (Nat.le_refl _) (by omega)) c9
  | succ r ih =>
    intro k n hk hn
    have hak : S.1 5 k < q_ns S := hact k (by omega)
    have hhk := (hhome _ hak).1
    have hb1 : q_home S (S.1 5 k) < 2 ^ 31 := by omega
    refine g_iload_n hX dM_lastBuild_4 rfl rfl 5 rfl ?_
    refine g_aload_n hX dM_lastBuild_5 rfl rfl (by first | rfl | exact g_rfr _) 6 rfl ?_
    refine g_get hX dM_lastBuild_6 fM_121 (w_m hW) rfl 9 rfl ?_
    refine g_icmp_ge hX dM_lastBuild_9 50 12 (by decide) rfl (fun c9 => ?_) (fun c9 => ?_)
    · exact absurd c9 (nI_ge (by omega) (by omega))
    · refine g_aload_n hX dM_lastBuild_12 rfl rfl (by first | rfl | exact g_rfr _) 13 rfl ?_
      refine g_get hX dM_lastBuild_13 fM_16 (w_m hW) rfl 16 rfl ?_
      refine g_aload_n hX dM_lastBuild_16 rfl rfl (by first | rfl | exact g_rfr _) 17 rfl ?_
      refine g_get hX dM_lastBuild_17 fM_45 (w_m hW) rfl 20 rfl ?_
      refine g_iload_n hX dM_lastBuild_20 rfl rfl 21 rfl ?_
      refine g_iald hX dM_lastBuild_21 (w_ar hW _ (by decide)) (g_ix.nat (by omega) (by decide)) 22 rfl ?_
      refine g_iald hX dM_lastBuild_22 (w_ar hW _ (by decide)) (g_ix.nat (by omega) (by decide)) 23 rfl ?_
      refine g_iload_n hX dM_lastBuild_23 rfl rfl 24 rfl ?_
      refine g_icmp_ne hX dM_lastBuild_24 42 27 (by decide) rfl (fun c24 => ?_) (fun c24 => ?_)
      · refine g_iload_n hX dM_lastBuild_42 rfl rfl 43 rfl ?_
        refine g_istore_n hX (L' := [_, _, _, _]) dM_lastBuild_43 rfl (by decide) rfl 44 rfl ?_
        refine g_iinc hX (L' := [_, _, _, _]) dM_lastBuild_44 rfl (q_inc _) rfl 47 rfl ?_
        refine g_goto hX dM_lastBuild_47 4 (by decide) ?_
        first
          | exact ih (k + 1) _ (by omega) (by rw [q_run_ne (p := p) (n := k) (fun q => c24 (congrArg nI q))]; exact hn)
          | exact ih (k + 1) _ (by omega) (by rw [q_run_eq (p := p) (n := k) (q_inj c24 (by omega) hp)]; simp only [c33, if_true, if_false]; rw [hn]; try exact nI_1 _)
      · refine g_aload_n hX dM_lastBuild_27 rfl rfl (by first | rfl | exact g_rfr _) 28 rfl ?_
        refine g_get hX dM_lastBuild_28 fM_51 (w_m hW) rfl 31 rfl ?_
        refine g_iload_n hX dM_lastBuild_31 rfl rfl 32 rfl ?_
        refine g_iald hX dM_lastBuild_32 (w_ar hW _ (by decide)) (g_ix.nat (by omega) (by decide)) 33 rfl ?_
        refine g_if_ne hX dM_lastBuild_33 42 36 (by decide) rfl (fun c33 => ?_) (fun c33 => ?_)
        · refine g_iload_n hX dM_lastBuild_42 rfl rfl 43 rfl ?_
          refine g_istore_n hX (L' := [_, _, _, _]) dM_lastBuild_43 rfl (by decide) rfl 44 rfl ?_
          refine g_iinc hX (L' := [_, _, _, _]) dM_lastBuild_44 rfl (q_inc _) rfl 47 rfl ?_
          refine g_goto hX dM_lastBuild_47 4 (by decide) ?_
          first
            | exact ih (k + 1) _ (by omega) (by rw [q_run_ne (p := p) (n := k) (fun q => c24 (congrArg nI q))]; exact hn)
            | exact ih (k + 1) _ (by omega) (by rw [q_run_eq (p := p) (n := k) (q_inj c24 (by omega) hp)]; simp only [c33, if_true, if_false]; rw [hn]; try exact nI_1 _)
        · refine g_iload_n hX dM_lastBuild_36 rfl rfl 37 rfl ?_
          refine g_iconst hX dM_lastBuild_37 (v := 1) (by decide) 38 rfl ?_
          refine g_iadd hX dM_lastBuild_38 39 rfl ?_
          refine g_goto hX dM_lastBuild_39 43 (by decide) ?_
          refine g_istore_n hX (L' := [_, _, _, _]) dM_lastBuild_43 rfl (by decide) rfl 44 rfl ?_
          refine g_iinc hX (L' := [_, _, _, _]) dM_lastBuild_44 rfl (q_inc _) rfl 47 rfl ?_
          refine g_goto hX dM_lastBuild_47 4 (by decide) ?_
          first
            | exact ih (k + 1) _ (by omega) (by rw [q_run_ne (p := p) (n := k) (fun q => c24 (congrArg nI q))]; exact hn)
            | exact ih (k + 1) _ (by omega) (by rw [q_run_eq (p := p) (n := k) (q_inj c24 (by omega) hp)]; simp only [c33, if_true, if_false]; rw [hn]; try exact nI_1 _)
set_option maxRecDepth 100000 in
set_option maxHeartbeats 4000000 in
theorem c_M_lastBuild {l : Launch} (hl : l.stackTraces = false) {E : g_E} {A : w_A} {S : q_S} {h : g_H} (hW : r_W E A S h) (hB : w_B S) {p : Nat} (hp : p < 2 ^ 31)  : g_Rd l mM_lastBuild 0 0 [.ref (A 30 0), .int (nI p)] E h (some (.int (nI (q_last S p)))) := by
  refine g_Rd.of hl (by decide) (rfl) (Nat.le_of_ble_eq_true rfl) ?_
  intro X hX hXl hR
  obtain ⟨hnp, hns, hne, hpar, hhome, hact⟩ := hB
  show g_Go E X _ h true 0 0 0 [some (.ref (A 30 0)), some (.int (nI p)), none, none] []
  refine g_iconst hX dM_lastBuild_0 (v := 0) (by decide) 1 rfl ?_
  refine g_istore_n hX (L' := [_, _, _, _]) dM_lastBuild_1 rfl (by decide) rfl 2 rfl ?_
  refine g_iconst hX dM_lastBuild_2 (v := 0) (by decide) 3 rfl ?_
  refine g_istore_n hX (L' := [_, _, _, _]) dM_lastBuild_3 rfl (by decide) rfl 4 rfl ?_
  have hlp := lp_M_lastBuild hW ⟨hnp, hns, hne, hpar, hhome, hact⟩ hX hp (q_ne S) 0 0 (by omega) rfl
  rw [nI_0] at hlp
  exact hlp
set_option maxRecDepth 100000 in
set_option maxHeartbeats 4000000 in
theorem lp_M_start {E : g_E} {A : w_A} {S : q_S} {h : g_H} (hW : r_W E A S h) (hB : w_B S) {X : g_X} (hX : g_ok E X mM_start) {e : Nat} (he : e < q_ne S) : ∀ (r k : Nat) (x : Int32), k + r = e + 1 → (r = 0 → x = q_start S e) →
    g_Go E X (true, fun r' h' => r' = .inr (some (.int (q_start S e))) ∧ h' = h) h true 0 0 13 [some (.ref (A 30 0)), some (.int (nI e)), some (.int (q_run S (q_epage S e) k).1), some (.int (q_run S (q_epage S e) k).2.1), some (.int (if (q_run S (q_epage S e) k).2.2.1 = true then 1 else 0)), some (.int x), some (.int (nI k))] [] := by
  obtain ⟨hnp, hns, hne, hpar, hhome, hact⟩ := hB
  have hae : S.1 5 e < q_ns S := hact e he
  have hhe := (hhome _ hae).1
  have hb2 : q_home S (S.1 5 e) < 2 ^ 31 := by omega
  intro r
  induction r with
  | zero =>
    intro k x hk hx
    have hk2 : k = e + 1 := by omega
    subst hk2
    refine g_iload hX dM_start_13 rfl 15 rfl ?_
    refine g_iload_n hX dM_start_15 rfl rfl 16 rfl ?_
    refine g_icmp_gt hX dM_start_16 112 19 (by decide) rfl (fun c16 => ?_) (fun c16 => ?_)
    · refine g_iload hX dM_start_112 rfl 114 rfl ?_
      exact g_iret hX rfl rfl dM_start_114 ⟨by rw [hx rfl], rfl⟩ rfl (Nat.zero_le _) (Nat.zero_le _)
    · exact absurd (nI_lt (by omega) (by omega)) c16
  | succ r ih =>
    intro k x hk hx
    have hak : S.1 5 k < q_ns S := hact k (by omega)
    have hhk := (hhome _ hak).1
    have hb1 : q_home S (S.1 5 k) < 2 ^ 31 := by omega
    refine g_iload hX dM_start_13 rfl 15 rfl ?_
    refine g_iload_n hX dM_start_15 rfl rfl 16 rfl ?_
    refine g_icmp_gt hX dM_start_16 112 19 (by decide) rfl (fun c16 => ?_) (fun c16 => ?_)
    · exact absurd c16 (nI_nlt (by omega) (by omega))
    · refine g_aload_n hX dM_start_19 rfl rfl (by first | rfl | exact g_rfr _) 20 rfl ?_
      refine g_get hX dM_start_20 fM_16 (w_m hW) rfl 23 rfl ?_
      refine g_aload_n hX dM_start_23 rfl rfl (by first | rfl | exact g_rfr _) 24 rfl ?_
      refine g_get hX dM_start_24 fM_45 (w_m hW) rfl 27 rfl ?_
      refine g_iload hX dM_start_27 rfl 29 rfl ?_
      refine g_iald hX dM_start_29 (w_ar hW _ (by decide)) (g_ix.nat (by omega) (by decide)) 30 rfl ?_
      refine g_iald hX dM_start_30 (w_ar hW _ (by decide)) (g_ix.nat (by omega) (by decide)) 31 rfl ?_
      refine g_aload_n hX dM_start_31 rfl rfl (by first | rfl | exact g_rfr _) 32 rfl ?_
      refine g_get hX dM_start_32 fM_16 (w_m hW) rfl 35 rfl ?_
      refine g_aload_n hX dM_start_35 rfl rfl (by first | rfl | exact g_rfr _) 36 rfl ?_
      refine g_get hX dM_start_36 fM_45 (w_m hW) rfl 39 rfl ?_
      refine g_iload_n hX dM_start_39 rfl rfl 40 rfl ?_
      refine g_iald hX dM_start_40 (w_ar hW _ (by decide)) (g_ix.nat (by omega) (by decide)) 41 rfl ?_
      refine g_iald hX dM_start_41 (w_ar hW _ (by decide)) (g_ix.nat (by omega) (by decide)) 42 rfl ?_
      refine g_icmp_ne hX dM_start_42 106 45 (by decide) rfl (fun c42 => ?_) (fun c42 => ?_)
      · refine g_iinc hX (L' := [_, _, _, _, _, _, _]) dM_start_106 rfl (q_inc _) rfl 109 rfl ?_
        refine g_goto hX dM_start_109 13 (by decide) ?_
        first
          | (have hih := ih (k + 1) x (by omega) (fun q => absurd (show k = e by omega) (fun q2 => c42 (by rw [q2])))
             rw [q_run_ne (p := q_epage S e) (n := k) (fun q => c42 (congrArg nI q))] at hih
             exact hih)
          | (have hpe := q_inj c42 hb1 hb2
             have hih := ih (k + 1) ((q_run S (q_epage S e) (k + 1)).1 + S.2 9 k) (by omega) (fun q => by
               have hke : k = e := by omega
               subst hke
               rfl)
             rw [q_run_eq (p := q_epage S e) (n := k) hpe] at hih
             rw [if_pos (Or.inl c52)] at hih
             exact hih)
          | (have hpe := q_inj c42 hb1 hb2
             have hih := ih (k + 1) ((q_run S (q_epage S e) (k + 1)).1 + S.2 9 k) (by omega) (fun q => by
               have hke : k = e := by omega
               subst hke
               rfl)
             rw [q_run_eq (p := q_epage S e) (n := k) hpe] at hih
             cases hsm : (q_run S (q_epage S e) k).2.2.1 with
             | false =>
               rw [if_pos (Or.inr hsm)] at hih
               first
                 | exact hih
                 | (rw [hsm] at c57; exact absurd rfl c57)
             | true =>
               first
                 | (rw [hsm] at c57; exact absurd c57 (by decide))
                 | (rw [if_neg (not_or.mpr ⟨c52, by rw [hsm]; decide⟩)] at hih
                    first
                      | (rw [if_pos c72] at hih; exact hih)
                      | (rw [if_neg c72] at hih; exact hih)))
      · refine g_aload_n hX dM_start_45 rfl rfl (by first | rfl | exact g_rfr _) 46 rfl ?_
        refine g_get hX dM_start_46 fM_51 (w_m hW) rfl 49 rfl ?_
        refine g_iload hX dM_start_49 rfl 51 rfl ?_
        refine g_iald hX dM_start_51 (w_ar hW _ (by decide)) (g_ix.nat (by omega) (by decide)) 52 rfl ?_
        refine g_if_eq hX dM_start_52 60 55 (by decide) rfl (fun c52 => ?_) (fun c52 => ?_)
        · refine g_iconst hX dM_start_60 (v := 0) (by decide) 61 rfl ?_
          refine g_goto hX dM_start_61 80 (by decide) ?_
          refine g_istore_n hX (L' := [_, _, _, _, _, _, _]) dM_start_80 rfl (by decide) rfl 81 rfl ?_
          refine g_iload_n hX dM_start_81 rfl rfl 82 rfl ?_
          refine g_aload_n hX dM_start_82 rfl rfl (by first | rfl | exact g_rfr _) 83 rfl ?_
          refine g_get hX dM_start_83 fM_54 (w_m hW) rfl 86 rfl ?_
          refine g_iload hX dM_start_86 rfl 88 rfl ?_
          refine g_iald hX dM_start_88 (w_ar hW _ (by decide)) (g_ix.nat (by omega) (by decide)) 89 rfl ?_
          refine g_iadd hX dM_start_89 90 rfl ?_
          refine g_istore hX (L' := [_, _, _, _, _, _, _]) dM_start_90 (by decide) rfl 92 rfl ?_
          refine g_iload hX dM_start_92 rfl 94 rfl ?_
          refine g_aload_n hX dM_start_94 rfl rfl (by first | rfl | exact g_rfr _) 95 rfl ?_
          refine g_get hX dM_start_95 fM_57 (w_m hW) rfl 98 rfl ?_
          refine g_iload hX dM_start_98 rfl 100 rfl ?_
          refine g_iald hX dM_start_100 (w_ar hW _ (by decide)) (g_ix.nat (by omega) (by decide)) 101 rfl ?_
          refine g_iadd hX dM_start_101 102 rfl ?_
          refine g_istore_n hX (L' := [_, _, _, _, _, _, _]) dM_start_102 rfl (by decide) rfl 103 rfl ?_
          refine g_iconst hX dM_start_103 (v := 1) (by decide) 104 rfl ?_
          refine g_istore hX (L' := [_, _, _, _, _, _, _]) dM_start_104 (by decide) rfl 106 rfl ?_
          refine g_iinc hX (L' := [_, _, _, _, _, _, _]) dM_start_106 rfl (q_inc _) rfl 109 rfl ?_
          refine g_goto hX dM_start_109 13 (by decide) ?_
          first
            | (have hih := ih (k + 1) x (by omega) (fun q => absurd (show k = e by omega) (fun q2 => c42 (by rw [q2])))
               rw [q_run_ne (p := q_epage S e) (n := k) (fun q => c42 (congrArg nI q))] at hih
               exact hih)
            | (have hpe := q_inj c42 hb1 hb2
               have hih := ih (k + 1) ((q_run S (q_epage S e) (k + 1)).1 + S.2 9 k) (by omega) (fun q => by
                 have hke : k = e := by omega
                 subst hke
                 rfl)
               rw [q_run_eq (p := q_epage S e) (n := k) hpe] at hih
               rw [if_pos (Or.inl c52)] at hih
               exact hih)
            | (have hpe := q_inj c42 hb1 hb2
               have hih := ih (k + 1) ((q_run S (q_epage S e) (k + 1)).1 + S.2 9 k) (by omega) (fun q => by
                 have hke : k = e := by omega
                 subst hke
                 rfl)
               rw [q_run_eq (p := q_epage S e) (n := k) hpe] at hih
               cases hsm : (q_run S (q_epage S e) k).2.2.1 with
               | false =>
                 rw [if_pos (Or.inr hsm)] at hih
                 first
                   | exact hih
                   | (rw [hsm] at c57; exact absurd rfl c57)
               | true =>
                 first
                   | (rw [hsm] at c57; exact absurd c57 (by decide))
                   | (rw [if_neg (not_or.mpr ⟨c52, by rw [hsm]; decide⟩)] at hih
                      first
                        | (rw [if_pos c72] at hih; exact hih)
                        | (rw [if_neg c72] at hih; exact hih)))
        · refine g_iload hX dM_start_55 rfl 57 rfl ?_
          refine g_if_ne hX dM_start_57 64 60 (by decide) rfl (fun c57 => ?_) (fun c57 => ?_)
          · refine g_aload_n hX dM_start_64 rfl rfl (by first | rfl | exact g_rfr _) 65 rfl ?_
            refine g_get hX dM_start_65 fM_51 (w_m hW) rfl 68 rfl ?_
            refine g_iload hX dM_start_68 rfl 70 rfl ?_
            refine g_iald hX dM_start_70 (w_ar hW _ (by decide)) (g_ix.nat (by omega) (by decide)) 71 rfl ?_
            refine g_iconst hX dM_start_71 (v := 1) (by decide) 72 rfl ?_
            refine g_icmp_ne hX dM_start_72 79 75 (by decide) rfl (fun c72 => ?_) (fun c72 => ?_)
            · refine g_iload_n hX dM_start_79 rfl rfl 80 rfl ?_
              refine g_istore_n hX (L' := [_, _, _, _, _, _, _]) dM_start_80 rfl (by decide) rfl 81 rfl ?_
              refine g_iload_n hX dM_start_81 rfl rfl 82 rfl ?_
              refine g_aload_n hX dM_start_82 rfl rfl (by first | rfl | exact g_rfr _) 83 rfl ?_
              refine g_get hX dM_start_83 fM_54 (w_m hW) rfl 86 rfl ?_
              refine g_iload hX dM_start_86 rfl 88 rfl ?_
              refine g_iald hX dM_start_88 (w_ar hW _ (by decide)) (g_ix.nat (by omega) (by decide)) 89 rfl ?_
              refine g_iadd hX dM_start_89 90 rfl ?_
              refine g_istore hX (L' := [_, _, _, _, _, _, _]) dM_start_90 (by decide) rfl 92 rfl ?_
              refine g_iload hX dM_start_92 rfl 94 rfl ?_
              refine g_aload_n hX dM_start_94 rfl rfl (by first | rfl | exact g_rfr _) 95 rfl ?_
              refine g_get hX dM_start_95 fM_57 (w_m hW) rfl 98 rfl ?_
              refine g_iload hX dM_start_98 rfl 100 rfl ?_
              refine g_iald hX dM_start_100 (w_ar hW _ (by decide)) (g_ix.nat (by omega) (by decide)) 101 rfl ?_
              refine g_iadd hX dM_start_101 102 rfl ?_
              refine g_istore_n hX (L' := [_, _, _, _, _, _, _]) dM_start_102 rfl (by decide) rfl 103 rfl ?_
              refine g_iconst hX dM_start_103 (v := 1) (by decide) 104 rfl ?_
              refine g_istore hX (L' := [_, _, _, _, _, _, _]) dM_start_104 (by decide) rfl 106 rfl ?_
              refine g_iinc hX (L' := [_, _, _, _, _, _, _]) dM_start_106 rfl (q_inc _) rfl 109 rfl ?_
              refine g_goto hX dM_start_109 13 (by decide) ?_
              first
                | (have hih := ih (k + 1) x (by omega) (fun q => absurd (show k = e by omega) (fun q2 => c42 (by rw [q2])))
                   rw [q_run_ne (p := q_epage S e) (n := k) (fun q => c42 (congrArg nI q))] at hih
                   exact hih)
                | (have hpe := q_inj c42 hb1 hb2
                   have hih := ih (k + 1) ((q_run S (q_epage S e) (k + 1)).1 + S.2 9 k) (by omega) (fun q => by
                     have hke : k = e := by omega
                     subst hke
                     rfl)
                   rw [q_run_eq (p := q_epage S e) (n := k) hpe] at hih
                   rw [if_pos (Or.inl c52)] at hih
                   exact hih)
                | (have hpe := q_inj c42 hb1 hb2
                   have hih := ih (k + 1) ((q_run S (q_epage S e) (k + 1)).1 + S.2 9 k) (by omega) (fun q => by
                     have hke : k = e := by omega
                     subst hke
                     rfl)
                   rw [q_run_eq (p := q_epage S e) (n := k) hpe] at hih
                   cases hsm : (q_run S (q_epage S e) k).2.2.1 with
                   | false =>
                     rw [if_pos (Or.inr hsm)] at hih
                     first
                       | exact hih
                       | (rw [hsm] at c57; exact absurd rfl c57)
                   | true =>
                     first
                       | (rw [hsm] at c57; exact absurd c57 (by decide))
                       | (rw [if_neg (not_or.mpr ⟨c52, by rw [hsm]; decide⟩)] at hih
                          first
                            | (rw [if_pos c72] at hih; exact hih)
                            | (rw [if_neg c72] at hih; exact hih)))
            · refine g_iload_n hX dM_start_75 rfl rfl 76 rfl ?_
              refine g_goto hX dM_start_76 80 (by decide) ?_
              refine g_istore_n hX (L' := [_, _, _, _, _, _, _]) dM_start_80 rfl (by decide) rfl 81 rfl ?_
              refine g_iload_n hX dM_start_81 rfl rfl 82 rfl ?_
              refine g_aload_n hX dM_start_82 rfl rfl (by first | rfl | exact g_rfr _) 83 rfl ?_
              refine g_get hX dM_start_83 fM_54 (w_m hW) rfl 86 rfl ?_
              refine g_iload hX dM_start_86 rfl 88 rfl ?_
              refine g_iald hX dM_start_88 (w_ar hW _ (by decide)) (g_ix.nat (by omega) (by decide)) 89 rfl ?_
              refine g_iadd hX dM_start_89 90 rfl ?_
              refine g_istore hX (L' := [_, _, _, _, _, _, _]) dM_start_90 (by decide) rfl 92 rfl ?_
              refine g_iload hX dM_start_92 rfl 94 rfl ?_
              refine g_aload_n hX dM_start_94 rfl rfl (by first | rfl | exact g_rfr _) 95 rfl ?_
              refine g_get hX dM_start_95 fM_57 (w_m hW) rfl 98 rfl ?_
              refine g_iload hX dM_start_98 rfl 100 rfl ?_
              refine g_iald hX dM_start_100 (w_ar hW _ (by decide)) (g_ix.nat (by omega) (by decide)) 101 rfl ?_
              refine g_iadd hX dM_start_101 102 rfl ?_
              refine g_istore_n hX (L' := [_, _, _, _, _, _, _]) dM_start_102 rfl (by decide) rfl 103 rfl ?_
              refine g_iconst hX dM_start_103 (v := 1) (by decide) 104 rfl ?_
              refine g_istore hX (L' := [_, _, _, _, _, _, _]) dM_start_104 (by decide) rfl 106 rfl ?_
              refine g_iinc hX (L' := [_, _, _, _, _, _, _]) dM_start_106 rfl (q_inc _) rfl 109 rfl ?_
              refine g_goto hX dM_start_109 13 (by decide) ?_
              first
                | (have hih := ih (k + 1) x (by omega) (fun q => absurd (show k = e by omega) (fun q2 => c42 (by rw [q2])))
                   rw [q_run_ne (p := q_epage S e) (n := k) (fun q => c42 (congrArg nI q))] at hih
                   exact hih)
                | (have hpe := q_inj c42 hb1 hb2
                   have hih := ih (k + 1) ((q_run S (q_epage S e) (k + 1)).1 + S.2 9 k) (by omega) (fun q => by
                     have hke : k = e := by omega
                     subst hke
                     rfl)
                   rw [q_run_eq (p := q_epage S e) (n := k) hpe] at hih
                   rw [if_pos (Or.inl c52)] at hih
                   exact hih)
                | (have hpe := q_inj c42 hb1 hb2
                   have hih := ih (k + 1) ((q_run S (q_epage S e) (k + 1)).1 + S.2 9 k) (by omega) (fun q => by
                     have hke : k = e := by omega
                     subst hke
                     rfl)
                   rw [q_run_eq (p := q_epage S e) (n := k) hpe] at hih
                   cases hsm : (q_run S (q_epage S e) k).2.2.1 with
                   | false =>
                     rw [if_pos (Or.inr hsm)] at hih
                     first
                       | exact hih
                       | (rw [hsm] at c57; exact absurd rfl c57)
                   | true =>
                     first
                       | (rw [hsm] at c57; exact absurd c57 (by decide))
                       | (rw [if_neg (not_or.mpr ⟨c52, by rw [hsm]; decide⟩)] at hih
                          first
                            | (rw [if_pos c72] at hih; exact hih)
                            | (rw [if_neg c72] at hih; exact hih)))
          · refine g_iconst hX dM_start_60 (v := 0) (by decide) 61 rfl ?_
            refine g_goto hX dM_start_61 80 (by decide) ?_
            refine g_istore_n hX (L' := [_, _, _, _, _, _, _]) dM_start_80 rfl (by decide) rfl 81 rfl ?_
            refine g_iload_n hX dM_start_81 rfl rfl 82 rfl ?_
            refine g_aload_n hX dM_start_82 rfl rfl (by first | rfl | exact g_rfr _) 83 rfl ?_
            refine g_get hX dM_start_83 fM_54 (w_m hW) rfl 86 rfl ?_
            refine g_iload hX dM_start_86 rfl 88 rfl ?_
            refine g_iald hX dM_start_88 (w_ar hW _ (by decide)) (g_ix.nat (by omega) (by decide)) 89 rfl ?_
            refine g_iadd hX dM_start_89 90 rfl ?_
            refine g_istore hX (L' := [_, _, _, _, _, _, _]) dM_start_90 (by decide) rfl 92 rfl ?_
            refine g_iload hX dM_start_92 rfl 94 rfl ?_
            refine g_aload_n hX dM_start_94 rfl rfl (by first | rfl | exact g_rfr _) 95 rfl ?_
            refine g_get hX dM_start_95 fM_57 (w_m hW) rfl 98 rfl ?_
            refine g_iload hX dM_start_98 rfl 100 rfl ?_
            refine g_iald hX dM_start_100 (w_ar hW _ (by decide)) (g_ix.nat (by omega) (by decide)) 101 rfl ?_
            refine g_iadd hX dM_start_101 102 rfl ?_
            refine g_istore_n hX (L' := [_, _, _, _, _, _, _]) dM_start_102 rfl (by decide) rfl 103 rfl ?_
            refine g_iconst hX dM_start_103 (v := 1) (by decide) 104 rfl ?_
            refine g_istore hX (L' := [_, _, _, _, _, _, _]) dM_start_104 (by decide) rfl 106 rfl ?_
            refine g_iinc hX (L' := [_, _, _, _, _, _, _]) dM_start_106 rfl (q_inc _) rfl 109 rfl ?_
            refine g_goto hX dM_start_109 13 (by decide) ?_
            first
              | (have hih := ih (k + 1) x (by omega) (fun q => absurd (show k = e by omega) (fun q2 => c42 (by rw [q2])))
                 rw [q_run_ne (p := q_epage S e) (n := k) (fun q => c42 (congrArg nI q))] at hih
                 exact hih)
              | (have hpe := q_inj c42 hb1 hb2
                 have hih := ih (k + 1) ((q_run S (q_epage S e) (k + 1)).1 + S.2 9 k) (by omega) (fun q => by
                   have hke : k = e := by omega
                   subst hke
                   rfl)
                 rw [q_run_eq (p := q_epage S e) (n := k) hpe] at hih
                 rw [if_pos (Or.inl c52)] at hih
                 exact hih)
              | (have hpe := q_inj c42 hb1 hb2
                 have hih := ih (k + 1) ((q_run S (q_epage S e) (k + 1)).1 + S.2 9 k) (by omega) (fun q => by
                   have hke : k = e := by omega
                   subst hke
                   rfl)
                 rw [q_run_eq (p := q_epage S e) (n := k) hpe] at hih
                 cases hsm : (q_run S (q_epage S e) k).2.2.1 with
                 | false =>
                   rw [if_pos (Or.inr hsm)] at hih
                   first
                     | exact hih
                     | (rw [hsm] at c57; exact absurd rfl c57)
                 | true =>
                   first
                     | (rw [hsm] at c57; exact absurd c57 (by decide))
                     | (rw [if_neg (not_or.mpr ⟨c52, by rw [hsm]; decide⟩)] at hih
                        first
                          | (rw [if_pos c72] at hih; exact hih)
                          | (rw [if_neg c72] at hih; exact hih)))
set_option maxRecDepth 100000 in
set_option maxHeartbeats 4000000 in
theorem c_M_start {l : Launch} (hl : l.stackTraces = false) {E : g_E} {A : w_A} {S : q_S} {h : g_H} (hW : r_W E A S h) (hB : w_B S) {e : Nat} (he : e < q_ne S)  : g_Rd l mM_start 0 0 [.ref (A 30 0), .int (nI e)] E h (some (.int (q_start S e))) := by
  refine g_Rd.of hl (by decide) (rfl) (Nat.le_of_ble_eq_true rfl) ?_
  intro X hX hXl hR
  obtain ⟨hnp, hns, hne, hpar, hhome, hact⟩ := hB
  show g_Go E X _ h true 0 0 0 [some (.ref (A 30 0)), some (.int (nI e)), none, none, none, none, none] []
  refine g_iconst hX dM_start_0 (v := 0) (by decide) 1 rfl ?_
  refine g_istore_n hX (L' := [_, _, _, _, _, _, _]) dM_start_1 rfl (by decide) rfl 2 rfl ?_
  refine g_iconst hX dM_start_2 (v := 0) (by decide) 3 rfl ?_
  refine g_istore_n hX (L' := [_, _, _, _, _, _, _]) dM_start_3 rfl (by decide) rfl 4 rfl ?_
  refine g_iconst hX dM_start_4 (v := 0) (by decide) 5 rfl ?_
  refine g_istore hX (L' := [_, _, _, _, _, _, _]) dM_start_5 (by decide) rfl 7 rfl ?_
  refine g_iconst hX dM_start_7 (v := 0) (by decide) 8 rfl ?_
  refine g_istore hX (L' := [_, _, _, _, _, _, _]) dM_start_8 (by decide) rfl 10 rfl ?_
  refine g_iconst hX dM_start_10 (v := 0) (by decide) 11 rfl ?_
  refine g_istore hX (L' := [_, _, _, _, _, _, _]) dM_start_11 (by decide) rfl 13 rfl ?_
  have hlp := lp_M_start hW ⟨hnp, hns, hne, hpar, hhome, hact⟩ hX he (e + 1) 0 0 (by omega) (fun q => by omega)
  rw [nI_0] at hlp
  exact hlp
set_option maxRecDepth 100000 in
set_option maxHeartbeats 4000000 in
theorem c_M_end {l : Launch} (hl : l.stackTraces = false) {E : g_E} {A : w_A} {S : q_S} {h : g_H} (hW : r_W E A S h) (hB : w_B S) {e : Nat} (he : e < q_ne S)  : g_Rd l mM_end 1 18 [.ref (A 30 0), .int (nI e)] E h (some (.int (q_end S e))) := by
  refine g_Rd.of hl (by decide) (rfl) (Nat.le_of_ble_eq_true rfl) ?_
  intro X hX hXl hR
  obtain ⟨hnp, hns, hne, hpar, hhome, hact⟩ := hB
  show g_Go E X _ h true 0 0 0 [some (.ref (A 30 0)), some (.int (nI e))] []
  refine g_aload_n hX dM_end_0 rfl rfl (by first | rfl | exact g_rfr _) 1 rfl ?_
  refine g_iload_n hX dM_end_1 rfl rfl 2 rfl ?_
  refine g_cV1r (wt := 0) hX (c_M_start hX.tr hW ⟨hnp, hns, hne, hpar, hhome, hact⟩ he) dM_end_2 (w_m hW) kM_127 (g_rm.of hR (by decide) (by decide)) (by first | exact Nat.zero_le _ | (rw [hR]; decide)) (by first | exact Nat.zero_le _ | (rw [hR]; decide)) (by first | decide | (simp [Value.category])) 5 rfl ?_
  refine g_aload_n hX dM_end_5 rfl rfl (by first | rfl | exact g_rfr _) 6 rfl ?_
  refine g_get hX dM_end_6 fM_57 (w_m hW) rfl 9 rfl ?_
  refine g_iload_n hX dM_end_9 rfl rfl 10 rfl ?_
  refine g_iald hX dM_end_10 (w_ar hW _ (by decide)) (g_ix.nat (by omega) (by decide)) 11 rfl ?_
  refine g_iadd hX dM_end_11 12 rfl ?_
  exact g_iret hX rfl rfl dM_end_12 ⟨by rfl, rfl⟩ rfl (Nat.zero_le _) (Nat.zero_le _)
