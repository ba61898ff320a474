/-! the reference: its leaves -/
set_option maxRecDepth 100000 in
set_option maxHeartbeats 4000000 in
theorem c_M_thrown {l : Launch} (hl : l.stackTraces = false) {E : g_E} {A : w_A} {S : q_S} {h : g_H} (hW : r_W E A S h) (hB : w_B S)   : g_Rd l mM_thrown 0 0 [.ref (A 30 0)] E h (some (.int (S.2 13 1))) := by
  refine g_Rd.of hl (by decide) (rfl) (Nat.le_of_ble_eq_true rfl) ?_
  intro X hX hXl hR
  obtain ⟨hnp, hns, hne, hpar, hhome, hact⟩ := hB
  show g_Go E X _ h true 0 0 0 [some (.ref (A 30 0))] []
  refine g_aload_n hX dM_thrown_0 rfl rfl (by first | rfl | exact g_rfr _) 1 rfl ?_
  refine g_get hX dM_thrown_1 fM_75 (w_m hW) rfl 4 rfl ?_
  exact g_iret hX rfl rfl dM_thrown_4 ⟨by rfl, rfl⟩ rfl (Nat.zero_le _) (Nat.zero_le _)
def r_noPage (S : q_S) (p : Int32) : Int32 := if p < 0 then 1 else if p < nI (q_np S) then 0 else 1
set_option maxRecDepth 100000 in
set_option maxHeartbeats 4000000 in
theorem c_M_noPage {l : Launch} (hl : l.stackTraces = false) {E : g_E} {A : w_A} {S : q_S} {h : g_H} (hW : r_W E A S h) (hB : w_B S) (p : Int32)  : g_Rd l mM_noPage 0 0 [.ref (A 30 0), .int p] E h (some (.int (r_noPage S p))) := by
  refine g_Rd.of hl (by decide) (rfl) (Nat.le_of_ble_eq_true rfl) ?_
  intro X hX hXl hR
  obtain ⟨hnp, hns, hne, hpar, hhome, hact⟩ := hB
  show g_Go E X _ h true 0 0 0 [some (.ref (A 30 0)), some (.int p)] []
  refine g_iload_n hX dM_noPage_0 rfl rfl 1 rfl ?_
  refine g_if_lt hX dM_noPage_1 12 4 (by decide) rfl (fun c1 => ?_) (fun c1 => ?_)
  · refine g_iconst hX dM_noPage_12 (v := 1) (by decide) 13 rfl ?_
    refine g_goto hX dM_noPage_13 17 (by decide) ?_
    exact g_iret hX rfl (rfl) dM_noPage_17 ⟨by simp_all [r_noPage], rfl⟩ rfl (Nat.zero_le _) (Nat.zero_le _)
  · refine g_iload_n hX dM_noPage_4 rfl rfl 5 rfl ?_
    refine g_aload_n hX dM_noPage_5 rfl rfl (by first | rfl | exact g_rfr _) 6 rfl ?_
    refine g_get hX dM_noPage_6 fM_79 (w_m hW) rfl 9 rfl ?_
    refine g_icmp_lt hX dM_noPage_9 16 12 (by decide) rfl (fun c9 => ?_) (fun c9 => ?_)
    · refine g_iconst hX dM_noPage_16 (v := 0) (by decide) 17 rfl ?_
      exact g_iret hX rfl (rfl) dM_noPage_17 ⟨by simp_all [r_noPage], rfl⟩ rfl (Nat.zero_le _) (Nat.zero_le _)
    · refine g_iconst hX dM_noPage_12 (v := 1) (by decide) 13 rfl ?_
      refine g_goto hX dM_noPage_13 17 (by decide) ?_
      exact g_iret hX rfl (rfl) dM_noPage_17 ⟨by simp_all [r_noPage], rfl⟩ rfl (Nat.zero_le _) (Nat.zero_le _)
def r_noShape (S : q_S) (p : Int32) : Int32 := if p < 0 then 1 else if p < nI (q_ns S) then 0 else 1
set_option maxRecDepth 100000 in
set_option maxHeartbeats 4000000 in
theorem c_M_noShape {l : Launch} (hl : l.stackTraces = false) {E : g_E} {A : w_A} {S : q_S} {h : g_H} (hW : r_W E A S h) (hB : w_B S) (p : Int32)  : g_Rd l mM_noShape 0 0 [.ref (A 30 0), .int p] E h (some (.int (r_noShape S p))) := by
  refine g_Rd.of hl (by decide) (rfl) (Nat.le_of_ble_eq_true rfl) ?_
  intro X hX hXl hR
  obtain ⟨hnp, hns, hne, hpar, hhome, hact⟩ := hB
  show g_Go E X _ h true 0 0 0 [some (.ref (A 30 0)), some (.int p)] []
  refine g_iload_n hX dM_noShape_0 rfl rfl 1 rfl ?_
  refine g_if_lt hX dM_noShape_1 12 4 (by decide) rfl (fun c1 => ?_) (fun c1 => ?_)
  · refine g_iconst hX dM_noShape_12 (v := 1) (by decide) 13 rfl ?_
    refine g_goto hX dM_noShape_13 17 (by decide) ?_
    exact g_iret hX rfl (rfl) dM_noShape_17 ⟨by simp_all [r_noShape], rfl⟩ rfl (Nat.zero_le _) (Nat.zero_le _)
  · refine g_iload_n hX dM_noShape_4 rfl rfl 5 rfl ?_
    refine g_aload_n hX dM_noShape_5 rfl rfl (by first | rfl | exact g_rfr _) 6 rfl ?_
    refine g_get hX dM_noShape_6 fM_82 (w_m hW) rfl 9 rfl ?_
    refine g_icmp_lt hX dM_noShape_9 16 12 (by decide) rfl (fun c9 => ?_) (fun c9 => ?_)
    · refine g_iconst hX dM_noShape_16 (v := 0) (by decide) 17 rfl ?_
      exact g_iret hX rfl (rfl) dM_noShape_17 ⟨by simp_all [r_noShape], rfl⟩ rfl (Nat.zero_le _) (Nat.zero_le _)
    · refine g_iconst hX dM_noShape_12 (v := 1) (by decide) 13 rfl ?_
      refine g_goto hX dM_noShape_13 17 (by decide) ?_
      exact g_iret hX rfl (rfl) dM_noShape_17 ⟨by simp_all [r_noShape], rfl⟩ rfl (Nat.zero_le _) (Nat.zero_le _)
def r_noEffect (S : q_S) (p : Int32) : Int32 := if p < 0 then 1 else if p < nI (q_ne S) then 0 else 1
set_option maxRecDepth 100000 in
set_option maxHeartbeats 4000000 in
theorem c_M_noEffect {l : Launch} (hl : l.stackTraces = false) {E : g_E} {A : w_A} {S : q_S} {h : g_H} (hW : r_W E A S h) (hB : w_B S) (p : Int32)  : g_Rd l mM_noEffect 0 0 [.ref (A 30 0), .int p] E h (some (.int (r_noEffect S p))) := by
  refine g_Rd.of hl (by decide) (rfl) (Nat.le_of_ble_eq_true rfl) ?_
  intro X hX hXl hR
  obtain ⟨hnp, hns, hne, hpar, hhome, hact⟩ := hB
  show g_Go E X _ h true 0 0 0 [some (.ref (A 30 0)), some (.int p)] []
  refine g_iload_n hX dM_noEffect_0 rfl rfl 1 rfl ?_
  refine g_if_lt hX dM_noEffect_1 12 4 (by decide) rfl (fun c1 => ?_) (fun c1 => ?_)
  · refine g_iconst hX dM_noEffect_12 (v := 1) (by decide) 13 rfl ?_
    refine g_goto hX dM_noEffect_13 17 (by decide) ?_
    exact g_iret hX rfl (rfl) dM_noEffect_17 ⟨by simp_all [r_noEffect], rfl⟩ rfl (Nat.zero_le _) (Nat.zero_le _)
  · refine g_iload_n hX dM_noEffect_4 rfl rfl 5 rfl ?_
    refine g_aload_n hX dM_noEffect_5 rfl rfl (by first | rfl | exact g_rfr _) 6 rfl ?_
    refine g_get hX dM_noEffect_6 fM_121 (w_m hW) rfl 9 rfl ?_
    refine g_icmp_lt hX dM_noEffect_9 16 12 (by decide) rfl (fun c9 => ?_) (fun c9 => ?_)
    · refine g_iconst hX dM_noEffect_16 (v := 0) (by decide) 17 rfl ?_
      exact g_iret hX rfl (rfl) dM_noEffect_17 ⟨by simp_all [r_noEffect], rfl⟩ rfl (Nat.zero_le _) (Nat.zero_le _)
    · refine g_iconst hX dM_noEffect_12 (v := 1) (by decide) 13 rfl ?_
      refine g_goto hX dM_noEffect_13 17 (by decide) ?_
      exact g_iret hX rfl (rfl) dM_noEffect_17 ⟨by simp_all [r_noEffect], rfl⟩ rfl (Nat.zero_le _) (Nat.zero_le _)
def r_noProperty (p : Int32) : Int32 := if p < 0 then 1 else if p ≤ 6 then 0 else 1
set_option maxRecDepth 100000 in
set_option maxHeartbeats 4000000 in
theorem c_M_noProperty {l : Launch} (hl : l.stackTraces = false) (E : g_E) (h : g_H) (p : Int32)  : g_Rd l mM_noProperty 0 0 [.int p] E h (some (.int (r_noProperty p))) := by
  refine g_Rd.of hl (by decide) (rfl) (Nat.le_of_ble_eq_true rfl) ?_
  intro X hX hXl hR
  show g_Go E X _ h true 0 0 0 [some (.int p)] []
  refine g_iload_n hX dM_noProperty_0 rfl rfl 1 rfl ?_
  refine g_if_lt hX dM_noProperty_1 10 4 (by decide) rfl (fun c1 => ?_) (fun c1 => ?_)
  · refine g_iconst hX dM_noProperty_10 (v := 1) (by decide) 11 rfl ?_
    refine g_goto hX dM_noProperty_11 15 (by decide) ?_
    exact g_iret hX rfl (rfl) dM_noProperty_15 ⟨by simp_all [r_noProperty], rfl⟩ rfl (Nat.zero_le _) (Nat.zero_le _)
  · refine g_iload_n hX dM_noProperty_4 rfl rfl 5 rfl ?_
    refine g_bipush hX dM_noProperty_5 (v := 6) (by decide) 7 rfl ?_
    refine g_icmp_le hX dM_noProperty_7 14 10 (by decide) rfl (fun c7 => ?_) (fun c7 => ?_)
    · refine g_iconst hX dM_noProperty_14 (v := 0) (by decide) 15 rfl ?_
      exact g_iret hX rfl (rfl) dM_noProperty_15 ⟨by simp_all [r_noProperty], rfl⟩ rfl (Nat.zero_le _) (Nat.zero_le _)
    · refine g_iconst hX dM_noProperty_10 (v := 1) (by decide) 11 rfl ?_
      refine g_goto hX dM_noProperty_11 15 (by decide) ?_
      exact g_iret hX rfl (rfl) dM_noProperty_15 ⟨by simp_all [r_noProperty], rfl⟩ rfl (Nat.zero_le _) (Nat.zero_le _)
def r_mixed (c d a : Int32) : Int32 := (c * a + d * (255 - a) + 127) / 255
set_option maxRecDepth 100000 in
set_option maxHeartbeats 4000000 in
theorem c_M_mixed {l : Launch} (hl : l.stackTraces = false) (E : g_E) (h : g_H) (c d a : Int32)  : g_Rd l mM_mixed 0 0 [.int c, .int d, .int a] E h (some (.int (r_mixed c d a))) := by
  refine g_Rd.of hl (by decide) (rfl) (Nat.le_of_ble_eq_true rfl) ?_
  intro X hX hXl hR
  show g_Go E X _ h true 0 0 0 [some (.int c), some (.int d), some (.int a)] []
  refine g_iload_n hX dM_mixed_0 rfl rfl 1 rfl ?_
  refine g_iload_n hX dM_mixed_1 rfl rfl 2 rfl ?_
  refine g_imul hX dM_mixed_2 3 rfl ?_
  refine g_iload_n hX dM_mixed_3 rfl rfl 4 rfl ?_
  refine g_sipush hX dM_mixed_4 (v := 255) (by decide) 7 rfl ?_
  refine g_iload_n hX dM_mixed_7 rfl rfl 8 rfl ?_
  refine g_isub hX dM_mixed_8 9 rfl ?_
  refine g_imul hX dM_mixed_9 10 rfl ?_
  refine g_iadd hX dM_mixed_10 11 rfl ?_
  refine g_bipush hX dM_mixed_11 (v := 127) (by decide) 13 rfl ?_
  refine g_iadd hX dM_mixed_13 14 rfl ?_
  refine g_sipush hX dM_mixed_14 (v := 255) (by decide) 17 rfl ?_
  refine g_idiv hX dM_mixed_17 (by decide) 18 rfl ?_
  exact g_iret hX rfl rfl dM_mixed_18 ⟨by rfl, rfl⟩ rfl (Nat.zero_le _) (Nat.zero_le _)
set_option maxRecDepth 100000 in
set_option maxHeartbeats 4000000 in
theorem lp_M_slotted {E : g_E} {A : w_A} {S : q_S} {h : g_H} (hW : r_W E A S h) (hB : w_B S) {X : g_X} (hX : g_ok E X mM_slotted) {p : Nat} (hp : p < 2 ^ 31) {s : Int32} {res : Option Nat} : ∀ (r k : Nat), k + r = q_ns S → q_find (fun k => decide (q_home S k = p ∧ q_slot S k = s)) r k = res →
    g_Go E X (true, fun r' h' => r' = .inr (some (.int (q_oi res))) ∧ h' = h) h true 0 0 2 [some (.ref (A 30 0)), some (.int (nI p)), some (.int s), some (.int (nI k))] [] := by
  obtain ⟨hnp, hns, hne, hpar, hhome, hact⟩ := hB
  intro r
  induction r with
  | zero =>
    intro k hk hres
    have hr : res = none := hres.symm
    subst hr
    refine g_iload_n hX dM_slotted_2 rfl rfl 3 rfl ?_
    refine g_aload_n hX dM_slotted_3 rfl rfl (by first | rfl | exact g_rfr _) 4 rfl ?_
    refine g_get hX dM_slotted_4 fM_82 (w_m hW) rfl 7 rfl ?_
    refine g_icmp_ge hX dM_slotted_7 38 10 (by decide) rfl (fun c7 => ?_) (fun c7 => ?_)
    · refine g_iconst hX dM_slotted_38 (v := (-1)) (by decide) 39 rfl ?_
      exact g_iret hX rfl rfl dM_slotted_39 ⟨by rfl, rfl⟩ rfl (Nat.zero_le _) (Nat.zero_le _)
    · exact absurd (nI_le (by omega) (by omega)) c7
  | succ r ih =>
    intro k hk hres
    have hkh : q_home S k < 2 ^ 31 := by have := (hhome k (by omega)).1; omega
    refine g_iload_n hX dM_slotted_2 rfl rfl 3 rfl ?_
    refine g_aload_n hX dM_slotted_3 rfl rfl (by first | rfl | exact g_rfr _) 4 rfl ?_
    refine g_get hX dM_slotted_4 fM_82 (w_m hW) rfl 7 rfl ?_
    refine g_icmp_ge hX dM_slotted_7 38 10 (by decide) rfl (fun c7 => ?_) (fun c7 => ?_)
    · exact absurd c7 (nI_ge (by omega) (by omega))
    · refine g_aload_n hX dM_slotted_10 rfl rfl (by first | rfl | exact g_rfr _) 11 rfl ?_
      refine g_get hX dM_slotted_11 fM_16 (w_m hW) rfl 14 rfl ?_
      refine g_iload_n hX dM_slotted_14 rfl rfl 15 rfl ?_
      refine g_iald hX dM_slotted_15 (w_ar hW _ (by decide)) (g_ix.nat (by omega) (by decide)) 16 rfl ?_
      refine g_iload_n hX dM_slotted_16 rfl rfl 17 rfl ?_
      refine g_icmp_ne hX dM_slotted_17 32 20 (by decide) rfl (fun c17 => ?_) (fun c17 => ?_)
      · refine g_iinc hX (L' := [_, _, _, _]) dM_slotted_32 rfl (q_inc _) rfl 35 rfl ?_
        refine g_goto hX dM_slotted_35 2 (by decide) ?_
        exact ih (k + 1) (by omega) (q_find_no hres (by simp only [decide_eq_true_eq, not_and]; intro e1; simp_all [nI_eq]))
      · refine g_aload_n hX dM_slotted_20 rfl rfl (by first | rfl | exact g_rfr _) 21 rfl ?_
        refine g_get hX dM_slotted_21 fM_19 (w_m hW) rfl 24 rfl ?_
        refine g_iload_n hX dM_slotted_24 rfl rfl 25 rfl ?_
        refine g_iald hX dM_slotted_25 (w_ar hW _ (by decide)) (g_ix.nat (by omega) (by decide)) 26 rfl ?_
        refine g_iload_n hX dM_slotted_26 rfl rfl 27 rfl ?_
        refine g_icmp_ne hX dM_slotted_27 32 30 (by decide) rfl (fun c27 => ?_) (fun c27 => ?_)
        · refine g_iinc hX (L' := [_, _, _, _]) dM_slotted_32 rfl (q_inc _) rfl 35 rfl ?_
          refine g_goto hX dM_slotted_35 2 (by decide) ?_
          exact ih (k + 1) (by omega) (q_find_no hres (by simp only [decide_eq_true_eq, not_and]; intro e1; simp_all [nI_eq]))
        · refine g_iload_n hX dM_slotted_30 rfl rfl 31 rfl ?_
          exact g_iret hX rfl rfl dM_slotted_31 ⟨by rw [q_find_yes hres (by simp only [decide_eq_true_eq]; exact ⟨(nI_eq hkh hp).mp c17, c27⟩)]; rfl, rfl⟩ rfl (Nat.zero_le _) (Nat.zero_le _)
set_option maxRecDepth 100000 in
set_option maxHeartbeats 4000000 in
theorem c_M_slotted {l : Launch} (hl : l.stackTraces = false) {E : g_E} {A : w_A} {S : q_S} {h : g_H} (hW : r_W E A S h) (hB : w_B S) {p : Nat} (hp : p < 2 ^ 31) (s : Int32)  : g_Rd l mM_slotted 0 0 [.ref (A 30 0), .int (nI p), .int s] E h (some (.int (q_oi (q_slotted S p s)))) := by
  refine g_Rd.of hl (by decide) (rfl) (Nat.le_of_ble_eq_true rfl) ?_
  intro X hX hXl hR
  obtain ⟨hnp, hns, hne, hpar, hhome, hact⟩ := hB
  show g_Go E X _ h true 0 0 0 [some (.ref (A 30 0)), some (.int (nI p)), some (.int s), none] []
  refine g_iconst hX dM_slotted_0 (v := 0) (by decide) 1 rfl ?_
  refine g_istore_n hX (L' := [_, _, _, _]) dM_slotted_1 rfl (by decide) rfl 2 rfl ?_
  have hlp := lp_M_slotted hW ⟨hnp, hns, hne, hpar, hhome, hact⟩ hX hp (s := s) (q_ns S) 0 (by omega) rfl
  rw [nI_0] at hlp
  exact hlp
