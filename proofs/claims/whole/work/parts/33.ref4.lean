set_option maxRecDepth 100000 in
set_option maxHeartbeats 4000000 in
theorem lp_M_moved {E : g_E} {A : w_A} {S : q_S} {h : g_H} (hW : r_W E A S h) (hB : w_B S) {X : g_X} (hX : g_ok E X mM_moved) (hR : X.R = { frames := 3, cells := 0, slots := 0, locals := 45 }) {j : Nat} (hj : j < 2 ^ 31) {w : Int32} : ∀ (r e : Nat) (n : Int32), e + r = q_ne S → n = q_moved S j w e →
    g_Go E X (true, fun r' h' => r' = .inr (some (.int (q_moved S j w (q_ne S)))) ∧ h' = h) h true 0 0 5 [some (.ref (A 30 0)), some (.int (nI j)), some (.int w), some (.int n), some (.int (nI e)), none] [] := by
  obtain ⟨hnp, hns, hne, hpar, hhome, hact⟩ := hB
  intro r
  induction r with
  | zero =>
    intro e n he hn
    have he2 : e = q_ne S := by omega
    subst he2
    refine g_iload hX dM_moved_5 rfl 7 rfl ?_
    refine g_aload_n hX dM_moved_7 rfl rfl (by first | rfl | exact g_rfr _) 8 rfl ?_
    refine g_get hX dM_moved_8 fM_121 (w_m hW) rfl 11 rfl ?_
    refine g_icmp_ge hX dM_moved_11 94 14 (by decide) rfl (fun c11 => ?_) (fun c11 => ?_)
    · refine g_iload_n hX dM_moved_94 rfl rfl 95 rfl ?_
      exact g_iret hX rfl rfl dM_moved_95 ⟨by rw [hn], rfl⟩ rfl (Nat.zero_le _) (Nat.zero_le _)
    · exact absurd (nI_le (Nat.le_refl _) (by omega)) c11
  | succ r ih =>
    intro e n he hn
    have hen : e < q_ne S := by omega
    have hak : S.1 5 e < q_ns S := hact e hen
    have hb1 : S.1 5 e < 2 ^ 31 := by omega
    refine g_iload hX dM_moved_5 rfl 7 rfl ?_
    refine g_aload_n hX dM_moved_7 rfl rfl (by first | rfl | exact g_rfr _) 8 rfl ?_
    refine g_get hX dM_moved_8 fM_121 (w_m hW) rfl 11 rfl ?_
    refine g_icmp_ge hX dM_moved_11 94 14 (by decide) rfl (fun c11 => ?_) (fun c11 => ?_)
    · exact absurd c11 (nI_ge (by omega) (by omega))
    · refine g_aload_n hX dM_moved_14 rfl rfl (by first | rfl | exact g_rfr _) 15 rfl ?_
      refine g_get hX dM_moved_15 fM_45 (w_m hW) rfl 18 rfl ?_
      refine g_iload hX dM_moved_18 rfl 20 rfl ?_
      refine g_iald hX dM_moved_20 (w_ar hW _ (by decide)) (g_ix.nat (by omega) (by decide)) 21 rfl ?_
      refine g_iload_n hX dM_moved_21 rfl rfl 22 rfl ?_
      refine g_icmp_ne hX dM_moved_22 88 25 (by decide) rfl (fun c22 => ?_) (fun c22 => ?_)
      · refine g_iinc hX (L' := [_, _, _, _, _, _]) dM_moved_88 rfl (q_inc _) rfl 91 rfl ?_
        refine g_goto hX dM_moved_91 5 (by decide) ?_
        (try refine g_drop (L' := [_, _, _, _, _, none]) 5 rfl ?_)
        first
          | exact ih (e + 1) _ (by omega) (by rw [q_moved, if_neg (fun q => c22 (congrArg nI q.1))]; exact hn)
          | exact ih (e + 1) _ (by omega) (by rw [q_moved, if_neg (fun q => c33 q.2)]; exact hn)
          | exact ih (e + 1) _ (by omega) (by rw [q_moved, if_pos ⟨q_inj c22 hb1 hj, c33⟩, if_pos c47, ← hn])
          | exact ih (e + 1) _ (by omega) (by rw [q_moved, if_pos ⟨q_inj c22 hb1 hj, c33⟩, if_neg c47, if_pos c65, ← hn])
          | exact ih (e + 1) _ (by omega) (by rw [q_moved, if_pos ⟨q_inj c22 hb1 hj, c33⟩, if_neg c47, if_neg c65, ← hn])
      · refine g_aload_n hX dM_moved_25 rfl rfl (by first | rfl | exact g_rfr _) 26 rfl ?_
        refine g_get hX dM_moved_26 fM_48 (w_m hW) rfl 29 rfl ?_
        refine g_iload hX dM_moved_29 rfl 31 rfl ?_
        refine g_iald hX dM_moved_31 (w_ar hW _ (by decide)) (g_ix.nat (by omega) (by decide)) 32 rfl ?_
        refine g_iload_n hX dM_moved_32 rfl rfl 33 rfl ?_
        refine g_icmp_ne hX dM_moved_33 88 36 (by decide) rfl (fun c33 => ?_) (fun c33 => ?_)
        · refine g_iinc hX (L' := [_, _, _, _, _, _]) dM_moved_88 rfl (q_inc _) rfl 91 rfl ?_
          refine g_goto hX dM_moved_91 5 (by decide) ?_
          (try refine g_drop (L' := [_, _, _, _, _, none]) 5 rfl ?_)
          first
            | exact ih (e + 1) _ (by omega) (by rw [q_moved, if_neg (fun q => c22 (congrArg nI q.1))]; exact hn)
            | exact ih (e + 1) _ (by omega) (by rw [q_moved, if_neg (fun q => c33 q.2)]; exact hn)
            | exact ih (e + 1) _ (by omega) (by rw [q_moved, if_pos ⟨q_inj c22 hb1 hj, c33⟩, if_pos c47, ← hn])
            | exact ih (e + 1) _ (by omega) (by rw [q_moved, if_pos ⟨q_inj c22 hb1 hj, c33⟩, if_neg c47, if_pos c65, ← hn])
            | exact ih (e + 1) _ (by omega) (by rw [q_moved, if_pos ⟨q_inj c22 hb1 hj, c33⟩, if_neg c47, if_neg c65, ← hn])
        · refine g_aload_n hX dM_moved_36 rfl rfl (by first | rfl | exact g_rfr _) 37 rfl ?_
          refine g_iload hX dM_moved_37 rfl 39 rfl ?_
          refine g_cV1r (wt := 0) hX (c_M_stage hX.tr hW ⟨hnp, hns, hne, hpar, hhome, hact⟩ hen) dM_moved_39 (w_m hW) kM_148 (g_rm.of hR (by decide) (by decide)) (by first | exact Nat.zero_le _ | (rw [hR]; decide)) (by first | exact Nat.zero_le _ | (rw [hR]; decide)) (by first | decide | (simp [Value.category])) 42 rfl ?_
          refine g_istore hX (L' := [_, _, _, _, _, _]) dM_moved_42 (by decide) rfl 44 rfl ?_
          refine g_iload hX dM_moved_44 rfl 46 rfl ?_
          refine g_iconst hX dM_moved_46 (v := 2) (by decide) 47 rfl ?_
          refine g_icmp_ne hX dM_moved_47 62 50 (by decide) rfl (fun c47 => ?_) (fun c47 => ?_)
          · refine g_iload hX dM_moved_62 rfl 64 rfl ?_
            refine g_iconst hX dM_moved_64 (v := 1) (by decide) 65 rfl ?_
            refine g_icmp_ne hX dM_moved_65 86 68 (by decide) rfl (fun c65 => ?_) (fun c65 => ?_)
            · refine g_iload_n hX dM_moved_86 rfl rfl 87 rfl ?_
              refine g_istore_n hX (L' := [_, _, _, _, _, _]) dM_moved_87 rfl (by decide) rfl 88 rfl ?_
              refine g_iinc hX (L' := [_, _, _, _, _, _]) dM_moved_88 rfl (q_inc _) rfl 91 rfl ?_
              refine g_goto hX dM_moved_91 5 (by decide) ?_
              (try refine g_drop (L' := [_, _, _, _, _, none]) 5 rfl ?_)
              first
                | exact ih (e + 1) _ (by omega) (by rw [q_moved, if_neg (fun q => c22 (congrArg nI q.1))]; exact hn)
                | exact ih (e + 1) _ (by omega) (by rw [q_moved, if_neg (fun q => c33 q.2)]; exact hn)
                | exact ih (e + 1) _ (by omega) (by rw [q_moved, if_pos ⟨q_inj c22 hb1 hj, c33⟩, if_pos c47, ← hn])
                | exact ih (e + 1) _ (by omega) (by rw [q_moved, if_pos ⟨q_inj c22 hb1 hj, c33⟩, if_neg c47, if_pos c65, ← hn])
                | exact ih (e + 1) _ (by omega) (by rw [q_moved, if_pos ⟨q_inj c22 hb1 hj, c33⟩, if_neg c47, if_neg c65, ← hn])
            · refine g_iload_n hX dM_moved_68 rfl rfl 69 rfl ?_
              refine g_aload_n hX dM_moved_69 rfl rfl (by first | rfl | exact g_rfr _) 70 rfl ?_
              refine g_aload_n hX dM_moved_70 rfl rfl (by first | rfl | exact g_rfr _) 71 rfl ?_
              refine g_get hX dM_moved_71 fM_60 (w_m hW) rfl 74 rfl ?_
              refine g_iload hX dM_moved_74 rfl 76 rfl ?_
              refine g_iald hX dM_moved_76 (w_ar hW _ (by decide)) (g_ix.nat (by omega) (by decide)) 77 rfl ?_
              refine g_iload hX dM_moved_77 rfl 79 rfl ?_
              refine g_cV2r (wt := 1) hX (c_M_part hX.tr hW ⟨hnp, hns, hne, hpar, hhome, hact⟩ hen (q_stage1 c65) (S.2 11 e)) dM_moved_79 (w_m hW) kM_158 (g_rm.of hR (by decide) (by decide)) (by first | exact Nat.zero_le _ | (rw [hR]; decide)) (by first | exact Nat.zero_le _ | (rw [hR]; decide)) (by first | decide | (simp [Value.category])) 82 rfl ?_
              refine g_iadd hX dM_moved_82 83 rfl ?_
              refine g_goto hX dM_moved_83 87 (by decide) ?_
              refine g_istore_n hX (L' := [_, _, _, _, _, _]) dM_moved_87 rfl (by decide) rfl 88 rfl ?_
              refine g_iinc hX (L' := [_, _, _, _, _, _]) dM_moved_88 rfl (q_inc _) rfl 91 rfl ?_
              refine g_goto hX dM_moved_91 5 (by decide) ?_
              (try refine g_drop (L' := [_, _, _, _, _, none]) 5 rfl ?_)
              first
                | exact ih (e + 1) _ (by omega) (by rw [q_moved, if_neg (fun q => c22 (congrArg nI q.1))]; exact hn)
                | exact ih (e + 1) _ (by omega) (by rw [q_moved, if_neg (fun q => c33 q.2)]; exact hn)
                | exact ih (e + 1) _ (by omega) (by rw [q_moved, if_pos ⟨q_inj c22 hb1 hj, c33⟩, if_pos c47, ← hn])
                | exact ih (e + 1) _ (by omega) (by rw [q_moved, if_pos ⟨q_inj c22 hb1 hj, c33⟩, if_neg c47, if_pos c65, ← hn])
                | exact ih (e + 1) _ (by omega) (by rw [q_moved, if_pos ⟨q_inj c22 hb1 hj, c33⟩, if_neg c47, if_neg c65, ← hn])
          · refine g_iload_n hX dM_moved_50 rfl rfl 51 rfl ?_
            refine g_aload_n hX dM_moved_51 rfl rfl (by first | rfl | exact g_rfr _) 52 rfl ?_
            refine g_get hX dM_moved_52 fM_60 (w_m hW) rfl 55 rfl ?_
            refine g_iload hX dM_moved_55 rfl 57 rfl ?_
            refine g_iald hX dM_moved_57 (w_ar hW _ (by decide)) (g_ix.nat (by omega) (by decide)) 58 rfl ?_
            refine g_iadd hX dM_moved_58 59 rfl ?_
            refine g_goto hX dM_moved_59 87 (by decide) ?_
            refine g_istore_n hX (L' := [_, _, _, _, _, _]) dM_moved_87 rfl (by decide) rfl 88 rfl ?_
            refine g_iinc hX (L' := [_, _, _, _, _, _]) dM_moved_88 rfl (q_inc _) rfl 91 rfl ?_
            refine g_goto hX dM_moved_91 5 (by decide) ?_
            (try refine g_drop (L' := [_, _, _, _, _, none]) 5 rfl ?_)
            first
              | exact ih (e + 1) _ (by omega) (by rw [q_moved, if_neg (fun q => c22 (congrArg nI q.1))]; exact hn)
              | exact ih (e + 1) _ (by omega) (by rw [q_moved, if_neg (fun q => c33 q.2)]; exact hn)
              | exact ih (e + 1) _ (by omega) (by rw [q_moved, if_pos ⟨q_inj c22 hb1 hj, c33⟩, if_pos c47, ← hn])
              | exact ih (e + 1) _ (by omega) (by rw [q_moved, if_pos ⟨q_inj c22 hb1 hj, c33⟩, if_neg c47, if_pos c65, ← hn])
              | exact ih (e + 1) _ (by omega) (by rw [q_moved, if_pos ⟨q_inj c22 hb1 hj, c33⟩, if_neg c47, if_neg c65, ← hn])
set_option maxRecDepth 100000 in
set_option maxHeartbeats 4000000 in
theorem c_M_moved {l : Launch} (hl : l.stackTraces = false) {E : g_E} {A : w_A} {S : q_S} {h : g_H} (hW : r_W E A S h) (hB : w_B S) {j : Nat} (hj : j < 2 ^ 31) (w : Int32)  : g_Rd l mM_moved 3 45 [.ref (A 30 0), .int (nI j), .int w] E h (some (.int (q_moved S j w (q_ne S)))) := by
  refine g_Rd.of hl (by decide) rfl (Nat.le_of_ble_eq_true rfl) ?_
  intro X hX hXl hR
  obtain ⟨hnp, hns, hne, hpar, hhome, hact⟩ := hB
  show g_Go E X _ h true 0 0 0 [some (.ref (A 30 0)), some (.int (nI j)), some (.int w), none, none, none] []
  refine g_iconst hX dM_moved_0 (v := 0) (by decide) 1 rfl ?_
  refine g_istore_n hX (L' := [_, _, _, _, _, _]) dM_moved_1 rfl (by decide) rfl 2 rfl ?_
  refine g_iconst hX dM_moved_2 (v := 0) (by decide) 3 rfl ?_
  refine g_istore hX (L' := [_, _, _, _, _, _]) dM_moved_3 (by decide) rfl 5 rfl ?_
  have hlp := lp_M_moved hW ⟨hnp, hns, hne, hpar, hhome, hact⟩ hX hR hj (w := w) (q_ne S) 0 0 (by omega) rfl
  rw [nI_0] at hlp
  exact hlp
set_option maxRecDepth 100000 in
set_option maxHeartbeats 4000000 in
theorem lp_M_shown {E : g_E} {A : w_A} {S : q_S} {h : g_H} (hW : r_W E A S h) (hB : w_B S) {X : g_X} (hX : g_ok E X mM_shown) (hR : X.R = { frames := 3, cells := 0, slots := 0, locals := 45 }) {j : Nat} (hj : j < 2 ^ 31) {v : Int32} : ∀ (r e : Nat) (n : Int32) (f : Int32), e + r = q_ne S → n = (q_shown S j v e).1 → f = (if (q_shown S j v e).2 = true then 1 else 0) →
    g_Go E X (true, fun r' h' => r' = .inr (some (.int (q_shown S j v (q_ne S)).1)) ∧ h' = h) h true 0 0 8 [some (.ref (A 30 0)), some (.int (nI j)), some (.int v), some (.int n), some (.int f), some (.int (nI e)), none, none, none] [] := by
  obtain ⟨hnp, hns, hne, hpar, hhome, hact⟩ := hB
  intro r
  induction r with
  | zero =>
    intro e n f he hn hf
    have he2 : e = q_ne S := by omega
    subst he2
    refine g_iload hX dM_shown_8 rfl 10 rfl ?_
    refine g_aload_n hX dM_shown_10 rfl rfl (by first | rfl | exact g_rfr _) 11 rfl ?_
    refine g_get hX dM_shown_11 fM_121 (w_m hW) rfl 14 rfl ?_
    refine g_icmp_ge hX dM_shown_14 128 17 (by decide) rfl (fun c14 => ?_) (fun c14 => ?_)
    · refine g_iload_n hX dM_shown_128 rfl rfl 129 rfl ?_
      exact g_iret hX rfl rfl dM_shown_129 ⟨by rw [hn], rfl⟩ rfl (Nat.zero_le _) (Nat.zero_le _)
    · exact absurd (nI_le (Nat.le_refl _) (by omega)) c14
  | succ r ih =>
    intro e n f he hn hf
    have hen : e < q_ne S := by omega
    have hak : S.1 5 e < q_ns S := hact e hen
    have hb1 : S.1 5 e < 2 ^ 31 := by omega
    have hsc := q_stage_cases S e
    have hf1 : f = 0 ↔ (q_shown S j v e).2 = false := by
      rw [hf]
      cases (q_shown S j v e).2 <;> decide
    refine g_iload hX dM_shown_8 rfl 10 rfl ?_
    refine g_aload_n hX dM_shown_10 rfl rfl (by first | rfl | exact g_rfr _) 11 rfl ?_
    refine g_get hX dM_shown_11 fM_121 (w_m hW) rfl 14 rfl ?_
    refine g_icmp_ge hX dM_shown_14 128 17 (by decide) rfl (fun c14 => ?_) (fun c14 => ?_)
    · exact absurd c14 (nI_ge (by omega) (by omega))
    · refine g_aload_n hX dM_shown_17 rfl rfl (by first | rfl | exact g_rfr _) 18 rfl ?_
      refine g_get hX dM_shown_18 fM_45 (w_m hW) rfl 21 rfl ?_
      refine g_iload hX dM_shown_21 rfl 23 rfl ?_
      refine g_iald hX dM_shown_23 (w_ar hW _ (by decide)) (g_ix.nat (by omega) (by decide)) 24 rfl ?_
      refine g_iload_n hX dM_shown_24 rfl rfl 25 rfl ?_
      refine g_icmp_ne hX dM_shown_25 122 28 (by decide) rfl (fun c25 => ?_) (fun c25 => ?_)
      · refine g_iinc hX (L' := [_, _, _, _, _, _, _, _, _]) dM_shown_122 rfl (q_inc _) rfl 125 rfl ?_
        refine g_goto hX dM_shown_125 8 (by decide) ?_
        have hno := q_shown_no (S := S) (j := j) (e := e) (v := v) (fun q => c25 (congrArg nI q.1))
        exact ih (e + 1) _ _ (by omega) (by rw [hno]; exact hn) (by rw [hno]; exact hf)
      · refine g_aload_n hX dM_shown_28 rfl rfl (by first | rfl | exact g_rfr _) 29 rfl ?_
        refine g_get hX dM_shown_29 fM_48 (w_m hW) rfl 32 rfl ?_
        refine g_iload hX dM_shown_32 rfl 34 rfl ?_
        refine g_iald hX dM_shown_34 (w_ar hW _ (by decide)) (g_ix.nat (by omega) (by decide)) 35 rfl ?_
        refine g_iconst hX dM_shown_35 (v := 1) (by decide) 36 rfl ?_
        refine g_icmp_gt hX dM_shown_36 122 39 (by decide) rfl (fun c36 => ?_) (fun c36 => ?_)
        · refine g_iinc hX (L' := [_, _, _, _, _, _, _, _, _]) dM_shown_122 rfl (q_inc _) rfl 125 rfl ?_
          refine g_goto hX dM_shown_125 8 (by decide) ?_
          have hno := q_shown_no (S := S) (j := j) (e := e) (v := v) (fun q => q.2 c36)
          exact ih (e + 1) _ _ (by omega) (by rw [hno]; exact hn) (by rw [hno]; exact hf)
        · refine g_aload_n hX dM_shown_39 rfl rfl (by first | rfl | exact g_rfr _) 40 rfl ?_
          refine g_get hX dM_shown_40 fM_48 (w_m hW) rfl 43 rfl ?_
          refine g_iload hX dM_shown_43 rfl 45 rfl ?_
          refine g_iald hX dM_shown_45 (w_ar hW _ (by decide)) (g_ix.nat (by omega) (by decide)) 46 rfl ?_
          refine g_if_ne hX dM_shown_46 53 49 (by decide) rfl (fun c46 => ?_) (fun c46 => ?_)
          · refine g_iconst hX dM_shown_53 (v := 0) (by decide) 54 rfl ?_
            refine g_istore hX (L' := [_, _, _, _, _, _, _, _, _]) dM_shown_54 (by decide) rfl 56 rfl ?_
            refine g_aload_n hX dM_shown_56 rfl rfl (by first | rfl | exact g_rfr _) 57 rfl ?_
            refine g_iload hX dM_shown_57 rfl 59 rfl ?_
            refine g_cV1r (wt := 0) hX (c_M_stage hX.tr hW ⟨hnp, hns, hne, hpar, hhome, hact⟩ hen) dM_shown_59 (w_m hW) kM_148 (g_rm.of hR (by decide) (by decide)) (by first | exact Nat.zero_le _ | (rw [hR]; decide)) (by first | exact Nat.zero_le _ | (rw [hR]; decide)) (by first | decide | (simp [Value.category])) 62 rfl ?_
            refine g_istore hX (L' := [_, _, _, _, _, _, _, _, _]) dM_shown_62 (by decide) rfl 64 rfl ?_
            refine g_iload hX dM_shown_64 rfl 66 rfl ?_
            refine g_if_eq hX dM_shown_66 78 69 (by decide) rfl (fun c66 => ?_) (fun c66 => ?_)
            · refine g_iload_n hX dM_shown_78 rfl rfl 79 rfl ?_
              refine g_istore_n hX (L' := [_, _, _, _, _, _, _, _, _]) dM_shown_79 rfl (by decide) rfl 80 rfl ?_
              refine g_iconst hX dM_shown_80 (v := 0) (by decide) 81 rfl ?_
              refine g_istore hX (L' := [_, _, _, _, _, _, _, _, _]) dM_shown_81 (by decide) rfl 83 rfl ?_
              refine g_iload hX dM_shown_83 rfl 85 rfl ?_
              refine g_if_le hX dM_shown_85 122 88 (by decide) rfl (fun c85 => ?_) (fun c85 => ?_)
              · refine g_iinc hX (L' := [_, _, _, _, _, _, _, _, _]) dM_shown_122 rfl (q_inc _) rfl 125 rfl ?_
                refine g_goto hX dM_shown_125 8 (by decide) ?_
                refine g_drop (L' := [_, _, _, _, _, _, none, _, _]) 6 rfl ?_
                refine g_drop (L' := [_, _, _, _, _, _, none, none, _]) 7 rfl ?_
                refine g_drop (L' := [_, _, _, _, _, _, none, none, none]) 8 rfl ?_
                have hye := q_shown_yes (S := S) (j := j) (e := e) (v := v) ⟨q_inj c25 hb1 hj, c36⟩
                have c85p : ¬ 0 < q_stage S e := Int32.not_lt.mpr c85
                exact ih (e + 1) _ _ (by omega) (by rw [hye]; show _ = ite _ _ _; rw [if_neg c85p]; simp_all [q_come]) (by rw [hye]; rfl)
              · refine g_iload hX dM_shown_88 rfl 90 rfl ?_
                refine g_iconst hX dM_shown_90 (v := 2) (by decide) 91 rfl ?_
                refine g_icmp_ne hX dM_shown_91 98 94 (by decide) rfl (fun c91 => ?_) (fun c91 => ?_)
                · refine g_aload_n hX dM_shown_98 rfl rfl (by first | rfl | exact g_rfr _) 99 rfl ?_
                  refine g_iload_n hX dM_shown_99 rfl rfl 100 rfl ?_
                  refine g_iload hX dM_shown_100 rfl 102 rfl ?_
                  refine g_cV2r (wt := 0) hX (c_M_part hX.tr hW ⟨hnp, hns, hne, hpar, hhome, hact⟩ hen (q_stage1 (by rcases hsc with q | q | q; (rw [q] at c85; exact absurd (by decide) c85); exact q; exact absurd q c91)) v) dM_shown_102 (w_m hW) kM_158 (g_rm.of hR (by decide) (by decide)) (by first | exact Nat.zero_le _ | (rw [hR]; decide)) (by first | exact Nat.zero_le _ | (rw [hR]; decide)) (by first | decide | (simp [Value.category])) 105 rfl ?_
                  refine g_istore hX (L' := [_, _, _, _, _, _, _, _, _]) dM_shown_105 (by decide) rfl 107 rfl ?_
                  refine g_iload hX dM_shown_107 rfl 109 rfl ?_
                  refine g_if_eq hX dM_shown_109 117 112 (by decide) rfl (fun c109 => ?_) (fun c109 => ?_)
                  · refine g_iload_n hX dM_shown_117 rfl rfl 118 rfl ?_
                    refine g_iload hX dM_shown_118 rfl 120 rfl ?_
                    refine g_isub hX dM_shown_120 121 rfl ?_
                    refine g_istore_n hX (L' := [_, _, _, _, _, _, _, _, _]) dM_shown_121 rfl (by decide) rfl 122 rfl ?_
                    refine g_iinc hX (L' := [_, _, _, _, _, _, _, _, _]) dM_shown_122 rfl (q_inc _) rfl 125 rfl ?_
                    refine g_goto hX dM_shown_125 8 (by decide) ?_
                    refine g_drop (L' := [_, _, _, _, _, _, none, _, _]) 6 rfl ?_
                    refine g_drop (L' := [_, _, _, _, _, _, none, none, _]) 7 rfl ?_
                    refine g_drop (L' := [_, _, _, _, _, _, none, none, none]) 8 rfl ?_
                    have hye := q_shown_yes (S := S) (j := j) (e := e) (v := v) ⟨q_inj c25 hb1 hj, c36⟩
                    have c85p : 0 < q_stage S e := Int32.not_le.mp c85
                    exact ih (e + 1) _ _ (by omega) (by rw [hye]; show _ = ite _ _ _; rw [if_pos c85p]; simp_all [q_come]) (by rw [hye]; rfl)
                  · refine g_iload hX dM_shown_112 rfl 114 rfl ?_
                    refine g_goto hX dM_shown_114 121 (by decide) ?_
                    refine g_istore_n hX (L' := [_, _, _, _, _, _, _, _, _]) dM_shown_121 rfl (by decide) rfl 122 rfl ?_
                    refine g_iinc hX (L' := [_, _, _, _, _, _, _, _, _]) dM_shown_122 rfl (q_inc _) rfl 125 rfl ?_
                    refine g_goto hX dM_shown_125 8 (by decide) ?_
                    refine g_drop (L' := [_, _, _, _, _, _, none, _, _]) 6 rfl ?_
                    refine g_drop (L' := [_, _, _, _, _, _, none, none, _]) 7 rfl ?_
                    refine g_drop (L' := [_, _, _, _, _, _, none, none, none]) 8 rfl ?_
                    have hye := q_shown_yes (S := S) (j := j) (e := e) (v := v) ⟨q_inj c25 hb1 hj, c36⟩
                    have c85p : 0 < q_stage S e := Int32.not_le.mp c85
                    exact ih (e + 1) _ _ (by omega) (by rw [hye]; show _ = ite _ _ _; rw [if_pos c85p]; simp_all [q_come]) (by rw [hye]; rfl)
                · refine g_iload_n hX dM_shown_94 rfl rfl 95 rfl ?_
                  refine g_goto hX dM_shown_95 105 (by decide) ?_
                  refine g_istore hX (L' := [_, _, _, _, _, _, _, _, _]) dM_shown_105 (by decide) rfl 107 rfl ?_
                  refine g_iload hX dM_shown_107 rfl 109 rfl ?_
                  refine g_if_eq hX dM_shown_109 117 112 (by decide) rfl (fun c109 => ?_) (fun c109 => ?_)
                  · refine g_iload_n hX dM_shown_117 rfl rfl 118 rfl ?_
                    refine g_iload hX dM_shown_118 rfl 120 rfl ?_
                    refine g_isub hX dM_shown_120 121 rfl ?_
                    refine g_istore_n hX (L' := [_, _, _, _, _, _, _, _, _]) dM_shown_121 rfl (by decide) rfl 122 rfl ?_
                    refine g_iinc hX (L' := [_, _, _, _, _, _, _, _, _]) dM_shown_122 rfl (q_inc _) rfl 125 rfl ?_
                    refine g_goto hX dM_shown_125 8 (by decide) ?_
                    refine g_drop (L' := [_, _, _, _, _, _, none, _, _]) 6 rfl ?_
                    refine g_drop (L' := [_, _, _, _, _, _, none, none, _]) 7 rfl ?_
                    refine g_drop (L' := [_, _, _, _, _, _, none, none, none]) 8 rfl ?_
                    have hye := q_shown_yes (S := S) (j := j) (e := e) (v := v) ⟨q_inj c25 hb1 hj, c36⟩
                    have c85p : 0 < q_stage S e := Int32.not_le.mp c85
                    exact ih (e + 1) _ _ (by omega) (by rw [hye]; show _ = ite _ _ _; rw [if_pos c85p]; simp_all [q_come]) (by rw [hye]; rfl)
                  · refine g_iload hX dM_shown_112 rfl 114 rfl ?_
                    refine g_goto hX dM_shown_114 121 (by decide) ?_
                    refine g_istore_n hX (L' := [_, _, _, _, _, _, _, _, _]) dM_shown_121 rfl (by decide) rfl 122 rfl ?_
                    refine g_iinc hX (L' := [_, _, _, _, _, _, _, _, _]) dM_shown_122 rfl (q_inc _) rfl 125 rfl ?_
                    refine g_goto hX dM_shown_125 8 (by decide) ?_
                    refine g_drop (L' := [_, _, _, _, _, _, none, _, _]) 6 rfl ?_
                    refine g_drop (L' := [_, _, _, _, _, _, none, none, _]) 7 rfl ?_
                    refine g_drop (L' := [_, _, _, _, _, _, none, none, none]) 8 rfl ?_
                    have hye := q_shown_yes (S := S) (j := j) (e := e) (v := v) ⟨q_inj c25 hb1 hj, c36⟩
                    have c85p : 0 < q_stage S e := Int32.not_le.mp c85
                    exact ih (e + 1) _ _ (by omega) (by rw [hye]; show _ = ite _ _ _; rw [if_pos c85p]; simp_all [q_come]) (by rw [hye]; rfl)
            · refine g_iload hX dM_shown_69 rfl 71 rfl ?_
              refine g_if_eq hX dM_shown_71 78 74 (by decide) rfl (fun c71 => ?_) (fun c71 => ?_)
              · refine g_iload_n hX dM_shown_78 rfl rfl 79 rfl ?_
                refine g_istore_n hX (L' := [_, _, _, _, _, _, _, _, _]) dM_shown_79 rfl (by decide) rfl 80 rfl ?_
                refine g_iconst hX dM_shown_80 (v := 0) (by decide) 81 rfl ?_
                refine g_istore hX (L' := [_, _, _, _, _, _, _, _, _]) dM_shown_81 (by decide) rfl 83 rfl ?_
                refine g_iload hX dM_shown_83 rfl 85 rfl ?_
                refine g_if_le hX dM_shown_85 122 88 (by decide) rfl (fun c85 => ?_) (fun c85 => ?_)
                · refine g_iinc hX (L' := [_, _, _, _, _, _, _, _, _]) dM_shown_122 rfl (q_inc _) rfl 125 rfl ?_
                  refine g_goto hX dM_shown_125 8 (by decide) ?_
                  refine g_drop (L' := [_, _, _, _, _, _, none, _, _]) 6 rfl ?_
                  refine g_drop (L' := [_, _, _, _, _, _, none, none, _]) 7 rfl ?_
                  refine g_drop (L' := [_, _, _, _, _, _, none, none, none]) 8 rfl ?_
                  have hye := q_shown_yes (S := S) (j := j) (e := e) (v := v) ⟨q_inj c25 hb1 hj, c36⟩
                  have c85p : ¬ 0 < q_stage S e := Int32.not_lt.mpr c85
                  exact ih (e + 1) _ _ (by omega) (by rw [hye]; show _ = ite _ _ _; rw [if_neg c85p]; simp_all [q_come]) (by rw [hye]; rfl)
                · refine g_iload hX dM_shown_88 rfl 90 rfl ?_
                  refine g_iconst hX dM_shown_90 (v := 2) (by decide) 91 rfl ?_
                  refine g_icmp_ne hX dM_shown_91 98 94 (by decide) rfl (fun c91 => ?_) (fun c91 => ?_)
                  · refine g_aload_n hX dM_shown_98 rfl rfl (by first | rfl | exact g_rfr _) 99 rfl ?_
                    refine g_iload_n hX dM_shown_99 rfl rfl 100 rfl ?_
                    refine g_iload hX dM_shown_100 rfl 102 rfl ?_
                    refine g_cV2r (wt := 0) hX (c_M_part hX.tr hW ⟨hnp, hns, hne, hpar, hhome, hact⟩ hen (q_stage1 (by rcases hsc with q | q | q; (rw [q] at c85; exact absurd (by decide) c85); exact q; exact absurd q c91)) v) dM_shown_102 (w_m hW) kM_158 (g_rm.of hR (by decide) (by decide)) (by first | exact Nat.zero_le _ | (rw [hR]; decide)) (by first | exact Nat.zero_le _ | (rw [hR]; decide)) (by first | decide | (simp [Value.category])) 105 rfl ?_
                    refine g_istore hX (L' := [_, _, _, _, _, _, _, _, _]) dM_shown_105 (by decide) rfl 107 rfl ?_
                    refine g_iload hX dM_shown_107 rfl 109 rfl ?_
                    refine g_if_eq hX dM_shown_109 117 112 (by decide) rfl (fun c109 => ?_) (fun c109 => ?_)
                    · refine g_iload_n hX dM_shown_117 rfl rfl 118 rfl ?_
                      refine g_iload hX dM_shown_118 rfl 120 rfl ?_
                      refine g_isub hX dM_shown_120 121 rfl ?_
                      refine g_istore_n hX (L' := [_, _, _, _, _, _, _, _, _]) dM_shown_121 rfl (by decide) rfl 122 rfl ?_
                      refine g_iinc hX (L' := [_, _, _, _, _, _, _, _, _]) dM_shown_122 rfl (q_inc _) rfl 125 rfl ?_
                      refine g_goto hX dM_shown_125 8 (by decide) ?_
                      refine g_drop (L' := [_, _, _, _, _, _, none, _, _]) 6 rfl ?_
                      refine g_drop (L' := [_, _, _, _, _, _, none, none, _]) 7 rfl ?_
                      refine g_drop (L' := [_, _, _, _, _, _, none, none, none]) 8 rfl ?_
                      have hye := q_shown_yes (S := S) (j := j) (e := e) (v := v) ⟨q_inj c25 hb1 hj, c36⟩
                      have c85p : 0 < q_stage S e := Int32.not_le.mp c85
                      exact ih (e + 1) _ _ (by omega) (by rw [hye]; show _ = ite _ _ _; rw [if_pos c85p]; simp_all [q_come]) (by rw [hye]; rfl)
                    · refine g_iload hX dM_shown_112 rfl 114 rfl ?_
                      refine g_goto hX dM_shown_114 121 (by decide) ?_
                      refine g_istore_n hX (L' := [_, _, _, _, _, _, _, _, _]) dM_shown_121 rfl (by decide) rfl 122 rfl ?_
                      refine g_iinc hX (L' := [_, _, _, _, _, _, _, _, _]) dM_shown_122 rfl (q_inc _) rfl 125 rfl ?_
                      refine g_goto hX dM_shown_125 8 (by decide) ?_
                      refine g_drop (L' := [_, _, _, _, _, _, none, _, _]) 6 rfl ?_
                      refine g_drop (L' := [_, _, _, _, _, _, none, none, _]) 7 rfl ?_
                      refine g_drop (L' := [_, _, _, _, _, _, none, none, none]) 8 rfl ?_
                      have hye := q_shown_yes (S := S) (j := j) (e := e) (v := v) ⟨q_inj c25 hb1 hj, c36⟩
                      have c85p : 0 < q_stage S e := Int32.not_le.mp c85
                      exact ih (e + 1) _ _ (by omega) (by rw [hye]; show _ = ite _ _ _; rw [if_pos c85p]; simp_all [q_come]) (by rw [hye]; rfl)
                  · refine g_iload_n hX dM_shown_94 rfl rfl 95 rfl ?_
                    refine g_goto hX dM_shown_95 105 (by decide) ?_
                    refine g_istore hX (L' := [_, _, _, _, _, _, _, _, _]) dM_shown_105 (by decide) rfl 107 rfl ?_
                    refine g_iload hX dM_shown_107 rfl 109 rfl ?_
                    refine g_if_eq hX dM_shown_109 117 112 (by decide) rfl (fun c109 => ?_) (fun c109 => ?_)
                    · refine g_iload_n hX dM_shown_117 rfl rfl 118 rfl ?_
                      refine g_iload hX dM_shown_118 rfl 120 rfl ?_
                      refine g_isub hX dM_shown_120 121 rfl ?_
                      refine g_istore_n hX (L' := [_, _, _, _, _, _, _, _, _]) dM_shown_121 rfl (by decide) rfl 122 rfl ?_
                      refine g_iinc hX (L' := [_, _, _, _, _, _, _, _, _]) dM_shown_122 rfl (q_inc _) rfl 125 rfl ?_
                      refine g_goto hX dM_shown_125 8 (by decide) ?_
                      refine g_drop (L' := [_, _, _, _, _, _, none, _, _]) 6 rfl ?_
                      refine g_drop (L' := [_, _, _, _, _, _, none, none, _]) 7 rfl ?_
                      refine g_drop (L' := [_, _, _, _, _, _, none, none, none]) 8 rfl ?_
                      have hye := q_shown_yes (S := S) (j := j) (e := e) (v := v) ⟨q_inj c25 hb1 hj, c36⟩
                      have c85p : 0 < q_stage S e := Int32.not_le.mp c85
                      exact ih (e + 1) _ _ (by omega) (by rw [hye]; show _ = ite _ _ _; rw [if_pos c85p]; simp_all [q_come]) (by rw [hye]; rfl)
                    · refine g_iload hX dM_shown_112 rfl 114 rfl ?_
                      refine g_goto hX dM_shown_114 121 (by decide) ?_
                      refine g_istore_n hX (L' := [_, _, _, _, _, _, _, _, _]) dM_shown_121 rfl (by decide) rfl 122 rfl ?_
                      refine g_iinc hX (L' := [_, _, _, _, _, _, _, _, _]) dM_shown_122 rfl (q_inc _) rfl 125 rfl ?_
                      refine g_goto hX dM_shown_125 8 (by decide) ?_
                      refine g_drop (L' := [_, _, _, _, _, _, none, _, _]) 6 rfl ?_
                      refine g_drop (L' := [_, _, _, _, _, _, none, none, _]) 7 rfl ?_
                      refine g_drop (L' := [_, _, _, _, _, _, none, none, none]) 8 rfl ?_
                      have hye := q_shown_yes (S := S) (j := j) (e := e) (v := v) ⟨q_inj c25 hb1 hj, c36⟩
                      have c85p : 0 < q_stage S e := Int32.not_le.mp c85
                      exact ih (e + 1) _ _ (by omega) (by rw [hye]; show _ = ite _ _ _; rw [if_pos c85p]; simp_all [q_come]) (by rw [hye]; rfl)
              · refine g_iconst hX dM_shown_74 (v := 0) (by decide) 75 rfl ?_
                refine g_goto hX dM_shown_75 79 (by decide) ?_
                refine g_istore_n hX (L' := [_, _, _, _, _, _, _, _, _]) dM_shown_79 rfl (by decide) rfl 80 rfl ?_
                refine g_iconst hX dM_shown_80 (v := 0) (by decide) 81 rfl ?_
                refine g_istore hX (L' := [_, _, _, _, _, _, _, _, _]) dM_shown_81 (by decide) rfl 83 rfl ?_
                refine g_iload hX dM_shown_83 rfl 85 rfl ?_
                refine g_if_le hX dM_shown_85 122 88 (by decide) rfl (fun c85 => ?_) (fun c85 => ?_)
                · refine g_iinc hX (L' := [_, _, _, _, _, _, _, _, _]) dM_shown_122 rfl (q_inc _) rfl 125 rfl ?_
                  refine g_goto hX dM_shown_125 8 (by decide) ?_
                  refine g_drop (L' := [_, _, _, _, _, _, none, _, _]) 6 rfl ?_
                  refine g_drop (L' := [_, _, _, _, _, _, none, none, _]) 7 rfl ?_
                  refine g_drop (L' := [_, _, _, _, _, _, none, none, none]) 8 rfl ?_
                  have hye := q_shown_yes (S := S) (j := j) (e := e) (v := v) ⟨q_inj c25 hb1 hj, c36⟩
                  have c85p : ¬ 0 < q_stage S e := Int32.not_lt.mpr c85
                  exact ih (e + 1) _ _ (by omega) (by rw [hye]; show _ = ite _ _ _; rw [if_neg c85p]; simp_all [q_come]) (by rw [hye]; rfl)
                · refine g_iload hX dM_shown_88 rfl 90 rfl ?_
                  refine g_iconst hX dM_shown_90 (v := 2) (by decide) 91 rfl ?_
                  refine g_icmp_ne hX dM_shown_91 98 94 (by decide) rfl (fun c91 => ?_) (fun c91 => ?_)
                  · refine g_aload_n hX dM_shown_98 rfl rfl (by first | rfl | exact g_rfr _) 99 rfl ?_
                    refine g_iload_n hX dM_shown_99 rfl rfl 100 rfl ?_
                    refine g_iload hX dM_shown_100 rfl 102 rfl ?_
                    refine g_cV2r (wt := 0) hX (c_M_part hX.tr hW ⟨hnp, hns, hne, hpar, hhome, hact⟩ hen (q_stage1 (by rcases hsc with q | q | q; (rw [q] at c85; exact absurd (by decide) c85); exact q; exact absurd q c91)) v) dM_shown_102 (w_m hW) kM_158 (g_rm.of hR (by decide) (by decide)) (by first | exact Nat.zero_le _ | (rw [hR]; decide)) (by first | exact Nat.zero_le _ | (rw [hR]; decide)) (by first | decide | (simp [Value.category])) 105 rfl ?_
                    refine g_istore hX (L' := [_, _, _, _, _, _, _, _, _]) dM_shown_105 (by decide) rfl 107 rfl ?_
                    refine g_iload hX dM_shown_107 rfl 109 rfl ?_
                    refine g_if_eq hX dM_shown_109 117 112 (by decide) rfl (fun c109 => ?_) (fun c109 => ?_)
                    · refine g_iload_n hX dM_shown_117 rfl rfl 118 rfl ?_
                      refine g_iload hX dM_shown_118 rfl 120 rfl ?_
                      refine g_isub hX dM_shown_120 121 rfl ?_
                      refine g_istore_n hX (L' := [_, _, _, _, _, _, _, _, _]) dM_shown_121 rfl (by decide) rfl 122 rfl ?_
                      refine g_iinc hX (L' := [_, _, _, _, _, _, _, _, _]) dM_shown_122 rfl (q_inc _) rfl 125 rfl ?_
                      refine g_goto hX dM_shown_125 8 (by decide) ?_
                      refine g_drop (L' := [_, _, _, _, _, _, none, _, _]) 6 rfl ?_
                      refine g_drop (L' := [_, _, _, _, _, _, none, none, _]) 7 rfl ?_
                      refine g_drop (L' := [_, _, _, _, _, _, none, none, none]) 8 rfl ?_
                      have hye := q_shown_yes (S := S) (j := j) (e := e) (v := v) ⟨q_inj c25 hb1 hj, c36⟩
                      have c85p : 0 < q_stage S e := Int32.not_le.mp c85
                      exact ih (e + 1) _ _ (by omega) (by rw [hye]; show _ = ite _ _ _; rw [if_pos c85p]; simp_all [q_come]) (by rw [hye]; rfl)
                    · refine g_iload hX dM_shown_112 rfl 114 rfl ?_
                      refine g_goto hX dM_shown_114 121 (by decide) ?_
                      refine g_istore_n hX (L' := [_, _, _, _, _, _, _, _, _]) dM_shown_121 rfl (by decide) rfl 122 rfl ?_
                      refine g_iinc hX (L' := [_, _, _, _, _, _, _, _, _]) dM_shown_122 rfl (q_inc _) rfl 125 rfl ?_
                      refine g_goto hX dM_shown_125 8 (by decide) ?_
                      refine g_drop (L' := [_, _, _, _, _, _, none, _, _]) 6 rfl ?_
                      refine g_drop (L' := [_, _, _, _, _, _, none, none, _]) 7 rfl ?_
                      refine g_drop (L' := [_, _, _, _, _, _, none, none, none]) 8 rfl ?_
                      have hye := q_shown_yes (S := S) (j := j) (e := e) (v := v) ⟨q_inj c25 hb1 hj, c36⟩
                      have c85p : 0 < q_stage S e := Int32.not_le.mp c85
                      exact ih (e + 1) _ _ (by omega) (by rw [hye]; show _ = ite _ _ _; rw [if_pos c85p]; simp_all [q_come]) (by rw [hye]; rfl)
                  · refine g_iload_n hX dM_shown_94 rfl rfl 95 rfl ?_
                    refine g_goto hX dM_shown_95 105 (by decide) ?_
                    refine g_istore hX (L' := [_, _, _, _, _, _, _, _, _]) dM_shown_105 (by decide) rfl 107 rfl ?_
                    refine g_iload hX dM_shown_107 rfl 109 rfl ?_
                    refine g_if_eq hX dM_shown_109 117 112 (by decide) rfl (fun c109 => ?_) (fun c109 => ?_)
                    · refine g_iload_n hX dM_shown_117 rfl rfl 118 rfl ?_
                      refine g_iload hX dM_shown_118 rfl 120 rfl ?_
                      refine g_isub hX dM_shown_120 121 rfl ?_
                      refine g_istore_n hX (L' := [_, _, _, _, _, _, _, _, _]) dM_shown_121 rfl (by decide) rfl 122 rfl ?_
                      refine g_iinc hX (L' := [_, _, _, _, _, _, _, _, _]) dM_shown_122 rfl (q_inc _) rfl 125 rfl ?_
                      refine g_goto hX dM_shown_125 8 (by decide) ?_
                      refine g_drop (L' := [_, _, _, _, _, _, none, _, _]) 6 rfl ?_
                      refine g_drop (L' := [_, _, _, _, _, _, none, none, _]) 7 rfl ?_
                      refine g_drop (L' := [_, _, _, _, _, _, none, none, none]) 8 rfl ?_
                      have hye := q_shown_yes (S := S) (j := j) (e := e) (v := v) ⟨q_inj c25 hb1 hj, c36⟩
                      have c85p : 0 < q_stage S e := Int32.not_le.mp c85
                      exact ih (e + 1) _ _ (by omega) (by rw [hye]; show _ = ite _ _ _; rw [if_pos c85p]; simp_all [q_come]) (by rw [hye]; rfl)
                    · refine g_iload hX dM_shown_112 rfl 114 rfl ?_
                      refine g_goto hX dM_shown_114 121 (by decide) ?_
                      refine g_istore_n hX (L' := [_, _, _, _, _, _, _, _, _]) dM_shown_121 rfl (by decide) rfl 122 rfl ?_
                      refine g_iinc hX (L' := [_, _, _, _, _, _, _, _, _]) dM_shown_122 rfl (q_inc _) rfl 125 rfl ?_
                      refine g_goto hX dM_shown_125 8 (by decide) ?_
                      refine g_drop (L' := [_, _, _, _, _, _, none, _, _]) 6 rfl ?_
                      refine g_drop (L' := [_, _, _, _, _, _, none, none, _]) 7 rfl ?_
                      refine g_drop (L' := [_, _, _, _, _, _, none, none, none]) 8 rfl ?_
                      have hye := q_shown_yes (S := S) (j := j) (e := e) (v := v) ⟨q_inj c25 hb1 hj, c36⟩
                      have c85p : 0 < q_stage S e := Int32.not_le.mp c85
                      exact ih (e + 1) _ _ (by omega) (by rw [hye]; show _ = ite _ _ _; rw [if_pos c85p]; simp_all [q_come]) (by rw [hye]; rfl)
          · refine g_iconst hX dM_shown_49 (v := 1) (by decide) 50 rfl ?_
            refine g_goto hX dM_shown_50 54 (by decide) ?_
            refine g_istore hX (L' := [_, _, _, _, _, _, _, _, _]) dM_shown_54 (by decide) rfl 56 rfl ?_
            refine g_aload_n hX dM_shown_56 rfl rfl (by first | rfl | exact g_rfr _) 57 rfl ?_
            refine g_iload hX dM_shown_57 rfl 59 rfl ?_
            refine g_cV1r (wt := 0) hX (c_M_stage hX.tr hW ⟨hnp, hns, hne, hpar, hhome, hact⟩ hen) dM_shown_59 (w_m hW) kM_148 (g_rm.of hR (by decide) (by decide)) (by first | exact Nat.zero_le _ | (rw [hR]; decide)) (by first | exact Nat.zero_le _ | (rw [hR]; decide)) (by first | decide | (simp [Value.category])) 62 rfl ?_
            refine g_istore hX (L' := [_, _, _, _, _, _, _, _, _]) dM_shown_62 (by decide) rfl 64 rfl ?_
            refine g_iload hX dM_shown_64 rfl 66 rfl ?_
            refine g_if_eq hX dM_shown_66 78 69 (by decide) rfl (fun c66 => ?_) (fun c66 => ?_)
            · refine g_iload_n hX dM_shown_78 rfl rfl 79 rfl ?_
              refine g_istore_n hX (L' := [_, _, _, _, _, _, _, _, _]) dM_shown_79 rfl (by decide) rfl 80 rfl ?_
              refine g_iconst hX dM_shown_80 (v := 0) (by decide) 81 rfl ?_
              refine g_istore hX (L' := [_, _, _, _, _, _, _, _, _]) dM_shown_81 (by decide) rfl 83 rfl ?_
              refine g_iload hX dM_shown_83 rfl 85 rfl ?_
              refine g_if_le hX dM_shown_85 122 88 (by decide) rfl (fun c85 => ?_) (fun c85 => ?_)
              · refine g_iinc hX (L' := [_, _, _, _, _, _, _, _, _]) dM_shown_122 rfl (q_inc _) rfl 125 rfl ?_
                refine g_goto hX dM_shown_125 8 (by decide) ?_
                refine g_drop (L' := [_, _, _, _, _, _, none, _, _]) 6 rfl ?_
                refine g_drop (L' := [_, _, _, _, _, _, none, none, _]) 7 rfl ?_
                refine g_drop (L' := [_, _, _, _, _, _, none, none, none]) 8 rfl ?_
                have hye := q_shown_yes (S := S) (j := j) (e := e) (v := v) ⟨q_inj c25 hb1 hj, c36⟩
                have c85p : ¬ 0 < q_stage S e := Int32.not_lt.mpr c85
                exact ih (e + 1) _ _ (by omega) (by rw [hye]; show _ = ite _ _ _; rw [if_neg c85p]; simp_all [q_come]) (by rw [hye]; rfl)
              · refine g_iload hX dM_shown_88 rfl 90 rfl ?_
                refine g_iconst hX dM_shown_90 (v := 2) (by decide) 91 rfl ?_
                refine g_icmp_ne hX dM_shown_91 98 94 (by decide) rfl (fun c91 => ?_) (fun c91 => ?_)
                · refine g_aload_n hX dM_shown_98 rfl rfl (by first | rfl | exact g_rfr _) 99 rfl ?_
                  refine g_iload_n hX dM_shown_99 rfl rfl 100 rfl ?_
                  refine g_iload hX dM_shown_100 rfl 102 rfl ?_
                  refine g_cV2r (wt := 0) hX (c_M_part hX.tr hW ⟨hnp, hns, hne, hpar, hhome, hact⟩ hen (q_stage1 (by rcases hsc with q | q | q; (rw [q] at c85; exact absurd (by decide) c85); exact q; exact absurd q c91)) v) dM_shown_102 (w_m hW) kM_158 (g_rm.of hR (by decide) (by decide)) (by first | exact Nat.zero_le _ | (rw [hR]; decide)) (by first | exact Nat.zero_le _ | (rw [hR]; decide)) (by first | decide | (simp [Value.category])) 105 rfl ?_
                  refine g_istore hX (L' := [_, _, _, _, _, _, _, _, _]) dM_shown_105 (by decide) rfl 107 rfl ?_
                  refine g_iload hX dM_shown_107 rfl 109 rfl ?_
                  refine g_if_eq hX dM_shown_109 117 112 (by decide) rfl (fun c109 => ?_) (fun c109 => ?_)
                  · refine g_iload_n hX dM_shown_117 rfl rfl 118 rfl ?_
                    refine g_iload hX dM_shown_118 rfl 120 rfl ?_
                    refine g_isub hX dM_shown_120 121 rfl ?_
                    refine g_istore_n hX (L' := [_, _, _, _, _, _, _, _, _]) dM_shown_121 rfl (by decide) rfl 122 rfl ?_
                    refine g_iinc hX (L' := [_, _, _, _, _, _, _, _, _]) dM_shown_122 rfl (q_inc _) rfl 125 rfl ?_
                    refine g_goto hX dM_shown_125 8 (by decide) ?_
                    refine g_drop (L' := [_, _, _, _, _, _, none, _, _]) 6 rfl ?_
                    refine g_drop (L' := [_, _, _, _, _, _, none, none, _]) 7 rfl ?_
                    refine g_drop (L' := [_, _, _, _, _, _, none, none, none]) 8 rfl ?_
                    have hye := q_shown_yes (S := S) (j := j) (e := e) (v := v) ⟨q_inj c25 hb1 hj, c36⟩
                    have c85p : 0 < q_stage S e := Int32.not_le.mp c85
                    exact ih (e + 1) _ _ (by omega) (by rw [hye]; show _ = ite _ _ _; rw [if_pos c85p]; simp_all [q_come]) (by rw [hye]; rfl)
                  · refine g_iload hX dM_shown_112 rfl 114 rfl ?_
                    refine g_goto hX dM_shown_114 121 (by decide) ?_
                    refine g_istore_n hX (L' := [_, _, _, _, _, _, _, _, _]) dM_shown_121 rfl (by decide) rfl 122 rfl ?_
                    refine g_iinc hX (L' := [_, _, _, _, _, _, _, _, _]) dM_shown_122 rfl (q_inc _) rfl 125 rfl ?_
                    refine g_goto hX dM_shown_125 8 (by decide) ?_
                    refine g_drop (L' := [_, _, _, _, _, _, none, _, _]) 6 rfl ?_
                    refine g_drop (L' := [_, _, _, _, _, _, none, none, _]) 7 rfl ?_
                    refine g_drop (L' := [_, _, _, _, _, _, none, none, none]) 8 rfl ?_
                    have hye := q_shown_yes (S := S) (j := j) (e := e) (v := v) ⟨q_inj c25 hb1 hj, c36⟩
                    have c85p : 0 < q_stage S e := Int32.not_le.mp c85
                    exact ih (e + 1) _ _ (by omega) (by rw [hye]; show _ = ite _ _ _; rw [if_pos c85p]; simp_all [q_come]) (by rw [hye]; rfl)
                · refine g_iload_n hX dM_shown_94 rfl rfl 95 rfl ?_
                  refine g_goto hX dM_shown_95 105 (by decide) ?_
                  refine g_istore hX (L' := [_, _, _, _, _, _, _, _, _]) dM_shown_105 (by decide) rfl 107 rfl ?_
                  refine g_iload hX dM_shown_107 rfl 109 rfl ?_
                  refine g_if_eq hX dM_shown_109 117 112 (by decide) rfl (fun c109 => ?_) (fun c109 => ?_)
                  · refine g_iload_n hX dM_shown_117 rfl rfl 118 rfl ?_
                    refine g_iload hX dM_shown_118 rfl 120 rfl ?_
                    refine g_isub hX dM_shown_120 121 rfl ?_
                    refine g_istore_n hX (L' := [_, _, _, _, _, _, _, _, _]) dM_shown_121 rfl (by decide) rfl 122 rfl ?_
                    refine g_iinc hX (L' := [_, _, _, _, _, _, _, _, _]) dM_shown_122 rfl (q_inc _) rfl 125 rfl ?_
                    refine g_goto hX dM_shown_125 8 (by decide) ?_
                    refine g_drop (L' := [_, _, _, _, _, _, none, _, _]) 6 rfl ?_
                    refine g_drop (L' := [_, _, _, _, _, _, none, none, _]) 7 rfl ?_
                    refine g_drop (L' := [_, _, _, _, _, _, none, none, none]) 8 rfl ?_
                    have hye := q_shown_yes (S := S) (j := j) (e := e) (v := v) ⟨q_inj c25 hb1 hj, c36⟩
                    have c85p : 0 < q_stage S e := Int32.not_le.mp c85
                    exact ih (e + 1) _ _ (by omega) (by rw [hye]; show _ = ite _ _ _; rw [if_pos c85p]; simp_all [q_come]) (by rw [hye]; rfl)
                  · refine g_iload hX dM_shown_112 rfl 114 rfl ?_
                    refine g_goto hX dM_shown_114 121 (by decide) ?_
                    refine g_istore_n hX (L' := [_, _, _, _, _, _, _, _, _]) dM_shown_121 rfl (by decide) rfl 122 rfl ?_
                    refine g_iinc hX (L' := [_, _, _, _, _, _, _, _, _]) dM_shown_122 rfl (q_inc _) rfl 125 rfl ?_
                    refine g_goto hX dM_shown_125 8 (by decide) ?_
                    refine g_drop (L' := [_, _, _, _, _, _, none, _, _]) 6 rfl ?_
                    refine g_drop (L' := [_, _, _, _, _, _, none, none, _]) 7 rfl ?_
                    refine g_drop (L' := [_, _, _, _, _, _, none, none, none]) 8 rfl ?_
                    have hye := q_shown_yes (S := S) (j := j) (e := e) (v := v) ⟨q_inj c25 hb1 hj, c36⟩
                    have c85p : 0 < q_stage S e := Int32.not_le.mp c85
                    exact ih (e + 1) _ _ (by omega) (by rw [hye]; show _ = ite _ _ _; rw [if_pos c85p]; simp_all [q_come]) (by rw [hye]; rfl)
            · refine g_iload hX dM_shown_69 rfl 71 rfl ?_
              refine g_if_eq hX dM_shown_71 78 74 (by decide) rfl (fun c71 => ?_) (fun c71 => ?_)
              · refine g_iload_n hX dM_shown_78 rfl rfl 79 rfl ?_
                refine g_istore_n hX (L' := [_, _, _, _, _, _, _, _, _]) dM_shown_79 rfl (by decide) rfl 80 rfl ?_
                refine g_iconst hX dM_shown_80 (v := 0) (by decide) 81 rfl ?_
                refine g_istore hX (L' := [_, _, _, _, _, _, _, _, _]) dM_shown_81 (by decide) rfl 83 rfl ?_
                refine g_iload hX dM_shown_83 rfl 85 rfl ?_
                refine g_if_le hX dM_shown_85 122 88 (by decide) rfl (fun c85 => ?_) (fun c85 => ?_)
                · refine g_iinc hX (L' := [_, _, _, _, _, _, _, _, _]) dM_shown_122 rfl (q_inc _) rfl 125 rfl ?_
                  refine g_goto hX dM_shown_125 8 (by decide) ?_
                  refine g_drop (L' := [_, _, _, _, _, _, none, _, _]) 6 rfl ?_
                  refine g_drop (L' := [_, _, _, _, _, _, none, none, _]) 7 rfl ?_
                  refine g_drop (L' := [_, _, _, _, _, _, none, none, none]) 8 rfl ?_
                  have hye := q_shown_yes (S := S) (j := j) (e := e) (v := v) ⟨q_inj c25 hb1 hj, c36⟩
                  have c85p : ¬ 0 < q_stage S e := Int32.not_lt.mpr c85
                  exact ih (e + 1) _ _ (by omega) (by rw [hye]; show _ = ite _ _ _; rw [if_neg c85p]; simp_all [q_come]) (by rw [hye]; rfl)
                · refine g_iload hX dM_shown_88 rfl 90 rfl ?_
                  refine g_iconst hX dM_shown_90 (v := 2) (by decide) 91 rfl ?_
                  refine g_icmp_ne hX dM_shown_91 98 94 (by decide) rfl (fun c91 => ?_) (fun c91 => ?_)
                  · refine g_aload_n hX dM_shown_98 rfl rfl (by first | rfl | exact g_rfr _) 99 rfl ?_
                    refine g_iload_n hX dM_shown_99 rfl rfl 100 rfl ?_
                    refine g_iload hX dM_shown_100 rfl 102 rfl ?_
                    refine g_cV2r (wt := 0) hX (c_M_part hX.tr hW ⟨hnp, hns, hne, hpar, hhome, hact⟩ hen (q_stage1 (by rcases hsc with q | q | q; (rw [q] at c85; exact absurd (by decide) c85); exact q; exact absurd q c91)) v) dM_shown_102 (w_m hW) kM_158 (g_rm.of hR (by decide) (by decide)) (by first | exact Nat.zero_le _ | (rw [hR]; decide)) (by first | exact Nat.zero_le _ | (rw [hR]; decide)) (by first | decide | (simp [Value.category])) 105 rfl ?_
                    refine g_istore hX (L' := [_, _, _, _, _, _, _, _, _]) dM_shown_105 (by decide) rfl 107 rfl ?_
                    refine g_iload hX dM_shown_107 rfl 109 rfl ?_
                    refine g_if_eq hX dM_shown_109 117 112 (by decide) rfl (fun c109 => ?_) (fun c109 => ?_)
                    · refine g_iload_n hX dM_shown_117 rfl rfl 118 rfl ?_
                      refine g_iload hX dM_shown_118 rfl 120 rfl ?_
                      refine g_isub hX dM_shown_120 121 rfl ?_
                      refine g_istore_n hX (L' := [_, _, _, _, _, _, _, _, _]) dM_shown_121 rfl (by decide) rfl 122 rfl ?_
                      refine g_iinc hX (L' := [_, _, _, _, _, _, _, _, _]) dM_shown_122 rfl (q_inc _) rfl 125 rfl ?_
                      refine g_goto hX dM_shown_125 8 (by decide) ?_
                      refine g_drop (L' := [_, _, _, _, _, _, none, _, _]) 6 rfl ?_
                      refine g_drop (L' := [_, _, _, _, _, _, none, none, _]) 7 rfl ?_
                      refine g_drop (L' := [_, _, _, _, _, _, none, none, none]) 8 rfl ?_
                      have hye := q_shown_yes (S := S) (j := j) (e := e) (v := v) ⟨q_inj c25 hb1 hj, c36⟩
                      have c85p : 0 < q_stage S e := Int32.not_le.mp c85
                      exact ih (e + 1) _ _ (by omega) (by rw [hye]; show _ = ite _ _ _; rw [if_pos c85p]; simp_all [q_come]) (by rw [hye]; rfl)
                    · refine g_iload hX dM_shown_112 rfl 114 rfl ?_
                      refine g_goto hX dM_shown_114 121 (by decide) ?_
                      refine g_istore_n hX (L' := [_, _, _, _, _, _, _, _, _]) dM_shown_121 rfl (by decide) rfl 122 rfl ?_
                      refine g_iinc hX (L' := [_, _, _, _, _, _, _, _, _]) dM_shown_122 rfl (q_inc _) rfl 125 rfl ?_
                      refine g_goto hX dM_shown_125 8 (by decide) ?_
                      refine g_drop (L' := [_, _, _, _, _, _, none, _, _]) 6 rfl ?_
                      refine g_drop (L' := [_, _, _, _, _, _, none, none, _]) 7 rfl ?_
                      refine g_drop (L' := [_, _, _, _, _, _, none, none, none]) 8 rfl ?_
                      have hye := q_shown_yes (S := S) (j := j) (e := e) (v := v) ⟨q_inj c25 hb1 hj, c36⟩
                      have c85p : 0 < q_stage S e := Int32.not_le.mp c85
                      exact ih (e + 1) _ _ (by omega) (by rw [hye]; show _ = ite _ _ _; rw [if_pos c85p]; simp_all [q_come]) (by rw [hye]; rfl)
                  · refine g_iload_n hX dM_shown_94 rfl rfl 95 rfl ?_
                    refine g_goto hX dM_shown_95 105 (by decide) ?_
                    refine g_istore hX (L' := [_, _, _, _, _, _, _, _, _]) dM_shown_105 (by decide) rfl 107 rfl ?_
                    refine g_iload hX dM_shown_107 rfl 109 rfl ?_
                    refine g_if_eq hX dM_shown_109 117 112 (by decide) rfl (fun c109 => ?_) (fun c109 => ?_)
                    · refine g_iload_n hX dM_shown_117 rfl rfl 118 rfl ?_
                      refine g_iload hX dM_shown_118 rfl 120 rfl ?_
                      refine g_isub hX dM_shown_120 121 rfl ?_
                      refine g_istore_n hX (L' := [_, _, _, _, _, _, _, _, _]) dM_shown_121 rfl (by decide) rfl 122 rfl ?_
                      refine g_iinc hX (L' := [_, _, _, _, _, _, _, _, _]) dM_shown_122 rfl (q_inc _) rfl 125 rfl ?_
                      refine g_goto hX dM_shown_125 8 (by decide) ?_
                      refine g_drop (L' := [_, _, _, _, _, _, none, _, _]) 6 rfl ?_
                      refine g_drop (L' := [_, _, _, _, _, _, none, none, _]) 7 rfl ?_
                      refine g_drop (L' := [_, _, _, _, _, _, none, none, none]) 8 rfl ?_
                      have hye := q_shown_yes (S := S) (j := j) (e := e) (v := v) ⟨q_inj c25 hb1 hj, c36⟩
                      have c85p : 0 < q_stage S e := Int32.not_le.mp c85
                      exact ih (e + 1) _ _ (by omega) (by rw [hye]; show _ = ite _ _ _; rw [if_pos c85p]; simp_all [q_come]) (by rw [hye]; rfl)
                    · refine g_iload hX dM_shown_112 rfl 114 rfl ?_
                      refine g_goto hX dM_shown_114 121 (by decide) ?_
                      refine g_istore_n hX (L' := [_, _, _, _, _, _, _, _, _]) dM_shown_121 rfl (by decide) rfl 122 rfl ?_
                      refine g_iinc hX (L' := [_, _, _, _, _, _, _, _, _]) dM_shown_122 rfl (q_inc _) rfl 125 rfl ?_
                      refine g_goto hX dM_shown_125 8 (by decide) ?_
                      refine g_drop (L' := [_, _, _, _, _, _, none, _, _]) 6 rfl ?_
                      refine g_drop (L' := [_, _, _, _, _, _, none, none, _]) 7 rfl ?_
                      refine g_drop (L' := [_, _, _, _, _, _, none, none, none]) 8 rfl ?_
                      have hye := q_shown_yes (S := S) (j := j) (e := e) (v := v) ⟨q_inj c25 hb1 hj, c36⟩
                      have c85p : 0 < q_stage S e := Int32.not_le.mp c85
                      exact ih (e + 1) _ _ (by omega) (by rw [hye]; show _ = ite _ _ _; rw [if_pos c85p]; simp_all [q_come]) (by rw [hye]; rfl)
              · refine g_iconst hX dM_shown_74 (v := 0) (by decide) 75 rfl ?_
                refine g_goto hX dM_shown_75 79 (by decide) ?_
                refine g_istore_n hX (L' := [_, _, _, _, _, _, _, _, _]) dM_shown_79 rfl (by decide) rfl 80 rfl ?_
                refine g_iconst hX dM_shown_80 (v := 0) (by decide) 81 rfl ?_
                refine g_istore hX (L' := [_, _, _, _, _, _, _, _, _]) dM_shown_81 (by decide) rfl 83 rfl ?_
                refine g_iload hX dM_shown_83 rfl 85 rfl ?_
                refine g_if_le hX dM_shown_85 122 88 (by decide) rfl (fun c85 => ?_) (fun c85 => ?_)
                · refine g_iinc hX (L' := [_, _, _, _, _, _, _, _, _]) dM_shown_122 rfl (q_inc _) rfl 125 rfl ?_
                  refine g_goto hX dM_shown_125 8 (by decide) ?_
                  refine g_drop (L' := [_, _, _, _, _, _, none, _, _]) 6 rfl ?_
                  refine g_drop (L' := [_, _, _, _, _, _, none, none, _]) 7 rfl ?_
                  refine g_drop (L' := [_, _, _, _, _, _, none, none, none]) 8 rfl ?_
                  have hye := q_shown_yes (S := S) (j := j) (e := e) (v := v) ⟨q_inj c25 hb1 hj, c36⟩
                  have c85p : ¬ 0 < q_stage S e := Int32.not_lt.mpr c85
                  exact ih (e + 1) _ _ (by omega) (by rw [hye]; show _ = ite _ _ _; rw [if_neg c85p]; simp_all [q_come]) (by rw [hye]; rfl)
                · refine g_iload hX dM_shown_88 rfl 90 rfl ?_
                  refine g_iconst hX dM_shown_90 (v := 2) (by decide) 91 rfl ?_
                  refine g_icmp_ne hX dM_shown_91 98 94 (by decide) rfl (fun c91 => ?_) (fun c91 => ?_)
                  · refine g_aload_n hX dM_shown_98 rfl rfl (by first | rfl | exact g_rfr _) 99 rfl ?_
                    refine g_iload_n hX dM_shown_99 rfl rfl 100 rfl ?_
                    refine g_iload hX dM_shown_100 rfl 102 rfl ?_
                    refine g_cV2r (wt := 0) hX (c_M_part hX.tr hW ⟨hnp, hns, hne, hpar, hhome, hact⟩ hen (q_stage1 (by rcases hsc with q | q | q; (rw [q] at c85; exact absurd (by decide) c85); exact q; exact absurd q c91)) v) dM_shown_102 (w_m hW) kM_158 (g_rm.of hR (by decide) (by decide)) (by first | exact Nat.zero_le _ | (rw [hR]; decide)) (by first | exact Nat.zero_le _ | (rw [hR]; decide)) (by first | decide | (simp [Value.category])) 105 rfl ?_
                    refine g_istore hX (L' := [_, _, _, _, _, _, _, _, _]) dM_shown_105 (by decide) rfl 107 rfl ?_
                    refine g_iload hX dM_shown_107 rfl 109 rfl ?_
                    refine g_if_eq hX dM_shown_109 117 112 (by decide) rfl (fun c109 => ?_) (fun c109 => ?_)
                    · refine g_iload_n hX dM_shown_117 rfl rfl 118 rfl ?_
                      refine g_iload hX dM_shown_118 rfl 120 rfl ?_
                      refine g_isub hX dM_shown_120 121 rfl ?_
                      refine g_istore_n hX (L' := [_, _, _, _, _, _, _, _, _]) dM_shown_121 rfl (by decide) rfl 122 rfl ?_
                      refine g_iinc hX (L' := [_, _, _, _, _, _, _, _, _]) dM_shown_122 rfl (q_inc _) rfl 125 rfl ?_
                      refine g_goto hX dM_shown_125 8 (by decide) ?_
                      refine g_drop (L' := [_, _, _, _, _, _, none, _, _]) 6 rfl ?_
                      refine g_drop (L' := [_, _, _, _, _, _, none, none, _]) 7 rfl ?_
                      refine g_drop (L' := [_, _, _, _, _, _, none, none, none]) 8 rfl ?_
                      have hye := q_shown_yes (S := S) (j := j) (e := e) (v := v) ⟨q_inj c25 hb1 hj, c36⟩
                      have c85p : 0 < q_stage S e := Int32.not_le.mp c85
                      exact ih (e + 1) _ _ (by omega) (by rw [hye]; show _ = ite _ _ _; rw [if_pos c85p]; simp_all [q_come]) (by rw [hye]; rfl)
                    · refine g_iload hX dM_shown_112 rfl 114 rfl ?_
                      refine g_goto hX dM_shown_114 121 (by decide) ?_
                      refine g_istore_n hX (L' := [_, _, _, _, _, _, _, _, _]) dM_shown_121 rfl (by decide) rfl 122 rfl ?_
                      refine g_iinc hX (L' := [_, _, _, _, _, _, _, _, _]) dM_shown_122 rfl (q_inc _) rfl 125 rfl ?_
                      refine g_goto hX dM_shown_125 8 (by decide) ?_
                      refine g_drop (L' := [_, _, _, _, _, _, none, _, _]) 6 rfl ?_
                      refine g_drop (L' := [_, _, _, _, _, _, none, none, _]) 7 rfl ?_
                      refine g_drop (L' := [_, _, _, _, _, _, none, none, none]) 8 rfl ?_
                      have hye := q_shown_yes (S := S) (j := j) (e := e) (v := v) ⟨q_inj c25 hb1 hj, c36⟩
                      have c85p : 0 < q_stage S e := Int32.not_le.mp c85
                      exact ih (e + 1) _ _ (by omega) (by rw [hye]; show _ = ite _ _ _; rw [if_pos c85p]; simp_all [q_come]) (by rw [hye]; rfl)
                  · refine g_iload_n hX dM_shown_94 rfl rfl 95 rfl ?_
                    refine g_goto hX dM_shown_95 105 (by decide) ?_
                    refine g_istore hX (L' := [_, _, _, _, _, _, _, _, _]) dM_shown_105 (by decide) rfl 107 rfl ?_
                    refine g_iload hX dM_shown_107 rfl 109 rfl ?_
                    refine g_if_eq hX dM_shown_109 117 112 (by decide) rfl (fun c109 => ?_) (fun c109 => ?_)
                    · refine g_iload_n hX dM_shown_117 rfl rfl 118 rfl ?_
                      refine g_iload hX dM_shown_118 rfl 120 rfl ?_
                      refine g_isub hX dM_shown_120 121 rfl ?_
                      refine g_istore_n hX (L' := [_, _, _, _, _, _, _, _, _]) dM_shown_121 rfl (by decide) rfl 122 rfl ?_
                      refine g_iinc hX (L' := [_, _, _, _, _, _, _, _, _]) dM_shown_122 rfl (q_inc _) rfl 125 rfl ?_
                      refine g_goto hX dM_shown_125 8 (by decide) ?_
                      refine g_drop (L' := [_, _, _, _, _, _, none, _, _]) 6 rfl ?_
                      refine g_drop (L' := [_, _, _, _, _, _, none, none, _]) 7 rfl ?_
                      refine g_drop (L' := [_, _, _, _, _, _, none, none, none]) 8 rfl ?_
                      have hye := q_shown_yes (S := S) (j := j) (e := e) (v := v) ⟨q_inj c25 hb1 hj, c36⟩
                      have c85p : 0 < q_stage S e := Int32.not_le.mp c85
                      exact ih (e + 1) _ _ (by omega) (by rw [hye]; show _ = ite _ _ _; rw [if_pos c85p]; simp_all [q_come]) (by rw [hye]; rfl)
                    · refine g_iload hX dM_shown_112 rfl 114 rfl ?_
                      refine g_goto hX dM_shown_114 121 (by decide) ?_
                      refine g_istore_n hX (L' := [_, _, _, _, _, _, _, _, _]) dM_shown_121 rfl (by decide) rfl 122 rfl ?_
                      refine g_iinc hX (L' := [_, _, _, _, _, _, _, _, _]) dM_shown_122 rfl (q_inc _) rfl 125 rfl ?_
                      refine g_goto hX dM_shown_125 8 (by decide) ?_
                      refine g_drop (L' := [_, _, _, _, _, _, none, _, _]) 6 rfl ?_
                      refine g_drop (L' := [_, _, _, _, _, _, none, none, _]) 7 rfl ?_
                      refine g_drop (L' := [_, _, _, _, _, _, none, none, none]) 8 rfl ?_
                      have hye := q_shown_yes (S := S) (j := j) (e := e) (v := v) ⟨q_inj c25 hb1 hj, c36⟩
                      have c85p : 0 < q_stage S e := Int32.not_le.mp c85
                      exact ih (e + 1) _ _ (by omega) (by rw [hye]; show _ = ite _ _ _; rw [if_pos c85p]; simp_all [q_come]) (by rw [hye]; rfl)
set_option maxRecDepth 100000 in
set_option maxHeartbeats 4000000 in
theorem c_M_shown {l : Launch} (hl : l.stackTraces = false) {E : g_E} {A : w_A} {S : q_S} {h : g_H} (hW : r_W E A S h) (hB : w_B S) {j : Nat} (hj : j < 2 ^ 31) (v : Int32)  : g_Rd l mM_shown 3 45 [.ref (A 30 0), .int (nI j), .int v] E h (some (.int (q_shown S j v (q_ne S)).1)) := by
  refine g_Rd.of hl (by decide) rfl (Nat.le_of_ble_eq_true rfl) ?_
  intro X hX hXl hR
  obtain ⟨hnp, hns, hne, hpar, hhome, hact⟩ := hB
  show g_Go E X _ h true 0 0 0 [some (.ref (A 30 0)), some (.int (nI j)), some (.int v), none, none, none, none, none, none] []
  refine g_iload_n hX dM_shown_0 rfl rfl 1 rfl ?_
  refine g_istore_n hX (L' := [_, _, _, _, _, _, _, _, _]) dM_shown_1 rfl (by decide) rfl 2 rfl ?_
  refine g_iconst hX dM_shown_2 (v := 1) (by decide) 3 rfl ?_
  refine g_istore hX (L' := [_, _, _, _, _, _, _, _, _]) dM_shown_3 (by decide) rfl 5 rfl ?_
  refine g_iconst hX dM_shown_5 (v := 0) (by decide) 6 rfl ?_
  refine g_istore hX (L' := [_, _, _, _, _, _, _, _, _]) dM_shown_6 (by decide) rfl 8 rfl ?_
  have hlp := lp_M_shown hW ⟨hnp, hns, hne, hpar, hhome, hact⟩ hX hR hj (v := v) (q_ne S) 0 v 1 (by omega) rfl rfl
  rw [nI_0] at hlp
  exact hlp
set_option maxRecDepth 100000 in
set_option maxHeartbeats 4000000 in
theorem c_M_valueNow {l : Launch} (hl : l.stackTraces = false) {E : g_E} {A : w_A} {S : q_S} {h : g_H} (hW : r_W E A S h) (hB : w_B S) {j pr : Nat} (hj : j < q_ns S) (hpr : pr < 7)  : g_Rd l mM_valueNow 4 65 [.ref (A 30 0), .int (nI j), .int (nI pr)] E h (some (.int (q_now S j pr))) := by
  refine g_Rd.of hl (by decide) rfl (Nat.le_of_ble_eq_true rfl) ?_
  intro X hX hXl hR
  obtain ⟨hnp, hns, hne, hpar, hhome, hact⟩ := hB
  show g_Go E X _ h true 0 0 0 [some (.ref (A 30 0)), some (.int (nI j)), some (.int (nI pr)), none] []
  refine g_aload_n hX dM_valueNow_0 rfl rfl (by first | rfl | exact g_rfr _) 1 rfl ?_
  refine g_iload_n hX dM_valueNow_1 rfl rfl 2 rfl ?_
  refine g_iload_n hX dM_valueNow_2 rfl rfl 3 rfl ?_
  refine g_cV2r (wt := 0) hX (c_M_value hX.tr hW ⟨hnp, hns, hne, hpar, hhome, hact⟩ hj hpr) dM_valueNow_3 (w_m hW) kM_107 (g_rm.of hR (by decide) (by decide)) (by first | exact Nat.zero_le _ | (rw [hR]; decide)) (by first | exact Nat.zero_le _ | (rw [hR]; decide)) (by first | decide | (simp [Value.category])) 6 rfl ?_
  refine g_istore_n hX (L' := [_, _, _, _]) dM_valueNow_6 rfl (by decide) rfl 7 rfl ?_
  refine g_aload_n hX dM_valueNow_7 rfl rfl (by first | rfl | exact g_rfr _) 8 rfl ?_
  refine g_get hX dM_valueNow_8 fM_16 (w_m hW) rfl 11 rfl ?_
  refine g_iload_n hX dM_valueNow_11 rfl rfl 12 rfl ?_
  refine g_iald hX dM_valueNow_12 (w_ar hW _ (by decide)) (g_ix.nat (by omega) (by decide)) 13 rfl ?_
  refine g_aload_n hX dM_valueNow_13 rfl rfl (by first | rfl | exact g_rfr _) 14 rfl ?_
  refine g_aload_n hX dM_valueNow_14 rfl rfl (by first | rfl | exact g_rfr _) 15 rfl ?_
  refine g_get hX dM_valueNow_15 fM_142 (w_m hW) rfl 18 rfl ?_
  refine g_cV1r (wt := 1) hX (c_M_slide hX.tr hW ⟨hnp, hns, hne, hpar, hhome, hact⟩ (nI (q_at S))) dM_valueNow_18 (w_m hW) kM_145 (g_rm.of hR (by decide) (by decide)) (by first | exact Nat.zero_le _ | (rw [hR]; decide)) (by first | exact Nat.zero_le _ | (rw [hR]; decide)) (by first | decide | (simp [Value.category])) 21 rfl ?_
  refine g_icmp_eq hX dM_valueNow_21 26 24 (by decide) rfl (fun c21 => ?_) (fun c21 => ?_)
  · refine g_iload_n hX dM_valueNow_26 rfl rfl 27 rfl ?_
    refine g_if_ne hX dM_valueNow_27 41 30 (by decide) rfl (fun c27 => ?_) (fun c27 => ?_)
    · refine g_iload_n hX dM_valueNow_41 rfl rfl 42 rfl ?_
      refine g_iconst hX dM_valueNow_42 (v := 1) (by decide) 43 rfl ?_
      refine g_icmp_ne hX dM_valueNow_43 57 46 (by decide) rfl (fun c43 => ?_) (fun c43 => ?_)
      · refine g_iload_n hX dM_valueNow_57 rfl rfl 58 rfl ?_
        refine g_iconst hX dM_valueNow_58 (v := 5) (by decide) 59 rfl ?_
        refine g_icmp_ne hX dM_valueNow_59 71 62 (by decide) rfl (fun c59 => ?_) (fun c59 => ?_)
        · refine g_iload_n hX dM_valueNow_71 rfl rfl 72 rfl ?_
          exact g_iret hX rfl rfl dM_valueNow_72 ⟨by unfold q_now; simp_all, rfl⟩ rfl (Nat.zero_le _) (Nat.zero_le _)
        · refine g_aload_n hX dM_valueNow_62 rfl rfl (by first | rfl | exact g_rfr _) 63 rfl ?_
          refine g_iload_n hX dM_valueNow_63 rfl rfl 64 rfl ?_
          refine g_iload_n hX dM_valueNow_64 rfl rfl 65 rfl ?_
          refine g_cV2r (wt := 0) hX (c_M_shown hX.tr hW ⟨hnp, hns, hne, hpar, hhome, hact⟩ (j := j) (by omega) (q_value S j pr)) dM_valueNow_65 (w_m hW) kM_164 (g_rm.of hR (by decide) (by decide)) (by first | exact Nat.zero_le _ | (rw [hR]; decide)) (by first | exact Nat.zero_le _ | (rw [hR]; decide)) (by first | decide | (simp [Value.category])) 68 rfl ?_
          refine g_goto hX dM_valueNow_68 72 (by decide) ?_
          exact g_iret hX rfl rfl dM_valueNow_72 ⟨by unfold q_now; simp_all, rfl⟩ rfl (Nat.zero_le _) (Nat.zero_le _)
      · refine g_iload_n hX dM_valueNow_46 rfl rfl 47 rfl ?_
        refine g_aload_n hX dM_valueNow_47 rfl rfl (by first | rfl | exact g_rfr _) 48 rfl ?_
        refine g_iload_n hX dM_valueNow_48 rfl rfl 49 rfl ?_
        refine g_iconst hX dM_valueNow_49 (v := 3) (by decide) 50 rfl ?_
        refine g_cV2r (wt := 1) hX (c_M_moved hX.tr hW ⟨hnp, hns, hne, hpar, hhome, hact⟩ (j := j) (by omega) 3) dM_valueNow_50 (w_m hW) kM_161 (g_rm.of hR (by decide) (by decide)) (by first | exact Nat.zero_le _ | (rw [hR]; decide)) (by first | exact Nat.zero_le _ | (rw [hR]; decide)) (by first | decide | (simp [Value.category])) 53 rfl ?_
        refine g_iadd hX dM_valueNow_53 54 rfl ?_
        refine g_goto hX dM_valueNow_54 72 (by decide) ?_
        exact g_iret hX rfl rfl dM_valueNow_72 ⟨by unfold q_now; simp_all, rfl⟩ rfl (Nat.zero_le _) (Nat.zero_le _)
    · refine g_iload_n hX dM_valueNow_30 rfl rfl 31 rfl ?_
      refine g_aload_n hX dM_valueNow_31 rfl rfl (by first | rfl | exact g_rfr _) 32 rfl ?_
      refine g_iload_n hX dM_valueNow_32 rfl rfl 33 rfl ?_
      refine g_iconst hX dM_valueNow_33 (v := 2) (by decide) 34 rfl ?_
      refine g_cV2r (wt := 1) hX (c_M_moved hX.tr hW ⟨hnp, hns, hne, hpar, hhome, hact⟩ (j := j) (by omega) 2) dM_valueNow_34 (w_m hW) kM_161 (g_rm.of hR (by decide) (by decide)) (by first | exact Nat.zero_le _ | (rw [hR]; decide)) (by first | exact Nat.zero_le _ | (rw [hR]; decide)) (by first | decide | (simp [Value.category])) 37 rfl ?_
      refine g_iadd hX dM_valueNow_37 38 rfl ?_
      refine g_goto hX dM_valueNow_38 72 (by decide) ?_
      exact g_iret hX rfl rfl dM_valueNow_72 ⟨by unfold q_now; simp_all, rfl⟩ rfl (Nat.zero_le _) (Nat.zero_le _)
  · refine g_iload_n hX dM_valueNow_24 rfl rfl 25 rfl ?_
    exact g_iret hX rfl rfl dM_valueNow_25 ⟨by unfold q_now; simp_all, rfl⟩ rfl (Nat.zero_le _) (Nat.zero_le _)
set_option maxRecDepth 100000 in
set_option maxHeartbeats 4000000 in
theorem c_M_covers {l : Launch} (hl : l.stackTraces = false) {E : g_E} {A : w_A} {S : q_S} {h : g_H} (hW : r_W E A S h) (hB : w_B S) {j : Nat} (hj : j < q_ns S) (x y : Int32)  : g_Rd l mM_covers 5 80 [.ref (A 30 0), .int (nI j), .int x, .int y] E h (some (.int (q_cov S j x y))) := by
  refine g_Rd.of hl (by decide) rfl (Nat.le_of_ble_eq_true rfl) ?_
  intro X hX hXl hR
  obtain ⟨hnp, hns, hne, hpar, hhome, hact⟩ := hB
  show g_Go E X _ h true 0 0 0 [some (.ref (A 30 0)), some (.int (nI j)), some (.int x), some (.int y), none, none] []
  refine g_aload_n hX dM_covers_0 rfl rfl (by first | rfl | exact g_rfr _) 1 rfl ?_
  refine g_iload_n hX dM_covers_1 rfl rfl 2 rfl ?_
  refine g_iconst hX dM_covers_2 (v := 0) (by decide) 3 rfl ?_
  refine g_cV2r (wt := 0) hX (c_M_valueNow hX.tr hW ⟨hnp, hns, hne, hpar, hhome, hact⟩ (pr := 0) hj (by decide)) dM_covers_3 (w_m hW) kM_167 (g_rm.of hR (by decide) (by decide)) (by first | exact Nat.zero_le _ | (rw [hR]; decide)) (by first | exact Nat.zero_le _ | (rw [hR]; decide)) (by first | decide | (simp [Value.category])) 6 rfl ?_
  refine g_istore hX (L' := [_, _, _, _, _, _]) dM_covers_6 (by decide) rfl 8 rfl ?_
  refine g_aload_n hX dM_covers_8 rfl rfl (by first | rfl | exact g_rfr _) 9 rfl ?_
  refine g_iload_n hX dM_covers_9 rfl rfl 10 rfl ?_
  refine g_iconst hX dM_covers_10 (v := 1) (by decide) 11 rfl ?_
  refine g_cV2r (wt := 0) hX (c_M_valueNow hX.tr hW ⟨hnp, hns, hne, hpar, hhome, hact⟩ (pr := 1) hj (by decide)) dM_covers_11 (w_m hW) kM_167 (g_rm.of hR (by decide) (by decide)) (by first | exact Nat.zero_le _ | (rw [hR]; decide)) (by first | exact Nat.zero_le _ | (rw [hR]; decide)) (by first | decide | (simp [Value.category])) 14 rfl ?_
  refine g_istore hX (L' := [_, _, _, _, _, _]) dM_covers_14 (by decide) rfl 16 rfl ?_
  refine g_iload_n hX dM_covers_16 rfl rfl 17 rfl ?_
  refine g_iload hX dM_covers_17 rfl 19 rfl ?_
  refine g_icmp_lt hX dM_covers_19 58 22 (by decide) rfl (fun c19 => ?_) (fun c19 => ?_)
  · refine g_iconst hX dM_covers_58 (v := 0) (by decide) 59 rfl ?_
    exact g_iret hX rfl rfl dM_covers_59 ⟨by unfold q_cov; rw [if_pos c19], rfl⟩ rfl (Nat.zero_le _) (Nat.zero_le _)
  · refine g_iload_n hX dM_covers_22 rfl rfl 23 rfl ?_
    refine g_iload hX dM_covers_23 rfl 25 rfl ?_
    refine g_aload_n hX dM_covers_25 rfl rfl (by first | rfl | exact g_rfr _) 26 rfl ?_
    refine g_iload_n hX dM_covers_26 rfl rfl 27 rfl ?_
    refine g_iconst hX dM_covers_27 (v := 2) (by decide) 28 rfl ?_
    refine g_cV2r (wt := 2) hX (c_M_value hX.tr hW ⟨hnp, hns, hne, hpar, hhome, hact⟩ (pr := 2) hj (by decide)) dM_covers_28 (w_m hW) kM_107 (g_rm.of hR (by decide) (by decide)) (by first | exact Nat.zero_le _ | (rw [hR]; decide)) (by first | exact Nat.zero_le _ | (rw [hR]; decide)) (by first | decide | (simp [Value.category])) 31 rfl ?_
    refine g_iadd hX dM_covers_31 32 rfl ?_
    refine g_icmp_ge hX dM_covers_32 58 35 (by decide) rfl (fun c32 => ?_) (fun c32 => ?_)
    · refine g_iconst hX dM_covers_58 (v := 0) (by decide) 59 rfl ?_
      exact g_iret hX rfl rfl dM_covers_59 ⟨by unfold q_cov; rw [if_neg c19, if_pos c32], rfl⟩ rfl (Nat.zero_le _) (Nat.zero_le _)
    · refine g_iload_n hX dM_covers_35 rfl rfl 36 rfl ?_
      refine g_iload hX dM_covers_36 rfl 38 rfl ?_
      refine g_icmp_lt hX dM_covers_38 58 41 (by decide) rfl (fun c38 => ?_) (fun c38 => ?_)
      · refine g_iconst hX dM_covers_58 (v := 0) (by decide) 59 rfl ?_
        exact g_iret hX rfl rfl dM_covers_59 ⟨by unfold q_cov; rw [if_neg c19, if_neg c32, if_pos c38], rfl⟩ rfl (Nat.zero_le _) (Nat.zero_le _)
      · refine g_iload_n hX dM_covers_41 rfl rfl 42 rfl ?_
        refine g_iload hX dM_covers_42 rfl 44 rfl ?_
        refine g_aload_n hX dM_covers_44 rfl rfl (by first | rfl | exact g_rfr _) 45 rfl ?_
        refine g_iload_n hX dM_covers_45 rfl rfl 46 rfl ?_
        refine g_iconst hX dM_covers_46 (v := 3) (by decide) 47 rfl ?_
        refine g_cV2r (wt := 2) hX (c_M_value hX.tr hW ⟨hnp, hns, hne, hpar, hhome, hact⟩ (pr := 3) hj (by decide)) dM_covers_47 (w_m hW) kM_107 (g_rm.of hR (by decide) (by decide)) (by first | exact Nat.zero_le _ | (rw [hR]; decide)) (by first | exact Nat.zero_le _ | (rw [hR]; decide)) (by first | decide | (simp [Value.category])) 50 rfl ?_
        refine g_iadd hX dM_covers_50 51 rfl ?_
        refine g_icmp_ge hX dM_covers_51 58 54 (by decide) rfl (fun c51 => ?_) (fun c51 => ?_)
        · refine g_iconst hX dM_covers_58 (v := 0) (by decide) 59 rfl ?_
          exact g_iret hX rfl rfl dM_covers_59 ⟨by unfold q_cov; rw [if_neg c19, if_neg c32, if_neg c38, if_pos c51], rfl⟩ rfl (Nat.zero_le _) (Nat.zero_le _)
        · refine g_iconst hX dM_covers_54 (v := 1) (by decide) 55 rfl ?_
          refine g_goto hX dM_covers_55 59 (by decide) ?_
          exact g_iret hX rfl rfl dM_covers_59 ⟨by unfold q_cov; rw [if_neg c19, if_neg c32, if_neg c38, if_neg c51], rfl⟩ rfl (Nat.zero_le _) (Nat.zero_le _)
