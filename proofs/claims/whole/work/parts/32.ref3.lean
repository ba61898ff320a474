set_option maxRecDepth 100000 in
set_option maxHeartbeats 4000000 in
theorem lp_M_source {E : g_E} {A : w_A} {S : q_S} {h : g_H} (hW : r_W E A S h) (hB : w_B S) {X : g_X} (hX : g_ok E X mM_source) (hR : X.R = { frames := 1, cells := 0, slots := 0, locals := 15 }) {j pr : Nat} (hj : j < q_ns S) (hpr : pr < 7) {res : Option Nat} : ∀ (r : Nat) (po : Option Nat), (∀ p, po = some p → p < r ∧ p < q_np S) → q_src S j pr r po = res →
    g_Go E X (true, fun r' h' => r' = .inr (some (.int (q_oi res))) ∧ h' = h) h true 0 0 41 [some (.ref (A 30 0)), some (.int (nI j)), some (.int (nI pr)), some (.int (q_oi po)), none] [] := by
  obtain ⟨hnp, hns, hne, hpar, hhome, hact⟩ := hB
  have hjh := (hhome j hj).1
  intro r
  induction r with
  | zero =>
    intro po hpo hres
    have hr : res = none := hres.symm
    subst hr
    cases po with
    | some p => exact absurd (hpo p rfl).1 (Nat.not_lt_zero _)
    | none =>
      refine g_iload_n hX dM_source_41 rfl rfl 42 rfl ?_
      refine g_if_lt hX dM_source_42 91 45 (by decide) rfl (fun c42 => ?_) (fun c42 => ?_)
      · refine g_iconst hX dM_source_91 (v := (-1)) (by decide) 92 rfl ?_
        exact g_iret hX rfl rfl dM_source_92 ⟨by rfl, rfl⟩ rfl (Nat.zero_le _) (Nat.zero_le _)
      · exact absurd (by decide) c42
  | succ r ih =>
    intro po hpo hres
    cases po with
    | none =>
      have hr : res = none := hres.symm
      subst hr
      refine g_iload_n hX dM_source_41 rfl rfl 42 rfl ?_
      refine g_if_lt hX dM_source_42 91 45 (by decide) rfl (fun c42 => ?_) (fun c42 => ?_)
      · refine g_iconst hX dM_source_91 (v := (-1)) (by decide) 92 rfl ?_
        exact g_iret hX rfl rfl dM_source_92 ⟨by rfl, rfl⟩ rfl (Nat.zero_le _) (Nat.zero_le _)
      · exact absurd (by decide) c42
    | some p =>
      obtain ⟨hp1, hp2⟩ := hpo p rfl
      have hpn : ∀ q, q_par S p = some q → q < r ∧ q < q_np S := fun q hq => by
        have := q_par_lt (hpar p hp2) hq
        omega
      refine g_iload_n hX dM_source_41 rfl rfl 42 rfl ?_
      refine g_if_lt hX dM_source_42 91 45 (by decide) rfl (fun c42 => ?_) (fun c42 => ?_)
      · exact absurd c42 (nI_pos (by omega))
      · refine g_aload_n hX dM_source_45 rfl rfl (by first | rfl | exact g_rfr _) 46 rfl ?_
        refine g_iload_n hX dM_source_46 rfl rfl 47 rfl ?_
        refine g_aload_n hX dM_source_47 rfl rfl (by first | rfl | exact g_rfr _) 48 rfl ?_
        refine g_get hX dM_source_48 fM_19 (w_m hW) rfl 51 rfl ?_
        refine g_iload_n hX dM_source_51 rfl rfl 52 rfl ?_
        refine g_iald hX dM_source_52 (w_ar hW _ (by decide)) (g_ix.nat (by omega) (by decide)) 53 rfl ?_
        refine g_cV2r (wt := 0) hX (c_M_slotted hX.tr hW ⟨hnp, hns, hne, hpar, hhome, hact⟩ (p := p) (by omega) (S.2 1 j)) dM_source_53 (w_m hW) kM_89 (g_rm.of hR (by decide) (by decide)) (by first | exact Nat.zero_le _ | (rw [hR]; decide)) (by first | exact Nat.zero_le _ | (rw [hR]; decide)) (by first | decide | (simp [Value.category])) 56 rfl ?_
        cases hs : q_slotted S p (S.2 1 j) with
        | none =>
          refine g_istore hX (L' := [_, _, _, _, _]) dM_source_56 (by decide) rfl 58 rfl ?_
          refine g_iload hX dM_source_58 rfl 60 rfl ?_
          refine g_if_lt hX dM_source_60 81 63 (by decide) rfl (fun c60 => ?_) (fun c60 => ?_)
          · refine g_aload_n hX dM_source_81 rfl rfl (by first | rfl | exact g_rfr _) 82 rfl ?_
            refine g_get hX dM_source_82 fM_13 (w_m hW) rfl 85 rfl ?_
            refine g_iload_n hX dM_source_85 rfl rfl 86 rfl ?_
            refine g_iald hX dM_source_86 (w_ar hW _ (by decide)) (g_ix.nat (by omega) (by decide)) 87 rfl ?_
            refine g_istore_n hX (L' := [_, _, _, _, _]) dM_source_87 rfl (by decide) rfl 88 rfl ?_
            refine g_goto hX dM_source_88 41 (by decide) ?_
            rw [q_par_oi]
            refine g_drop (L' := [_, _, _, _, none]) 4 rfl ?_
            exact ih (q_par S p) hpn (by rw [q_src_none hs] at hres; exact hres)
          · exact absurd (by decide) c60
        | some s =>
          have hsn : s < q_ns S := q_slotted_lt hs
          refine g_istore hX (L' := [_, _, _, _, _]) dM_source_56 (by decide) rfl 58 rfl ?_
          refine g_iload hX dM_source_58 rfl 60 rfl ?_
          refine g_if_lt hX dM_source_60 81 63 (by decide) rfl (fun c60 => ?_) (fun c60 => ?_)
          · exact absurd c60 (nI_pos (by omega))
          · refine g_aload_n hX dM_source_63 rfl rfl (by first | rfl | exact g_rfr _) 64 rfl ?_
            refine g_get hX dM_source_64 fM_22 (w_m hW) rfl 67 rfl ?_
            refine g_bipush hX dM_source_67 (v := 7) (by decide) 69 rfl ?_
            refine g_iload hX dM_source_69 rfl 71 rfl ?_
            refine g_imul hX dM_source_71 72 rfl ?_
            refine g_iload_n hX dM_source_72 rfl rfl 73 rfl ?_
            refine g_iadd hX dM_source_73 74 rfl ?_
            refine g_zald hX dM_source_74 (w_ar hW _ (by decide)) (g_ix.eq (q_7 s pr) (by omega) (by decide)) 75 rfl ?_
            refine g_if_eq hX dM_source_75 81 78 (by decide) rfl (fun c75 => ?_) (fun c75 => ?_)
            · refine g_aload_n hX dM_source_81 rfl rfl (by first | rfl | exact g_rfr _) 82 rfl ?_
              refine g_get hX dM_source_82 fM_13 (w_m hW) rfl 85 rfl ?_
              refine g_iload_n hX dM_source_85 rfl rfl 86 rfl ?_
              refine g_iald hX dM_source_86 (w_ar hW _ (by decide)) (g_ix.nat (by omega) (by decide)) 87 rfl ?_
              refine g_istore_n hX (L' := [_, _, _, _, _]) dM_source_87 rfl (by decide) rfl 88 rfl ?_
              refine g_goto hX dM_source_88 41 (by decide) ?_
              rw [q_par_oi]
              refine g_drop (L' := [_, _, _, _, none]) 4 rfl ?_
              exact ih (q_par S p) hpn (by rw [q_src_zero hs c75] at hres; exact hres)
            · refine g_iload hX dM_source_78 rfl 80 rfl ?_
              exact g_iret hX rfl rfl dM_source_80 ⟨by rw [← hres, q_src_hit hs c75], rfl⟩ rfl (Nat.zero_le _) (Nat.zero_le _)
set_option maxRecDepth 100000 in
set_option maxHeartbeats 4000000 in
theorem c_M_source {l : Launch} (hl : l.stackTraces = false) {E : g_E} {A : w_A} {S : q_S} {h : g_H} (hW : r_W E A S h) (hB : w_B S) {j pr : Nat} (hj : j < q_ns S) (hpr : pr < 7)  : g_Rd l mM_source 1 15 [.ref (A 30 0), .int (nI j), .int (nI pr)] E h (some (.int (q_oi (q_source S j pr)))) := by
  refine g_Rd.of hl (by decide) rfl (Nat.le_of_ble_eq_true rfl) ?_
  intro X hX hXl hR
  obtain ⟨hnp, hns, hne, hpar, hhome, hact⟩ := hB
  have hjh := (hhome j hj).1
  have hjh2 : S.1 2 j < q_np S := hjh
  show g_Go E X _ h true 0 0 0 [some (.ref (A 30 0)), some (.int (nI j)), some (.int (nI pr)), none, none] []
  refine g_aload_n hX dM_source_0 rfl rfl (by first | rfl | exact g_rfr _) 1 rfl ?_
  refine g_get hX dM_source_1 fM_22 (w_m hW) rfl 4 rfl ?_
  refine g_bipush hX dM_source_4 (v := 7) (by decide) 6 rfl ?_
  refine g_iload_n hX dM_source_6 rfl rfl 7 rfl ?_
  refine g_imul hX dM_source_7 8 rfl ?_
  refine g_iload_n hX dM_source_8 rfl rfl 9 rfl ?_
  refine g_iadd hX dM_source_9 10 rfl ?_
  refine g_zald hX dM_source_10 (w_ar hW _ (by decide)) (g_ix.eq (q_7 j pr) (by omega) (by decide)) 11 rfl ?_
  refine g_if_eq hX dM_source_11 16 14 (by decide) rfl (fun c11 => ?_) (fun c11 => ?_)
  · refine g_aload_n hX dM_source_16 rfl rfl (by first | rfl | exact g_rfr _) 17 rfl ?_
    refine g_get hX dM_source_17 fM_19 (w_m hW) rfl 20 rfl ?_
    refine g_iload_n hX dM_source_20 rfl rfl 21 rfl ?_
    refine g_iald hX dM_source_21 (w_ar hW _ (by decide)) (g_ix.nat (by omega) (by decide)) 22 rfl ?_
    refine g_if_ge hX dM_source_22 29 25 (by decide) rfl (fun c22 => ?_) (fun c22 => ?_)
    · refine g_aload_n hX dM_source_29 rfl rfl (by first | rfl | exact g_rfr _) 30 rfl ?_
      refine g_get hX dM_source_30 fM_13 (w_m hW) rfl 33 rfl ?_
      refine g_aload_n hX dM_source_33 rfl rfl (by first | rfl | exact g_rfr _) 34 rfl ?_
      refine g_get hX dM_source_34 fM_16 (w_m hW) rfl 37 rfl ?_
      refine g_iload_n hX dM_source_37 rfl rfl 38 rfl ?_
      refine g_iald hX dM_source_38 (w_ar hW _ (by decide)) (g_ix.nat (by omega) (by decide)) 39 rfl ?_
      refine g_iald hX dM_source_39 (w_ar hW _ (by decide)) (g_ix.nat (by omega) (by decide)) 40 rfl ?_
      refine g_istore_n hX (L' := [_, _, _, _, _]) dM_source_40 rfl (by decide) rfl 41 rfl ?_
      first
        | (rw [q_par_oi]
           refine lp_M_source hW ⟨hnp, hns, hne, hpar, hhome, hact⟩ hX hR hj hpr 12 (q_par S (q_home S j)) (fun p hp => ?_) ?_
           · have := q_par_lt (hpar _ hjh) hp
             omega
           · unfold q_source
             rw [if_pos c11, if_neg (show ¬ q_slot S j < 0 from fun q => absurd c22 (by simpa using q))])
        | (refine lp_M_source hW ⟨hnp, hns, hne, hpar, hhome, hact⟩ hX hR hj hpr 12 none (fun p hp => by cases hp) ?_
           unfold q_source
           rw [if_pos c11, if_pos (show q_slot S j < 0 from by simpa using c22)]
           rfl)
    · refine g_iconst hX dM_source_25 (v := (-1)) (by decide) 26 rfl ?_
      refine g_goto hX dM_source_26 40 (by decide) ?_
      refine g_istore_n hX (L' := [_, _, _, _, _]) dM_source_40 rfl (by decide) rfl 41 rfl ?_
      first
        | (rw [q_par_oi]
           refine lp_M_source hW ⟨hnp, hns, hne, hpar, hhome, hact⟩ hX hR hj hpr 12 (q_par S (q_home S j)) (fun p hp => ?_) ?_
           · have := q_par_lt (hpar _ hjh) hp
             omega
           · unfold q_source
             rw [if_pos c11, if_neg (show ¬ q_slot S j < 0 from fun q => absurd c22 (by simpa using q))])
        | (refine lp_M_source hW ⟨hnp, hns, hne, hpar, hhome, hact⟩ hX hR hj hpr 12 none (fun p hp => by cases hp) ?_
           unfold q_source
           rw [if_pos c11, if_pos (show q_slot S j < 0 from by simpa using c22)]
           rfl)
  · refine g_iload_n hX dM_source_14 rfl rfl 15 rfl ?_
    exact g_iret hX rfl rfl dM_source_15 ⟨by rw [show q_source S j pr = some j from if_neg c11]; rfl, rfl⟩ rfl (Nat.zero_le _) (Nat.zero_le _)
set_option maxRecDepth 100000 in
set_option maxHeartbeats 4000000 in
theorem c_M_value {l : Launch} (hl : l.stackTraces = false) {E : g_E} {A : w_A} {S : q_S} {h : g_H} (hW : r_W E A S h) (hB : w_B S) {j pr : Nat} (hj : j < q_ns S) (hpr : pr < 7)  : g_Rd l mM_value 2 31 [.ref (A 30 0), .int (nI j), .int (nI pr)] E h (some (.int (q_value S j pr))) := by
  refine g_Rd.of hl (by decide) rfl (Nat.le_of_ble_eq_true rfl) ?_
  intro X hX hXl hR
  obtain ⟨hnp, hns, hne, hpar, hhome, hact⟩ := hB
  show g_Go E X _ h true 0 0 0 [some (.ref (A 30 0)), some (.int (nI j)), some (.int (nI pr)), none] []
  refine g_aload_n hX dM_value_0 rfl rfl (by first | rfl | exact g_rfr _) 1 rfl ?_
  refine g_iload_n hX dM_value_1 rfl rfl 2 rfl ?_
  refine g_iload_n hX dM_value_2 rfl rfl 3 rfl ?_
  refine g_cV2r (wt := 0) hX (c_M_source hX.tr hW ⟨hnp, hns, hne, hpar, hhome, hact⟩ hj hpr) dM_value_3 (w_m hW) kM_104 (g_rm.of hR (by decide) (by decide)) (by first | exact Nat.zero_le _ | (rw [hR]; decide)) (by first | exact Nat.zero_le _ | (rw [hR]; decide)) (by first | decide | (simp [Value.category])) 6 rfl ?_
  cases hs : q_source S j pr with
  | none =>
    refine g_istore_n hX (L' := [_, _, _, _]) dM_value_6 rfl (by decide) rfl 7 rfl ?_
    refine g_iload_n hX dM_value_7 rfl rfl 8 rfl ?_
    refine g_if_ge hX dM_value_8 20 11 (by decide) rfl (fun c8 => ?_) (fun c8 => ?_)
    · exact absurd c8 (by decide)
    · refine g_aload_n hX dM_value_11 rfl rfl (by first | rfl | exact g_rfr _) 12 rfl ?_
      refine g_get hX dM_value_12 fM_30 (w_m hW) rfl 15 rfl ?_
      refine g_iload_n hX dM_value_15 rfl rfl 16 rfl ?_
      refine g_iald hX dM_value_16 (w_ar hW _ (by decide)) (g_ix.nat (by omega) (by decide)) 17 rfl ?_
      refine g_goto hX dM_value_17 31 (by decide) ?_
      exact g_iret hX rfl rfl dM_value_31 ⟨by unfold q_value; rw [hs], rfl⟩ rfl (Nat.zero_le _) (Nat.zero_le _)
  | some s =>
    have hsn : s < q_ns S := q_source_lt hj hs
    refine g_istore_n hX (L' := [_, _, _, _]) dM_value_6 rfl (by decide) rfl 7 rfl ?_
    refine g_iload_n hX dM_value_7 rfl rfl 8 rfl ?_
    refine g_if_ge hX dM_value_8 20 11 (by decide) rfl (fun c8 => ?_) (fun c8 => ?_)
    · refine g_aload_n hX dM_value_20 rfl rfl (by first | rfl | exact g_rfr _) 21 rfl ?_
      refine g_get hX dM_value_21 fM_26 (w_m hW) rfl 24 rfl ?_
      refine g_bipush hX dM_value_24 (v := 7) (by decide) 26 rfl ?_
      refine g_iload_n hX dM_value_26 rfl rfl 27 rfl ?_
      refine g_imul hX dM_value_27 28 rfl ?_
      refine g_iload_n hX dM_value_28 rfl rfl 29 rfl ?_
      refine g_iadd hX dM_value_29 30 rfl ?_
      refine g_iald hX dM_value_30 (w_ar hW _ (by decide)) (g_ix.eq (q_7 s pr) (by omega) (by decide)) 31 rfl ?_
      exact g_iret hX rfl rfl dM_value_31 ⟨by unfold q_value; rw [hs], rfl⟩ rfl (Nat.zero_le _) (Nat.zero_le _)
    · exact absurd (nI_pos' (by omega)) c8
set_option maxRecDepth 100000 in
set_option maxHeartbeats 4000000 in
theorem lp_M_slide {E : g_E} {A : w_A} {S : q_S} {h : g_H} (hW : r_W E A S h) (hB : w_B S) {X : g_X} (hX : g_ok E X mM_slide) {k : Int32} {res : Option Nat} : ∀ (r p n : Nat), p + r = q_np S → q_slf S k r p n = res →
    g_Go E X (true, fun r' h' => r' = .inr (some (.int (q_oi res))) ∧ h' = h) h true 0 0 4 [some (.ref (A 30 0)), some (.int k), some (.int (nI n)), some (.int (nI p))] [] := by
  obtain ⟨hnp, hns, hne, hpar, hhome, hact⟩ := hB
  intro r
  induction r with
  | zero =>
    intro p n hp hres
    have hr : res = none := hres.symm
    subst hr
    refine g_iload_n hX dM_slide_4 rfl rfl 5 rfl ?_
    refine g_aload_n hX dM_slide_5 rfl rfl (by first | rfl | exact g_rfr _) 6 rfl ?_
    refine g_get hX dM_slide_6 fM_79 (w_m hW) rfl 9 rfl ?_
    refine g_icmp_ge hX dM_slide_9 38 12 (by decide) rfl (fun c9 => ?_) (fun c9 => ?_)
    · refine g_iconst hX dM_slide_38 (v := (-1)) (by decide) 39 rfl ?_
      exact g_iret hX rfl rfl dM_slide_39 ⟨by rfl, rfl⟩ rfl (Nat.zero_le _) (Nat.zero_le _)
    · exact absurd (nI_le (by omega) (by omega)) c9
  | succ r ih =>
    intro p n hp hres
    refine g_iload_n hX dM_slide_4 rfl rfl 5 rfl ?_
    refine g_aload_n hX dM_slide_5 rfl rfl (by first | rfl | exact g_rfr _) 6 rfl ?_
    refine g_get hX dM_slide_6 fM_79 (w_m hW) rfl 9 rfl ?_
    refine g_icmp_ge hX dM_slide_9 38 12 (by decide) rfl (fun c9 => ?_) (fun c9 => ?_)
    · exact absurd c9 (nI_ge (by omega) (by omega))
    · refine g_aload_n hX dM_slide_12 rfl rfl (by first | rfl | exact g_rfr _) 13 rfl ?_
      refine g_get hX dM_slide_13 fM_7 (w_m hW) rfl 16 rfl ?_
      refine g_iload_n hX dM_slide_16 rfl rfl 17 rfl ?_
      refine g_iald hX dM_slide_17 (w_ar hW _ (by decide)) (g_ix.nat (by omega) (by decide)) 18 rfl ?_
      refine g_iconst hX dM_slide_18 (v := 2) (by decide) 19 rfl ?_
      refine g_icmp_ne hX dM_slide_19 32 22 (by decide) rfl (fun c19 => ?_) (fun c19 => ?_)
      · refine g_iinc hX (L' := [_, _, _, _]) dM_slide_32 rfl (q_inc _) rfl 35 rfl ?_
        refine g_goto hX dM_slide_35 4 (by decide) ?_
        first
          | exact ih (p + 1) (n + 1) (by omega) (by rw [q_slf, if_pos c19, if_neg c24] at hres; exact hres)
          | exact ih (p + 1) n (by omega) (by rw [q_slf, if_neg c19] at hres; exact hres)
      · refine g_iload_n hX dM_slide_22 rfl rfl 23 rfl ?_
        refine g_iload_n hX dM_slide_23 rfl rfl 24 rfl ?_
        refine g_icmp_ne hX dM_slide_24 29 27 (by decide) rfl (fun c24 => ?_) (fun c24 => ?_)
        · refine g_iinc hX (L' := [_, _, _, _]) dM_slide_29 rfl (q_inc _) rfl 32 rfl ?_
          refine g_iinc hX (L' := [_, _, _, _]) dM_slide_32 rfl (q_inc _) rfl 35 rfl ?_
          refine g_goto hX dM_slide_35 4 (by decide) ?_
          first
            | exact ih (p + 1) (n + 1) (by omega) (by rw [q_slf, if_pos c19, if_neg c24] at hres; exact hres)
            | exact ih (p + 1) n (by omega) (by rw [q_slf, if_neg c19] at hres; exact hres)
        · refine g_iload_n hX dM_slide_27 rfl rfl 28 rfl ?_
          exact g_iret hX rfl rfl dM_slide_28 ⟨by rw [← hres, q_slf, if_pos c19, if_pos c24]; rfl, rfl⟩ rfl (Nat.zero_le _) (Nat.zero_le _)
set_option maxRecDepth 100000 in
set_option maxHeartbeats 4000000 in
theorem c_M_slide {l : Launch} (hl : l.stackTraces = false) {E : g_E} {A : w_A} {S : q_S} {h : g_H} (hW : r_W E A S h) (hB : w_B S) (k : Int32)  : g_Rd l mM_slide 0 0 [.ref (A 30 0), .int k] E h (some (.int (q_oi (q_slide S k)))) := by
  refine g_Rd.of hl (by decide) rfl (Nat.le_of_ble_eq_true rfl) ?_
  intro X hX hXl hR
  obtain ⟨hnp, hns, hne, hpar, hhome, hact⟩ := hB
  show g_Go E X _ h true 0 0 0 [some (.ref (A 30 0)), some (.int k), none, none] []
  refine g_iconst hX dM_slide_0 (v := 0) (by decide) 1 rfl ?_
  refine g_istore_n hX (L' := [_, _, _, _]) dM_slide_1 rfl (by decide) rfl 2 rfl ?_
  refine g_iconst hX dM_slide_2 (v := 0) (by decide) 3 rfl ?_
  refine g_istore_n hX (L' := [_, _, _, _]) dM_slide_3 rfl (by decide) rfl 4 rfl ?_
  have hlp := lp_M_slide hW ⟨hnp, hns, hne, hpar, hhome, hact⟩ hX (k := k) (q_np S) 0 0 (by omega) rfl
  rw [nI_0] at hlp
  exact hlp
set_option maxRecDepth 100000 in
set_option maxHeartbeats 4000000 in
theorem lp_M_length {E : g_E} {A : w_A} {S : q_S} {h : g_H} (hW : r_W E A S h) (hB : w_B S) {X : g_X} (hX : g_ok E X mM_length) (hR : X.R = { frames := 2, cells := 0, slots := 0, locals := 31 }) {p : Nat} (hp : p < 2 ^ 31) {b : Int32} : ∀ (r e : Nat) (n : Int32), e + r = q_ne S → n = q_len S p b e →
    g_Go E X (true, fun r' h' => r' = .inr (some (.int (q_len S p b (q_ne S)))) ∧ h' = h) h true 0 0 5 [some (.ref (A 30 0)), some (.int (nI p)), some (.int b), some (.int n), some (.int (nI e))] [] := by
  obtain ⟨hnp, hns, hne, hpar, hhome, hact⟩ := hB
  intro r
  induction r with
  | zero =>
    intro e n he hn
    have he2 : e = q_ne S := by omega
    subst he2
    refine g_iload hX dM_length_5 rfl 7 rfl ?_
    refine g_aload_n hX dM_length_7 rfl rfl (by first | rfl | exact g_rfr _) 8 rfl ?_
    refine g_get hX dM_length_8 fM_121 (w_m hW) rfl 11 rfl ?_
    refine g_icmp_ge hX dM_length_11 67 14 (by decide) rfl (fun c11 => ?_) (fun c11 => ?_)
    · refine g_iload_n hX dM_length_67 rfl rfl 68 rfl ?_
      exact g_iret hX rfl rfl dM_length_68 ⟨by rw [hn], rfl⟩ rfl (Nat.zero_le _) (Nat.zero_le _)
    · exact absurd (nI_le (Nat.le_refl _) (by omega)) c11
  | succ r ih =>
    intro e n he hn
    have hen : e < q_ne S := by omega
    have hak : S.1 5 e < q_ns S := hact e hen
    have hhk := (hhome _ hak).1
    have hb1 : q_home S (S.1 5 e) < 2 ^ 31 := by omega
    refine g_iload hX dM_length_5 rfl 7 rfl ?_
    refine g_aload_n hX dM_length_7 rfl rfl (by first | rfl | exact g_rfr _) 8 rfl ?_
    refine g_get hX dM_length_8 fM_121 (w_m hW) rfl 11 rfl ?_
    refine g_icmp_ge hX dM_length_11 67 14 (by decide) rfl (fun c11 => ?_) (fun c11 => ?_)
    · exact absurd c11 (nI_ge (by omega) (by omega))
    · refine g_aload_n hX dM_length_14 rfl rfl (by first | rfl | exact g_rfr _) 15 rfl ?_
      refine g_get hX dM_length_15 fM_16 (w_m hW) rfl 18 rfl ?_
      refine g_aload_n hX dM_length_18 rfl rfl (by first | rfl | exact g_rfr _) 19 rfl ?_
      refine g_get hX dM_length_19 fM_45 (w_m hW) rfl 22 rfl ?_
      refine g_iload hX dM_length_22 rfl 24 rfl ?_
      refine g_iald hX dM_length_24 (w_ar hW _ (by decide)) (g_ix.nat (by omega) (by decide)) 25 rfl ?_
      refine g_iald hX dM_length_25 (w_ar hW _ (by decide)) (g_ix.nat (by omega) (by decide)) 26 rfl ?_
      refine g_iload_n hX dM_length_26 rfl rfl 27 rfl ?_
      refine g_icmp_ne hX dM_length_27 59 30 (by decide) rfl (fun c27 => ?_) (fun c27 => ?_)
      · refine g_iload_n hX dM_length_59 rfl rfl 60 rfl ?_
        refine g_istore_n hX (L' := [_, _, _, _, _]) dM_length_60 rfl (by decide) rfl 61 rfl ?_
        refine g_iinc hX (L' := [_, _, _, _, _]) dM_length_61 rfl (q_inc _) rfl 64 rfl ?_
        refine g_goto hX dM_length_64 5 (by decide) ?_
        first
          | exact ih (e + 1) _ (by omega) (by rw [q_len, if_neg (fun q => c27 (congrArg nI q.1))]; exact hn)
          | exact ih (e + 1) _ (by omega) (by rw [q_len, if_neg (fun q => c37 q.2.1)]; exact hn)
          | exact ih (e + 1) _ (by omega) (by rw [q_len, if_neg (fun q => absurd q.2.2 (by rw [← hn]; exact Int32.not_lt.mpr c47))]; exact hn)
          | exact ih (e + 1) _ (by omega) (by rw [q_len, if_pos ⟨q_inj c27 hb1 hp, c37, by rw [← hn]; exact Int32.not_le.mp c47⟩])
      · refine g_aload_n hX dM_length_30 rfl rfl (by first | rfl | exact g_rfr _) 31 rfl ?_
        refine g_iload hX dM_length_31 rfl 33 rfl ?_
        refine g_cV1r (wt := 0) hX (c_M_build hX.tr hW ⟨hnp, hns, hne, hpar, hhome, hact⟩ hen) dM_length_33 (w_m hW) kM_130 (g_rm.of hR (by decide) (by decide)) (by first | exact Nat.zero_le _ | (rw [hR]; decide)) (by first | exact Nat.zero_le _ | (rw [hR]; decide)) (by first | decide | (simp [Value.category])) 36 rfl ?_
        refine g_iload_n hX dM_length_36 rfl rfl 37 rfl ?_
        refine g_icmp_ne hX dM_length_37 59 40 (by decide) rfl (fun c37 => ?_) (fun c37 => ?_)
        · refine g_iload_n hX dM_length_59 rfl rfl 60 rfl ?_
          refine g_istore_n hX (L' := [_, _, _, _, _]) dM_length_60 rfl (by decide) rfl 61 rfl ?_
          refine g_iinc hX (L' := [_, _, _, _, _]) dM_length_61 rfl (q_inc _) rfl 64 rfl ?_
          refine g_goto hX dM_length_64 5 (by decide) ?_
          first
            | exact ih (e + 1) _ (by omega) (by rw [q_len, if_neg (fun q => c27 (congrArg nI q.1))]; exact hn)
            | exact ih (e + 1) _ (by omega) (by rw [q_len, if_neg (fun q => c37 q.2.1)]; exact hn)
            | exact ih (e + 1) _ (by omega) (by rw [q_len, if_neg (fun q => absurd q.2.2 (by rw [← hn]; exact Int32.not_lt.mpr c47))]; exact hn)
            | exact ih (e + 1) _ (by omega) (by rw [q_len, if_pos ⟨q_inj c27 hb1 hp, c37, by rw [← hn]; exact Int32.not_le.mp c47⟩])
        · refine g_aload_n hX dM_length_40 rfl rfl (by first | rfl | exact g_rfr _) 41 rfl ?_
          refine g_iload hX dM_length_41 rfl 43 rfl ?_
          refine g_cV1r (wt := 0) hX (c_M_end hX.tr hW ⟨hnp, hns, hne, hpar, hhome, hact⟩ hen) dM_length_43 (w_m hW) kM_133 (g_rm.of hR (by decide) (by decide)) (by first | exact Nat.zero_le _ | (rw [hR]; decide)) (by first | exact Nat.zero_le _ | (rw [hR]; decide)) (by first | decide | (simp [Value.category])) 46 rfl ?_
          refine g_iload_n hX dM_length_46 rfl rfl 47 rfl ?_
          refine g_icmp_le hX dM_length_47 59 50 (by decide) rfl (fun c47 => ?_) (fun c47 => ?_)
          · refine g_iload_n hX dM_length_59 rfl rfl 60 rfl ?_
            refine g_istore_n hX (L' := [_, _, _, _, _]) dM_length_60 rfl (by decide) rfl 61 rfl ?_
            refine g_iinc hX (L' := [_, _, _, _, _]) dM_length_61 rfl (q_inc _) rfl 64 rfl ?_
            refine g_goto hX dM_length_64 5 (by decide) ?_
            first
              | exact ih (e + 1) _ (by omega) (by rw [q_len, if_neg (fun q => c27 (congrArg nI q.1))]; exact hn)
              | exact ih (e + 1) _ (by omega) (by rw [q_len, if_neg (fun q => c37 q.2.1)]; exact hn)
              | exact ih (e + 1) _ (by omega) (by rw [q_len, if_neg (fun q => absurd q.2.2 (by rw [← hn]; exact Int32.not_lt.mpr c47))]; exact hn)
              | exact ih (e + 1) _ (by omega) (by rw [q_len, if_pos ⟨q_inj c27 hb1 hp, c37, by rw [← hn]; exact Int32.not_le.mp c47⟩])
          · refine g_aload_n hX dM_length_50 rfl rfl (by first | rfl | exact g_rfr _) 51 rfl ?_
            refine g_iload hX dM_length_51 rfl 53 rfl ?_
            refine g_cV1r (wt := 0) hX (c_M_end hX.tr hW ⟨hnp, hns, hne, hpar, hhome, hact⟩ hen) dM_length_53 (w_m hW) kM_133 (g_rm.of hR (by decide) (by decide)) (by first | exact Nat.zero_le _ | (rw [hR]; decide)) (by first | exact Nat.zero_le _ | (rw [hR]; decide)) (by first | decide | (simp [Value.category])) 56 rfl ?_
            refine g_goto hX dM_length_56 60 (by decide) ?_
            refine g_istore_n hX (L' := [_, _, _, _, _]) dM_length_60 rfl (by decide) rfl 61 rfl ?_
            refine g_iinc hX (L' := [_, _, _, _, _]) dM_length_61 rfl (q_inc _) rfl 64 rfl ?_
            refine g_goto hX dM_length_64 5 (by decide) ?_
            first
              | exact ih (e + 1) _ (by omega) (by rw [q_len, if_neg (fun q => c27 (congrArg nI q.1))]; exact hn)
              | exact ih (e + 1) _ (by omega) (by rw [q_len, if_neg (fun q => c37 q.2.1)]; exact hn)
              | exact ih (e + 1) _ (by omega) (by rw [q_len, if_neg (fun q => absurd q.2.2 (by rw [← hn]; exact Int32.not_lt.mpr c47))]; exact hn)
              | exact ih (e + 1) _ (by omega) (by rw [q_len, if_pos ⟨q_inj c27 hb1 hp, c37, by rw [← hn]; exact Int32.not_le.mp c47⟩])
set_option maxRecDepth 100000 in
set_option maxHeartbeats 4000000 in
theorem c_M_length {l : Launch} (hl : l.stackTraces = false) {E : g_E} {A : w_A} {S : q_S} {h : g_H} (hW : r_W E A S h) (hB : w_B S) {p : Nat} (hp : p < 2 ^ 31) (b : Int32)  : g_Rd l mM_length 2 31 [.ref (A 30 0), .int (nI p), .int b] E h (some (.int (q_len S p b (q_ne S)))) := by
  refine g_Rd.of hl (by decide) rfl (Nat.le_of_ble_eq_true rfl) ?_
  intro X hX hXl hR
  obtain ⟨hnp, hns, hne, hpar, hhome, hact⟩ := hB
  show g_Go E X _ h true 0 0 0 [some (.ref (A 30 0)), some (.int (nI p)), some (.int b), none, none] []
  refine g_iconst hX dM_length_0 (v := 0) (by decide) 1 rfl ?_
  refine g_istore_n hX (L' := [_, _, _, _, _]) dM_length_1 rfl (by decide) rfl 2 rfl ?_
  refine g_iconst hX dM_length_2 (v := 0) (by decide) 3 rfl ?_
  refine g_istore hX (L' := [_, _, _, _, _]) dM_length_3 (by decide) rfl 5 rfl ?_
  have hlp := lp_M_length hW ⟨hnp, hns, hne, hpar, hhome, hact⟩ hX hR hp (b := b) (q_ne S) 0 0 (by omega) rfl
  rw [nI_0] at hlp
  exact hlp
set_option maxRecDepth 100000 in
set_option maxHeartbeats 4000000 in
theorem c_M_stage {l : Launch} (hl : l.stackTraces = false) {E : g_E} {A : w_A} {S : q_S} {h : g_H} (hW : r_W E A S h) (hB : w_B S) {e : Nat} (he : e < q_ne S)  : g_Rd l mM_stage 2 31 [.ref (A 30 0), .int (nI e)] E h (some (.int (q_stage S e))) := by
  refine g_Rd.of hl (by decide) rfl (Nat.le_of_ble_eq_true rfl) ?_
  intro X hX hXl hR
  obtain ⟨hnp, hns, hne, hpar, hhome, hact⟩ := hB
  show g_Go E X _ h true 0 0 0 [some (.ref (A 30 0)), some (.int (nI e)), none] []
  refine g_aload_n hX dM_stage_0 rfl rfl (by first | rfl | exact g_rfr _) 1 rfl ?_
  refine g_iload_n hX dM_stage_1 rfl rfl 2 rfl ?_
  refine g_cV1r (wt := 0) hX (c_M_build hX.tr hW ⟨hnp, hns, hne, hpar, hhome, hact⟩ he) dM_stage_2 (w_m hW) kM_130 (g_rm.of hR (by decide) (by decide)) (by first | exact Nat.zero_le _ | (rw [hR]; decide)) (by first | exact Nat.zero_le _ | (rw [hR]; decide)) (by first | decide | (simp [Value.category])) 5 rfl ?_
  refine g_istore_n hX (L' := [_, _, _]) dM_stage_5 rfl (by decide) rfl 6 rfl ?_
  refine g_iload_n hX dM_stage_6 rfl rfl 7 rfl ?_
  refine g_aload_n hX dM_stage_7 rfl rfl (by first | rfl | exact g_rfr _) 8 rfl ?_
  refine g_get hX dM_stage_8 fM_136 (w_m hW) rfl 11 rfl ?_
  refine g_icmp_lt hX dM_stage_11 34 14 (by decide) rfl (fun c11 => ?_) (fun c11 => ?_)
  · refine g_iconst hX dM_stage_34 (v := 2) (by decide) 35 rfl ?_
    exact g_iret hX rfl rfl dM_stage_35 ⟨by simp_all [q_stage, Int32.not_lt], rfl⟩ rfl (Nat.zero_le _) (Nat.zero_le _)
  · refine g_iload_n hX dM_stage_14 rfl rfl 15 rfl ?_
    refine g_aload_n hX dM_stage_15 rfl rfl (by first | rfl | exact g_rfr _) 16 rfl ?_
    refine g_get hX dM_stage_16 fM_136 (w_m hW) rfl 19 rfl ?_
    refine g_icmp_ne hX dM_stage_19 36 22 (by decide) rfl (fun c19 => ?_) (fun c19 => ?_)
    · refine g_iload_n hX dM_stage_36 rfl rfl 37 rfl ?_
      refine g_aload_n hX dM_stage_37 rfl rfl (by first | rfl | exact g_rfr _) 38 rfl ?_
      refine g_get hX dM_stage_38 fM_136 (w_m hW) rfl 41 rfl ?_
      refine g_icmp_ne hX dM_stage_41 60 44 (by decide) rfl (fun c41 => ?_) (fun c41 => ?_)
      · refine g_iconst hX dM_stage_60 (v := 0) (by decide) 61 rfl ?_
        exact g_iret hX rfl rfl dM_stage_61 ⟨by simp_all [q_stage, Int32.not_lt], rfl⟩ rfl (Nat.zero_le _) (Nat.zero_le _)
      · refine g_aload_n hX dM_stage_44 rfl rfl (by first | rfl | exact g_rfr _) 45 rfl ?_
        refine g_iload_n hX dM_stage_45 rfl rfl 46 rfl ?_
        refine g_cV1r (wt := 0) hX (c_M_start hX.tr hW ⟨hnp, hns, hne, hpar, hhome, hact⟩ he) dM_stage_46 (w_m hW) kM_127 (g_rm.of hR (by decide) (by decide)) (by first | exact Nat.zero_le _ | (rw [hR]; decide)) (by first | exact Nat.zero_le _ | (rw [hR]; decide)) (by first | decide | (simp [Value.category])) 49 rfl ?_
        refine g_aload_n hX dM_stage_49 rfl rfl (by first | rfl | exact g_rfr _) 50 rfl ?_
        refine g_get hX dM_stage_50 fM_139 (w_m hW) rfl 53 rfl ?_
        refine g_icmp_gt hX dM_stage_53 60 56 (by decide) rfl (fun c53 => ?_) (fun c53 => ?_)
        · refine g_iconst hX dM_stage_60 (v := 0) (by decide) 61 rfl ?_
          exact g_iret hX rfl rfl dM_stage_61 ⟨by simp_all [q_stage, Int32.not_lt], rfl⟩ rfl (Nat.zero_le _) (Nat.zero_le _)
        · refine g_iconst hX dM_stage_56 (v := 1) (by decide) 57 rfl ?_
          refine g_goto hX dM_stage_57 61 (by decide) ?_
          exact g_iret hX rfl rfl dM_stage_61 ⟨by simp_all [q_stage, Int32.not_lt], rfl⟩ rfl (Nat.zero_le _) (Nat.zero_le _)
    · refine g_aload_n hX dM_stage_22 rfl rfl (by first | rfl | exact g_rfr _) 23 rfl ?_
      refine g_iload_n hX dM_stage_23 rfl rfl 24 rfl ?_
      refine g_cV1r (wt := 0) hX (c_M_end hX.tr hW ⟨hnp, hns, hne, hpar, hhome, hact⟩ he) dM_stage_24 (w_m hW) kM_133 (g_rm.of hR (by decide) (by decide)) (by first | exact Nat.zero_le _ | (rw [hR]; decide)) (by first | exact Nat.zero_le _ | (rw [hR]; decide)) (by first | decide | (simp [Value.category])) 27 rfl ?_
      refine g_aload_n hX dM_stage_27 rfl rfl (by first | rfl | exact g_rfr _) 28 rfl ?_
      refine g_get hX dM_stage_28 fM_139 (w_m hW) rfl 31 rfl ?_
      refine g_icmp_gt hX dM_stage_31 36 34 (by decide) rfl (fun c31 => ?_) (fun c31 => ?_)
      · refine g_iload_n hX dM_stage_36 rfl rfl 37 rfl ?_
        refine g_aload_n hX dM_stage_37 rfl rfl (by first | rfl | exact g_rfr _) 38 rfl ?_
        refine g_get hX dM_stage_38 fM_136 (w_m hW) rfl 41 rfl ?_
        refine g_icmp_ne hX dM_stage_41 60 44 (by decide) rfl (fun c41 => ?_) (fun c41 => ?_)
        · refine g_iconst hX dM_stage_60 (v := 0) (by decide) 61 rfl ?_
          exact g_iret hX rfl rfl dM_stage_61 ⟨by simp_all [q_stage, Int32.not_lt], rfl⟩ rfl (Nat.zero_le _) (Nat.zero_le _)
        · refine g_aload_n hX dM_stage_44 rfl rfl (by first | rfl | exact g_rfr _) 45 rfl ?_
          refine g_iload_n hX dM_stage_45 rfl rfl 46 rfl ?_
          refine g_cV1r (wt := 0) hX (c_M_start hX.tr hW ⟨hnp, hns, hne, hpar, hhome, hact⟩ he) dM_stage_46 (w_m hW) kM_127 (g_rm.of hR (by decide) (by decide)) (by first | exact Nat.zero_le _ | (rw [hR]; decide)) (by first | exact Nat.zero_le _ | (rw [hR]; decide)) (by first | decide | (simp [Value.category])) 49 rfl ?_
          refine g_aload_n hX dM_stage_49 rfl rfl (by first | rfl | exact g_rfr _) 50 rfl ?_
          refine g_get hX dM_stage_50 fM_139 (w_m hW) rfl 53 rfl ?_
          refine g_icmp_gt hX dM_stage_53 60 56 (by decide) rfl (fun c53 => ?_) (fun c53 => ?_)
          · refine g_iconst hX dM_stage_60 (v := 0) (by decide) 61 rfl ?_
            exact g_iret hX rfl rfl dM_stage_61 ⟨by simp_all [q_stage, Int32.not_lt], rfl⟩ rfl (Nat.zero_le _) (Nat.zero_le _)
          · refine g_iconst hX dM_stage_56 (v := 1) (by decide) 57 rfl ?_
            refine g_goto hX dM_stage_57 61 (by decide) ?_
            exact g_iret hX rfl rfl dM_stage_61 ⟨by simp_all [q_stage, Int32.not_lt], rfl⟩ rfl (Nat.zero_le _) (Nat.zero_le _)
      · refine g_iconst hX dM_stage_34 (v := 2) (by decide) 35 rfl ?_
        exact g_iret hX rfl rfl dM_stage_35 ⟨by simp_all [q_stage, Int32.not_lt], rfl⟩ rfl (Nat.zero_le _) (Nat.zero_le _)
set_option maxRecDepth 100000 in
set_option maxHeartbeats 4000000 in
theorem c_M_part {l : Launch} (hl : l.stackTraces = false) {E : g_E} {A : w_A} {S : q_S} {h : g_H} (hW : r_W E A S h) (hB : w_B S) {e : Nat} (he : e < q_ne S) (hd : ¬ S.2 10 e = 0) (v : Int32)  : g_Rd l mM_part 1 20 [.ref (A 30 0), .int v, .int (nI e)] E h (some (.int (q_part S v e))) := by
  refine g_Rd.of hl (by decide) rfl (Nat.le_of_ble_eq_true rfl) ?_
  intro X hX hXl hR
  obtain ⟨hnp, hns, hne, hpar, hhome, hact⟩ := hB
  show g_Go E X _ h true 0 0 0 [some (.ref (A 30 0)), some (.int v), some (.int (nI e))] []
  refine g_iload_n hX dM_part_0 rfl rfl 1 rfl ?_
  refine g_aload_n hX dM_part_1 rfl rfl (by first | rfl | exact g_rfr _) 2 rfl ?_
  refine g_get hX dM_part_2 fM_139 (w_m hW) rfl 5 rfl ?_
  refine g_aload_n hX dM_part_5 rfl rfl (by first | rfl | exact g_rfr _) 6 rfl ?_
  refine g_iload_n hX dM_part_6 rfl rfl 7 rfl ?_
  refine g_cV1r (wt := 2) hX (c_M_start hX.tr hW ⟨hnp, hns, hne, hpar, hhome, hact⟩ he) dM_part_7 (w_m hW) kM_127 (g_rm.of hR (by decide) (by decide)) (by first | exact Nat.zero_le _ | (rw [hR]; decide)) (by first | exact Nat.zero_le _ | (rw [hR]; decide)) (by first | decide | (simp [Value.category])) 10 rfl ?_
  refine g_isub hX dM_part_10 11 rfl ?_
  refine g_imul hX dM_part_11 12 rfl ?_
  refine g_aload_n hX dM_part_12 rfl rfl (by first | rfl | exact g_rfr _) 13 rfl ?_
  refine g_get hX dM_part_13 fM_57 (w_m hW) rfl 16 rfl ?_
  refine g_iload_n hX dM_part_16 rfl rfl 17 rfl ?_
  refine g_iald hX dM_part_17 (w_ar hW _ (by decide)) (g_ix.nat (by omega) (by decide)) 18 rfl ?_
  refine g_idiv hX dM_part_18 hd 19 rfl ?_
  exact g_iret hX rfl rfl dM_part_19 ⟨by rfl, rfl⟩ rfl (Nat.zero_le _) (Nat.zero_le _)
