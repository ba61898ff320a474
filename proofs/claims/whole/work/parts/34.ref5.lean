set_option maxRecDepth 100000 in
set_option maxHeartbeats 4000000 in
theorem c_M_over {l : Launch} (hl : l.stackTraces = false) {E : g_E} {A : w_A} {S : q_S} {h : g_H} (hW : r_W E A S h) (hB : w_B S) {j : Nat} (hj : j < q_ns S) (c : Int32)  : g_Rd l mM_over 5 80 [.ref (A 30 0), .int (nI j), .int c] E h (some (.int (q_over S j c))) := by
  refine g_Rd.of hl (by decide) rfl (Nat.le_of_ble_eq_true rfl) ?_
  intro X hX hXl hR
  obtain ⟨hnp, hns, hne, hpar, hhome, hact⟩ := hB
  show g_Go E X _ h true 0 0 0 [some (.ref (A 30 0)), some (.int (nI j)), some (.int c), none, none, none, none] []
  refine g_aload_n hX dM_over_0 rfl rfl (by first | rfl | exact g_rfr _) 1 rfl ?_
  refine g_iload_n hX dM_over_1 rfl rfl 2 rfl ?_
  refine g_iconst hX dM_over_2 (v := 4) (by decide) 3 rfl ?_
  refine g_cV2r (wt := 0) hX (c_M_value hX.tr hW ⟨hnp, hns, hne, hpar, hhome, hact⟩ (pr := 4) hj (by decide)) dM_over_3 (w_m hW) kM_107 (g_rm.of hR (by decide) (by decide)) (by first | exact Nat.zero_le _ | (rw [hR]; decide)) (by first | exact Nat.zero_le _ | (rw [hR]; decide)) (by first | decide | (simp [Value.category])) 6 rfl ?_
  refine g_istore_n hX (L' := [_, _, _, _, _, _, _]) dM_over_6 rfl (by decide) rfl 7 rfl ?_
  refine g_aload_n hX dM_over_7 rfl rfl (by first | rfl | exact g_rfr _) 8 rfl ?_
  refine g_iload_n hX dM_over_8 rfl rfl 9 rfl ?_
  refine g_iconst hX dM_over_9 (v := 5) (by decide) 10 rfl ?_
  refine g_cV2r (wt := 0) hX (c_M_valueNow hX.tr hW ⟨hnp, hns, hne, hpar, hhome, hact⟩ (pr := 5) hj (by decide)) dM_over_10 (w_m hW) kM_167 (g_rm.of hR (by decide) (by decide)) (by first | exact Nat.zero_le _ | (rw [hR]; decide)) (by first | exact Nat.zero_le _ | (rw [hR]; decide)) (by first | decide | (simp [Value.category])) 13 rfl ?_
  refine g_istore hX (L' := [_, _, _, _, _, _, _]) dM_over_13 (by decide) rfl 15 rfl ?_
  refine g_iconst hX dM_over_15 (v := 0) (by decide) 16 rfl ?_
  refine g_istore hX (L' := [_, _, _, _, _, _, _]) dM_over_16 (by decide) rfl 18 rfl ?_
  refine g_iconst hX dM_over_18 (v := 0) (by decide) 19 rfl ?_
  refine g_istore hX (L' := [_, _, _, _, _, _, _]) dM_over_19 (by decide) rfl 21 rfl ?_
  refine g_iload hX dM_over_21 rfl 23 rfl ?_
  refine g_bipush hX dM_over_23 (v := 24) (by decide) 25 rfl ?_
  refine g_icmp_ge hX dM_over_25 63 28 (by decide) rfl (fun c25 => ?_) (fun c25 => ?_)
  · exact absurd c25 (by decide)
  · refine g_iload hX dM_over_28 rfl 30 rfl ?_
    refine g_iload_n hX dM_over_30 rfl rfl 31 rfl ?_
    refine g_iload hX dM_over_31 rfl 33 rfl ?_
    refine g_ishr hX dM_over_33 34 rfl ?_
    refine g_sipush hX dM_over_34 (v := 255) (by decide) 37 rfl ?_
    refine g_iand hX dM_over_37 38 rfl ?_
    refine g_iload_n hX dM_over_38 rfl rfl 39 rfl ?_
    refine g_iload hX dM_over_39 rfl 41 rfl ?_
    refine g_ishr hX dM_over_41 42 rfl ?_
    refine g_sipush hX dM_over_42 (v := 255) (by decide) 45 rfl ?_
    refine g_iand hX dM_over_45 46 rfl ?_
    refine g_iload hX dM_over_46 rfl 48 rfl ?_
    refine g_cS3r (wt := 1) hX (c_M_mixed hX.tr E h _ _ _) dM_over_48 kM_170 (g_rm.of hR (by decide) (by decide)) (by first | exact Nat.zero_le _ | (rw [hR]; decide)) (by first | exact Nat.zero_le _ | (rw [hR]; decide)) (by first | decide | (simp [Value.category])) 51 rfl ?_
    refine g_iload hX dM_over_51 rfl 53 rfl ?_
    refine g_ishl hX dM_over_53 54 rfl ?_
    refine g_ior hX dM_over_54 55 rfl ?_
    refine g_istore hX (L' := [_, _, _, _, _, _, _]) dM_over_55 (by decide) rfl 57 rfl ?_
    refine g_iinc hX (L' := [_, _, _, _, _, _, _]) dM_over_57 rfl (v := 8) (by decide) rfl 60 rfl ?_
    refine g_goto hX dM_over_60 21 (by decide) ?_
    refine g_iload hX dM_over_21 rfl 23 rfl ?_
    refine g_bipush hX dM_over_23 (v := 24) (by decide) 25 rfl ?_
    refine g_icmp_ge hX dM_over_25 63 28 (by decide) rfl (fun c25 => ?_) (fun c25 => ?_)
    · exact absurd c25 (by decide)
    · refine g_iload hX dM_over_28 rfl 30 rfl ?_
      refine g_iload_n hX dM_over_30 rfl rfl 31 rfl ?_
      refine g_iload hX dM_over_31 rfl 33 rfl ?_
      refine g_ishr hX dM_over_33 34 rfl ?_
      refine g_sipush hX dM_over_34 (v := 255) (by decide) 37 rfl ?_
      refine g_iand hX dM_over_37 38 rfl ?_
      refine g_iload_n hX dM_over_38 rfl rfl 39 rfl ?_
      refine g_iload hX dM_over_39 rfl 41 rfl ?_
      refine g_ishr hX dM_over_41 42 rfl ?_
      refine g_sipush hX dM_over_42 (v := 255) (by decide) 45 rfl ?_
      refine g_iand hX dM_over_45 46 rfl ?_
      refine g_iload hX dM_over_46 rfl 48 rfl ?_
      refine g_cS3r (wt := 1) hX (c_M_mixed hX.tr E h _ _ _) dM_over_48 kM_170 (g_rm.of hR (by decide) (by decide)) (by first | exact Nat.zero_le _ | (rw [hR]; decide)) (by first | exact Nat.zero_le _ | (rw [hR]; decide)) (by first | decide | (simp [Value.category])) 51 rfl ?_
      refine g_iload hX dM_over_51 rfl 53 rfl ?_
      refine g_ishl hX dM_over_53 54 rfl ?_
      refine g_ior hX dM_over_54 55 rfl ?_
      refine g_istore hX (L' := [_, _, _, _, _, _, _]) dM_over_55 (by decide) rfl 57 rfl ?_
      refine g_iinc hX (L' := [_, _, _, _, _, _, _]) dM_over_57 rfl (v := 16) (by decide) rfl 60 rfl ?_
      refine g_goto hX dM_over_60 21 (by decide) ?_
      refine g_iload hX dM_over_21 rfl 23 rfl ?_
      refine g_bipush hX dM_over_23 (v := 24) (by decide) 25 rfl ?_
      refine g_icmp_ge hX dM_over_25 63 28 (by decide) rfl (fun c25 => ?_) (fun c25 => ?_)
      · exact absurd c25 (by decide)
      · refine g_iload hX dM_over_28 rfl 30 rfl ?_
        refine g_iload_n hX dM_over_30 rfl rfl 31 rfl ?_
        refine g_iload hX dM_over_31 rfl 33 rfl ?_
        refine g_ishr hX dM_over_33 34 rfl ?_
        refine g_sipush hX dM_over_34 (v := 255) (by decide) 37 rfl ?_
        refine g_iand hX dM_over_37 38 rfl ?_
        refine g_iload_n hX dM_over_38 rfl rfl 39 rfl ?_
        refine g_iload hX dM_over_39 rfl 41 rfl ?_
        refine g_ishr hX dM_over_41 42 rfl ?_
        refine g_sipush hX dM_over_42 (v := 255) (by decide) 45 rfl ?_
        refine g_iand hX dM_over_45 46 rfl ?_
        refine g_iload hX dM_over_46 rfl 48 rfl ?_
        refine g_cS3r (wt := 1) hX (c_M_mixed hX.tr E h _ _ _) dM_over_48 kM_170 (g_rm.of hR (by decide) (by decide)) (by first | exact Nat.zero_le _ | (rw [hR]; decide)) (by first | exact Nat.zero_le _ | (rw [hR]; decide)) (by first | decide | (simp [Value.category])) 51 rfl ?_
        refine g_iload hX dM_over_51 rfl 53 rfl ?_
        refine g_ishl hX dM_over_53 54 rfl ?_
        refine g_ior hX dM_over_54 55 rfl ?_
        refine g_istore hX (L' := [_, _, _, _, _, _, _]) dM_over_55 (by decide) rfl 57 rfl ?_
        refine g_iinc hX (L' := [_, _, _, _, _, _, _]) dM_over_57 rfl (v := 24) (by decide) rfl 60 rfl ?_
        refine g_goto hX dM_over_60 21 (by decide) ?_
        refine g_iload hX dM_over_21 rfl 23 rfl ?_
        refine g_bipush hX dM_over_23 (v := 24) (by decide) 25 rfl ?_
        refine g_icmp_ge hX dM_over_25 63 28 (by decide) rfl (fun c25 => ?_) (fun c25 => ?_)
        · refine g_iload hX dM_over_63 rfl 65 rfl ?_
          exact g_iret hX rfl rfl dM_over_65 ⟨by rfl, rfl⟩ rfl (Nat.zero_le _) (Nat.zero_le _)
        · exact absurd (by decide) c25
set_option maxRecDepth 100000 in
set_option maxHeartbeats 4000000 in
theorem lp_M_painted {E : g_E} {A : w_A} {S : q_S} {h : g_H} (hW : r_W E A S h) (hB : w_B S) {X : g_X} (hX : g_ok E X mM_painted) (hR : X.R = { frames := 6, cells := 0, slots := 0, locals := 98 }) {p : Nat} (hp : p < 2 ^ 31) {all x y c0 : Int32} : ∀ (r s : Nat) (c : Int32), s + r = q_ns S → c = q_paint S p all x y c0 s →
    g_Go E X (true, fun r' h' => r' = .inr (some (.int (q_paint S p all x y c0 (q_ns S)))) ∧ h' = h) h true 0 0 7 [some (.ref (A 30 0)), some (.int (nI p)), some (.int all), some (.int x), some (.int y), some (.int c0), some (.int c), some (.int (nI s))] [] := by
  obtain ⟨hnp, hns, hne, hpar, hhome, hact⟩ := hB
  intro r
  induction r with
  | zero =>
    intro s c hs hc
    have he2 : s = q_ns S := by omega
    subst he2
    refine g_iload hX dM_painted_7 rfl 9 rfl ?_
    refine g_aload_n hX dM_painted_9 rfl rfl (by first | rfl | exact g_rfr _) 10 rfl ?_
    refine g_get hX dM_painted_10 fM_82 (w_m hW) rfl 13 rfl ?_
    refine g_icmp_ge hX dM_painted_13 74 16 (by decide) rfl (fun c13 => ?_) (fun c13 => ?_)
    · refine g_iload hX dM_painted_74 rfl 76 rfl ?_
      exact g_iret hX rfl rfl dM_painted_76 ⟨by rw [hc], rfl⟩ rfl (Nat.zero_le _) (Nat.zero_le _)
    · exact absurd (nI_le (Nat.le_refl _) (by omega)) c13
  | succ r ih =>
    intro s c hs hc
    have hsn : s < q_ns S := by omega
    have hhk := (hhome _ hsn).1
    have hb1 : q_home S s < 2 ^ 31 := by omega
    refine g_iload hX dM_painted_7 rfl 9 rfl ?_
    refine g_aload_n hX dM_painted_9 rfl rfl (by first | rfl | exact g_rfr _) 10 rfl ?_
    refine g_get hX dM_painted_10 fM_82 (w_m hW) rfl 13 rfl ?_
    refine g_icmp_ge hX dM_painted_13 74 16 (by decide) rfl (fun c13 => ?_) (fun c13 => ?_)
    · exact absurd c13 (nI_ge (by omega) (by omega))
    · refine g_aload_n hX dM_painted_16 rfl rfl (by first | rfl | exact g_rfr _) 17 rfl ?_
      refine g_get hX dM_painted_17 fM_16 (w_m hW) rfl 20 rfl ?_
      refine g_iload hX dM_painted_20 rfl 22 rfl ?_
      refine g_iald hX dM_painted_22 (w_ar hW _ (by decide)) (g_ix.nat (by omega) (by decide)) 23 rfl ?_
      refine g_iload_n hX dM_painted_23 rfl rfl 24 rfl ?_
      refine g_icmp_ne hX dM_painted_24 64 27 (by decide) rfl (fun c24 => ?_) (fun c24 => ?_)
      · refine g_iload hX dM_painted_64 rfl 66 rfl ?_
        refine g_istore hX (L' := [_, _, _, _, _, _, _, _]) dM_painted_66 (by decide) rfl 68 rfl ?_
        refine g_iinc hX (L' := [_, _, _, _, _, _, _, _]) dM_painted_68 rfl (q_inc _) rfl 71 rfl ?_
        refine g_goto hX dM_painted_71 7 (by decide) ?_
        exact ih (s + 1) _ (by omega) (by rw [q_paint, if_neg (fun q => c24 (congrArg nI q.1))]; exact hc)
      · refine g_iload_n hX dM_painted_27 rfl rfl 28 rfl ?_
        refine g_if_ne hX dM_painted_28 41 31 (by decide) rfl (fun c28 => ?_) (fun c28 => ?_)
        · refine g_aload_n hX dM_painted_41 rfl rfl (by first | rfl | exact g_rfr _) 42 rfl ?_
          refine g_iload hX dM_painted_42 rfl 44 rfl ?_
          refine g_iload_n hX dM_painted_44 rfl rfl 45 rfl ?_
          refine g_iload hX dM_painted_45 rfl 47 rfl ?_
          refine g_cV3r (wt := 0) hX (c_M_covers hX.tr hW ⟨hnp, hns, hne, hpar, hhome, hact⟩ hsn x y) dM_painted_47 (w_m hW) kM_174 (g_rm.of hR (by decide) (by decide)) (by first | exact Nat.zero_le _ | (rw [hR]; decide)) (by first | exact Nat.zero_le _ | (rw [hR]; decide)) (by first | decide | (simp [Value.category])) 50 rfl ?_
          refine g_if_eq hX dM_painted_50 64 53 (by decide) rfl (fun c50 => ?_) (fun c50 => ?_)
          · refine g_iload hX dM_painted_64 rfl 66 rfl ?_
            refine g_istore hX (L' := [_, _, _, _, _, _, _, _]) dM_painted_66 (by decide) rfl 68 rfl ?_
            refine g_iinc hX (L' := [_, _, _, _, _, _, _, _]) dM_painted_68 rfl (q_inc _) rfl 71 rfl ?_
            refine g_goto hX dM_painted_71 7 (by decide) ?_
            exact ih (s + 1) _ (by omega) (by rw [q_paint, if_neg (fun q => q.2.2 c50)]; exact hc)
          · refine g_aload_n hX dM_painted_53 rfl rfl (by first | rfl | exact g_rfr _) 54 rfl ?_
            refine g_iload hX dM_painted_54 rfl 56 rfl ?_
            refine g_iload hX dM_painted_56 rfl 58 rfl ?_
            refine g_cV2r (wt := 0) hX (c_M_over hX.tr hW ⟨hnp, hns, hne, hpar, hhome, hact⟩ hsn c) dM_painted_58 (w_m hW) kM_178 (g_rm.of hR (by decide) (by decide)) (by first | exact Nat.zero_le _ | (rw [hR]; decide)) (by first | exact Nat.zero_le _ | (rw [hR]; decide)) (by first | decide | (simp [Value.category])) 61 rfl ?_
            refine g_goto hX dM_painted_61 66 (by decide) ?_
            refine g_istore hX (L' := [_, _, _, _, _, _, _, _]) dM_painted_66 (by decide) rfl 68 rfl ?_
            refine g_iinc hX (L' := [_, _, _, _, _, _, _, _]) dM_painted_68 rfl (q_inc _) rfl 71 rfl ?_
            refine g_goto hX dM_painted_71 7 (by decide) ?_
            exact ih (s + 1) _ (by omega) (by rw [q_paint, if_pos ⟨q_inj c24 hb1 hp, fun q => absurd q c28, c50⟩, ← hc])
        · refine g_aload_n hX dM_painted_31 rfl rfl (by first | rfl | exact g_rfr _) 32 rfl ?_
          refine g_get hX dM_painted_32 fM_19 (w_m hW) rfl 35 rfl ?_
          refine g_iload hX dM_painted_35 rfl 37 rfl ?_
          refine g_iald hX dM_painted_37 (w_ar hW _ (by decide)) (g_ix.nat (by omega) (by decide)) 38 rfl ?_
          refine g_if_ge hX dM_painted_38 64 41 (by decide) rfl (fun c38 => ?_) (fun c38 => ?_)
          · refine g_iload hX dM_painted_64 rfl 66 rfl ?_
            refine g_istore hX (L' := [_, _, _, _, _, _, _, _]) dM_painted_66 (by decide) rfl 68 rfl ?_
            refine g_iinc hX (L' := [_, _, _, _, _, _, _, _]) dM_painted_68 rfl (q_inc _) rfl 71 rfl ?_
            refine g_goto hX dM_painted_71 7 (by decide) ?_
            exact ih (s + 1) _ (by omega) (by rw [q_paint, if_neg (fun q => absurd (q.2.1 c28) (Int32.not_lt.mpr c38))]; exact hc)
          · refine g_aload_n hX dM_painted_41 rfl rfl (by first | rfl | exact g_rfr _) 42 rfl ?_
            refine g_iload hX dM_painted_42 rfl 44 rfl ?_
            refine g_iload_n hX dM_painted_44 rfl rfl 45 rfl ?_
            refine g_iload hX dM_painted_45 rfl 47 rfl ?_
            refine g_cV3r (wt := 0) hX (c_M_covers hX.tr hW ⟨hnp, hns, hne, hpar, hhome, hact⟩ hsn x y) dM_painted_47 (w_m hW) kM_174 (g_rm.of hR (by decide) (by decide)) (by first | exact Nat.zero_le _ | (rw [hR]; decide)) (by first | exact Nat.zero_le _ | (rw [hR]; decide)) (by first | decide | (simp [Value.category])) 50 rfl ?_
            refine g_if_eq hX dM_painted_50 64 53 (by decide) rfl (fun c50 => ?_) (fun c50 => ?_)
            · refine g_iload hX dM_painted_64 rfl 66 rfl ?_
              refine g_istore hX (L' := [_, _, _, _, _, _, _, _]) dM_painted_66 (by decide) rfl 68 rfl ?_
              refine g_iinc hX (L' := [_, _, _, _, _, _, _, _]) dM_painted_68 rfl (q_inc _) rfl 71 rfl ?_
              refine g_goto hX dM_painted_71 7 (by decide) ?_
              exact ih (s + 1) _ (by omega) (by rw [q_paint, if_neg (fun q => q.2.2 c50)]; exact hc)
            · refine g_aload_n hX dM_painted_53 rfl rfl (by first | rfl | exact g_rfr _) 54 rfl ?_
              refine g_iload hX dM_painted_54 rfl 56 rfl ?_
              refine g_iload hX dM_painted_56 rfl 58 rfl ?_
              refine g_cV2r (wt := 0) hX (c_M_over hX.tr hW ⟨hnp, hns, hne, hpar, hhome, hact⟩ hsn c) dM_painted_58 (w_m hW) kM_178 (g_rm.of hR (by decide) (by decide)) (by first | exact Nat.zero_le _ | (rw [hR]; decide)) (by first | exact Nat.zero_le _ | (rw [hR]; decide)) (by first | decide | (simp [Value.category])) 61 rfl ?_
              refine g_goto hX dM_painted_61 66 (by decide) ?_
              refine g_istore hX (L' := [_, _, _, _, _, _, _, _]) dM_painted_66 (by decide) rfl 68 rfl ?_
              refine g_iinc hX (L' := [_, _, _, _, _, _, _, _]) dM_painted_68 rfl (q_inc _) rfl 71 rfl ?_
              refine g_goto hX dM_painted_71 7 (by decide) ?_
              exact ih (s + 1) _ (by omega) (by rw [q_paint, if_pos ⟨q_inj c24 hb1 hp, fun _ => Int32.not_le.mp c38, c50⟩, ← hc])
set_option maxRecDepth 100000 in
set_option maxHeartbeats 4000000 in
theorem c_M_painted {l : Launch} (hl : l.stackTraces = false) {E : g_E} {A : w_A} {S : q_S} {h : g_H} (hW : r_W E A S h) (hB : w_B S) {p : Nat} (hp : p < 2 ^ 31) (all x y c0 : Int32)  : g_Rd l mM_painted 6 98 [.ref (A 30 0), .int (nI p), .int all, .int x, .int y, .int c0] E h (some (.int (q_paint S p all x y c0 (q_ns S)))) := by
  refine g_Rd.of hl (by decide) rfl (Nat.le_of_ble_eq_true rfl) ?_
  intro X hX hXl hR
  obtain ⟨hnp, hns, hne, hpar, hhome, hact⟩ := hB
  show g_Go E X _ h true 0 0 0 [some (.ref (A 30 0)), some (.int (nI p)), some (.int all), some (.int x), some (.int y), some (.int c0), none, none] []
  refine g_iload hX dM_painted_0 rfl 2 rfl ?_
  refine g_istore hX (L' := [_, _, _, _, _, _, _, _]) dM_painted_2 (by decide) rfl 4 rfl ?_
  refine g_iconst hX dM_painted_4 (v := 0) (by decide) 5 rfl ?_
  refine g_istore hX (L' := [_, _, _, _, _, _, _, _]) dM_painted_5 (by decide) rfl 7 rfl ?_
  have hlp := lp_M_painted hW ⟨hnp, hns, hne, hpar, hhome, hact⟩ hX hR hp (all := all) (x := x) (y := y) (c0 := c0) (q_ns S) 0 c0 (by omega) rfl
  rw [nI_0] at hlp
  exact hlp
