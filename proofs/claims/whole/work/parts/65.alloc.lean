set_option maxRecDepth 100000 in
set_option maxHeartbeats 4000000 in
theorem c_S_shape_1 {l : Launch} (hl : l.stackTraces = false) {E : g_E} {A : w_A} {S Sm : q_S} {h : g_H} (hW : w_W E A S Sm h) (hB : w_B S) {f : Int32} (s : Int32) (hf : r_noPage S f = 1) : g_Ct l mS_shape 7 121 1 6 [.ref (A 0 0), .int f, .int s] E h (false, fun r h' => r = .inl 1 ∧ h' = h) := by
  refine g_Ct.of hl (by decide) (by first | rfl | simp [g_rfc, Value.category]) (Nat.le_of_ble_eq_true rfl) ?_
  intro X hX hXl hR
  obtain ⟨hnp, hns, hne, hpar, hhome, hact⟩ := id hB
  show g_Go E X _ h true 0 0 0 [some (.ref (A 0 0)), some (.int f), some (.int s), none, none] []
  refine g_aload_n hX dS_shape_0 rfl rfl (by first | rfl | exact g_rfr _) 1 rfl ?_
  refine g_iload_n hX dS_shape_1 rfl rfl 2 rfl ?_
  refine g_cV1r (wt := 0) hX (c_S_findPage_n hX.tr hW hB hf) dS_shape_2 (w_s hW) kS_58 (g_rm.of hR (by decide) (by decide)) (by first | exact Nat.zero_le _ | (rw [hR]; decide)) (by first | exact Nat.zero_le _ | (rw [hR]; decide)) (by first | decide | (simp [Value.category])) 5 rfl ?_
  refine g_astore_n hX (L' := [_, _, _, _, _]) dS_shape_5 rfl (by decide) (by first | rfl | exact g_rfr _) rfl 6 rfl ?_
  refine g_aload_n hX dS_shape_6 rfl rfl (by first | rfl | exact g_rfr _) 7 rfl ?_
  refine g_ifnonnull (r := none) hX dS_shape_7 20 10 (by decide) rfl (fun a q => by cases q) (fun _ => ?_)
  exact g_throw (wt := 0) hX rfl dS_shape_10 dS_shape_13 dS_shape_14 dS_shape_16 dS_shape_19 rfl rfl rfl rfl (tx := "no such page") (by simp [g_strs]) x_1 rfl ⟨rfl, rfl⟩ rfl (by rw [hR]; decide) (by rw [hR]; decide) (by rw [hR]; decide) (by decide) (by rw [hR]; decide)
set_option maxRecDepth 100000 in
set_option maxHeartbeats 4000000 in
theorem c_S_shape_2 {l : Launch} (hl : l.stackTraces = false) {E : g_E} {A : w_A} {S Sm : q_S} {h : g_H} (hW : w_W E A S Sm h) (hB : w_B S) {p : Nat} (hp : p < q_np S) {s : Int32} (hs : s < -1 ∨ ¬ s ≤ 7) : g_Ct l mS_shape 7 121 1 6 [.ref (A 0 0), .int (nI p), .int s] E h (false, fun r h' => r = .inl 0 ∧ h' = h) := by
  refine g_Ct.of hl (by decide) (by first | rfl | simp [g_rfc, Value.category]) (Nat.le_of_ble_eq_true rfl) ?_
  intro X hX hXl hR
  obtain ⟨hnp, hns, hne, hpar, hhome, hact⟩ := id hB
  show g_Go E X _ h true 0 0 0 [some (.ref (A 0 0)), some (.int (nI p)), some (.int s), none, none] []
  refine g_aload_n hX dS_shape_0 rfl rfl (by first | rfl | exact g_rfr _) 1 rfl ?_
  refine g_iload_n hX dS_shape_1 rfl rfl 2 rfl ?_
  refine g_cV1r (wt := 0) hX (c_S_findPage hX.tr hW hB hp) dS_shape_2 (w_s hW) kS_58 (g_rm.of hR (by decide) (by decide)) (by first | exact Nat.zero_le _ | (rw [hR]; decide)) (by first | exact Nat.zero_le _ | (rw [hR]; decide)) (by first | decide | (simp [Value.category])) 5 rfl ?_
  refine g_astore_n hX (L' := [_, _, _, _, _]) dS_shape_5 rfl (by decide) (by first | rfl | exact g_rfr _) rfl 6 rfl ?_
  refine g_aload_n hX dS_shape_6 rfl rfl (by first | rfl | exact g_rfr _) 7 rfl ?_
  refine g_ifnonnull (r := some (A 2 p)) hX dS_shape_7 20 10 (by decide) rfl (fun _ _ => ?_) (fun q => by cases q)
  refine g_iload_n hX dS_shape_20 rfl rfl 21 rfl ?_
  refine g_iconst hX dS_shape_21 (v := (-1)) (by decide) 22 rfl ?_
  refine g_bipush hX dS_shape_22 (v := 7) (by decide) 24 rfl ?_
  refine g_cS3r (wt := 0) hX (c_S_isWithin hX.tr E h _ _ _) dS_shape_24 kS_47 (g_rm.of hR (by decide) (by decide)) (by first | exact Nat.zero_le _ | (rw [hR]; decide)) (by first | exact Nat.zero_le _ | (rw [hR]; decide)) (by first | decide | (simp [Value.category])) 27 rfl ?_
  refine g_if_ne hX dS_shape_27 40 30 (by decide) rfl (fun c27 => ?_) (fun c27 => ?_)
  · exact absurd (r_in_0 hs) c27
  · exact g_throw (wt := 0) hX rfl dS_shape_30 dS_shape_33 dS_shape_34 dS_shape_36 dS_shape_39 rfl rfl rfl rfl (tx := "no such slot") (by simp [g_strs]) x_0 rfl ⟨rfl, rfl⟩ rfl (by rw [hR]; decide) (by rw [hR]; decide) (by rw [hR]; decide) (by decide) (by rw [hR]; decide)
set_option maxRecDepth 100000 in
set_option maxHeartbeats 4000000 in
theorem c_S_shape_3 {l : Launch} (hl : l.stackTraces = false) {E : g_E} {A : w_A} {S Sm : q_S} {h : g_H} (hW : w_W E A S Sm h) (hB : w_B S) {p : Nat} (hp : p < q_np S) {s : Int32} {x : Nat} (hs1 : ¬ s < -1) (hs2 : s ≤ 7) (hs0 : ¬ s < 0) (hx : q_slotted S p s = some x) : g_Ct l mS_shape 7 121 1 6 [.ref (A 0 0), .int (nI p), .int s] E h (false, fun r h' => r = .inl 2 ∧ h' = h) := by
  refine g_Ct.of hl (by decide) (by first | rfl | simp [g_rfc, Value.category]) (Nat.le_of_ble_eq_true rfl) ?_
  intro X hX hXl hR
  obtain ⟨hnp, hns, hne, hpar, hhome, hact⟩ := id hB
  show g_Go E X _ h true 0 0 0 [some (.ref (A 0 0)), some (.int (nI p)), some (.int s), none, none] []
  refine g_aload_n hX dS_shape_0 rfl rfl (by first | rfl | exact g_rfr _) 1 rfl ?_
  refine g_iload_n hX dS_shape_1 rfl rfl 2 rfl ?_
  refine g_cV1r (wt := 0) hX (c_S_findPage hX.tr hW hB hp) dS_shape_2 (w_s hW) kS_58 (g_rm.of hR (by decide) (by decide)) (by first | exact Nat.zero_le _ | (rw [hR]; decide)) (by first | exact Nat.zero_le _ | (rw [hR]; decide)) (by first | decide | (simp [Value.category])) 5 rfl ?_
  refine g_astore_n hX (L' := [_, _, _, _, _]) dS_shape_5 rfl (by decide) (by first | rfl | exact g_rfr _) rfl 6 rfl ?_
  refine g_aload_n hX dS_shape_6 rfl rfl (by first | rfl | exact g_rfr _) 7 rfl ?_
  refine g_ifnonnull (r := some (A 2 p)) hX dS_shape_7 20 10 (by decide) rfl (fun _ _ => ?_) (fun q => by cases q)
  refine g_iload_n hX dS_shape_20 rfl rfl 21 rfl ?_
  refine g_iconst hX dS_shape_21 (v := (-1)) (by decide) 22 rfl ?_
  refine g_bipush hX dS_shape_22 (v := 7) (by decide) 24 rfl ?_
  refine g_cS3r (wt := 0) hX (c_S_isWithin hX.tr E h _ _ _) dS_shape_24 kS_47 (g_rm.of hR (by decide) (by decide)) (by first | exact Nat.zero_le _ | (rw [hR]; decide)) (by first | exact Nat.zero_le _ | (rw [hR]; decide)) (by first | decide | (simp [Value.category])) 27 rfl ?_
  refine g_if_ne hX dS_shape_27 40 30 (by decide) rfl (fun c27 => ?_) (fun c27 => ?_)
  · refine g_aload_n hX dS_shape_40 rfl rfl (by first | rfl | exact g_rfr _) 41 rfl ?_
    refine g_iload_n hX dS_shape_41 rfl rfl 42 rfl ?_
    refine g_cS2r (wt := 0) hX ((show g_Rd X.l mS_shapeInSlot 3 40 [.ref (A 2 p), .int s] E h (some (.ref (A 7 x))) by have h9 := c_S_sis hX.tr hW hB hp (s := s) (fun q => hs0 (by rw [q]; decide)); rw [hx] at h9; exact h9)) dS_shape_42 kS_99 (g_rm.of hR (by decide) (by decide)) (by first | exact Nat.zero_le _ | (rw [hR]; decide)) (by first | exact Nat.zero_le _ | (rw [hR]; decide)) (by first | decide | (simp [Value.category])) 45 rfl ?_
    refine g_ifnull (r := some (A 7 x)) hX dS_shape_45 58 48 (by decide) rfl (fun q => by cases q) (fun _ _ => ?_)
    exact g_throw (wt := 0) hX rfl dS_shape_48 dS_shape_51 dS_shape_52 dS_shape_54 dS_shape_57 rfl rfl rfl rfl (tx := "the slot is taken") (by simp [g_strs]) x_2 rfl ⟨rfl, rfl⟩ rfl (by rw [hR]; decide) (by rw [hR]; decide) (by rw [hR]; decide) (by decide) (by rw [hR]; decide)
  · exact absurd (c27.symm.trans (r_in_1 hs1 hs2)) (by decide)
theorem q_m1 {s : Int32} (h1 : ¬ s < -1) (h0 : s < 0) : s = -1 := by
  rw [Int32.lt_iff_toInt_lt] at h1 h0
  rw [show (-1 : Int32).toInt = -1 from by decide] at h1
  rw [show (0 : Int32).toInt = 0 from by decide] at h0
  apply Int32.toInt_inj.mp
  rw [show (-1 : Int32).toInt = -1 from by decide]
  omega
theorem c_S_sis0 {l : Launch} (hl : l.stackTraces = false) {E : g_E} {A : w_A} {S Sm : q_S} {h : g_H} (hW : w_W E A S Sm h) (hB : w_B S) {p : Nat} (hp : p < q_np S) {s : Int32} (hs1 : ¬ s < -1) (hx : s < 0 ∨ q_slotted S p s = none) : g_Rd l mS_shapeInSlot 3 40 [.ref (A 2 p), .int s] E h (some .null) := by
  by_cases h0 : s < 0
  · rw [q_m1 hs1 h0]
    exact c_S_sis_m hl hW hB hp
  · have h9 := c_S_sis hl hW hB hp (s := s) (fun q => h0 (by rw [q]; decide))
    rw [hx.resolve_left h0] at h9
    exact h9
set_option maxRecDepth 100000 in
set_option maxHeartbeats 4000000 in
theorem c_S_shape_4 {l : Launch} (hl : l.stackTraces = false) {E : g_E} {A : w_A} {S Sm : q_S} {h : g_H} (hW : w_W E A S Sm h) (hB : w_B S) {p : Nat} (hp : p < q_np S) {s : Int32} (hs1 : ¬ s < -1) (hs2 : s ≤ 7) (hx : s < 0 ∨ q_slotted S p s = none) (hn : q_ns S = 24) : g_Ct l mS_shape 7 121 1 6 [.ref (A 0 0), .int (nI p), .int s] E h (false, fun r h' => r = .inl 3 ∧ h' = h) := by
  refine g_Ct.of hl (by decide) (by first | rfl | simp [g_rfc, Value.category]) (Nat.le_of_ble_eq_true rfl) ?_
  intro X hX hXl hR
  obtain ⟨hnp, hns, hne, hpar, hhome, hact⟩ := id hB
  show g_Go E X _ h true 0 0 0 [some (.ref (A 0 0)), some (.int (nI p)), some (.int s), none, none] []
  refine g_aload_n hX dS_shape_0 rfl rfl (by first | rfl | exact g_rfr _) 1 rfl ?_
  refine g_iload_n hX dS_shape_1 rfl rfl 2 rfl ?_
  refine g_cV1r (wt := 0) hX (c_S_findPage hX.tr hW hB hp) dS_shape_2 (w_s hW) kS_58 (g_rm.of hR (by decide) (by decide)) (by first | exact Nat.zero_le _ | (rw [hR]; decide)) (by first | exact Nat.zero_le _ | (rw [hR]; decide)) (by first | decide | (simp [Value.category])) 5 rfl ?_
  refine g_astore_n hX (L' := [_, _, _, _, _]) dS_shape_5 rfl (by decide) (by first | rfl | exact g_rfr _) rfl 6 rfl ?_
  refine g_aload_n hX dS_shape_6 rfl rfl (by first | rfl | exact g_rfr _) 7 rfl ?_
  refine g_ifnonnull (r := some (A 2 p)) hX dS_shape_7 20 10 (by decide) rfl (fun _ _ => ?_) (fun q => by cases q)
  refine g_iload_n hX dS_shape_20 rfl rfl 21 rfl ?_
  refine g_iconst hX dS_shape_21 (v := (-1)) (by decide) 22 rfl ?_
  refine g_bipush hX dS_shape_22 (v := 7) (by decide) 24 rfl ?_
  refine g_cS3r (wt := 0) hX (c_S_isWithin hX.tr E h _ _ _) dS_shape_24 kS_47 (g_rm.of hR (by decide) (by decide)) (by first | exact Nat.zero_le _ | (rw [hR]; decide)) (by first | exact Nat.zero_le _ | (rw [hR]; decide)) (by first | decide | (simp [Value.category])) 27 rfl ?_
  refine g_if_ne hX dS_shape_27 40 30 (by decide) rfl (fun c27 => ?_) (fun c27 => ?_)
  · refine g_aload_n hX dS_shape_40 rfl rfl (by first | rfl | exact g_rfr _) 41 rfl ?_
    refine g_iload_n hX dS_shape_41 rfl rfl 42 rfl ?_
    refine g_cS2r (wt := 0) hX (c_S_sis0 hX.tr hW hB hp hs1 hx) dS_shape_42 kS_99 (g_rm.of hR (by decide) (by decide)) (by first | exact Nat.zero_le _ | (rw [hR]; decide)) (by first | exact Nat.zero_le _ | (rw [hR]; decide)) (by first | decide | (simp [Value.category])) 45 rfl ?_
    refine g_ifnull (r := none) hX dS_shape_45 58 48 (by decide) rfl (fun _ => ?_) (fun a q => by cases q)
    refine g_aload_n hX dS_shape_58 rfl rfl (by first | rfl | exact g_rfr _) 59 rfl ?_
    refine g_get hX dS_shape_59 fS_24 (w_s hW) rfl 62 rfl ?_
    refine g_cF0r (wt := 0) hX ((show g_Rd X.l mA_size 0 0 [.ref (A 20 0)] E h (some (.int (nI (q_ns S)))) by have h9 := c_size hX.tr (w_l20 hW hB); rw [List.length_range] at h9; exact h9)) dS_shape_62 (w_l20 hW hB).1 kS_71 (g_rm.of hR (by decide) (by decide)) (by first | exact Nat.zero_le _ | (rw [hR]; decide)) (by first | exact Nat.zero_le _ | (rw [hR]; decide)) (by first | decide | (simp [Value.category])) 67 rfl ?_
    refine g_bipush hX dS_shape_67 (v := 24) (by decide) 69 rfl ?_
    refine g_icmp_lt hX dS_shape_69 82 72 (by decide) rfl (fun c69 => ?_) (fun c69 => ?_)
    · exact absurd c69 (nI_nlt (a := q_ns S) (b := 24) (by omega) (by omega))
    · exact g_throw (wt := 0) hX rfl dS_shape_72 dS_shape_75 dS_shape_76 dS_shape_78 dS_shape_81 rfl rfl rfl rfl (tx := "no more shapes") (by simp [g_strs]) x_3 rfl ⟨rfl, rfl⟩ rfl (by rw [hR]; decide) (by rw [hR]; decide) (by rw [hR]; decide) (by decide) (by rw [hR]; decide)
  · exact absurd (c27.symm.trans (r_in_1 hs1 hs2)) (by decide)
set_option maxRecDepth 100000 in
set_option maxHeartbeats 4000000 in
theorem c_S_shape_0 {l : Launch} (hl : l.stackTraces = false) {E : g_E} {A : w_A} {S Sm : q_S} {h : g_H} (hW : w_W E A S Sm h) (hB : w_B S) {p : Nat} (hp : p < q_np S) {s : Int32} (hs1 : ¬ s < -1) (hs2 : s ≤ 7) (hx : s < 0 ∨ q_slotted S p s = none) (hn : q_ns S < 24) (hz : ∀ i, 7 * q_ns S ≤ i → S.2 2 i = 0 ∧ S.2 3 i = 0) : g_Ct l mS_shape 7 121 7 93 [.ref (A 0 0), .int (nI p), .int s] E h (false, fun r' h' => r' = .inr (some (.int (nI (q_ns S)))) ∧ ∃ B, w_same A B ∧ w_W E B (q_up1 (q_up1 (q_up2 (q_up1 S 2 (q_ns S) p) 1 (q_ns S) s) 3 (q_ns S) 0) 0 1 (q_ns S + 1)) Sm h') := by
  refine g_Ct.of hl (by decide) (by first | rfl | simp [g_rfc, Value.category]) (Nat.le_of_ble_eq_true rfl) ?_
  intro X hX hXl hR
  obtain ⟨hnp, hns, hne, hpar, hhome, hact⟩ := id hB
  show g_Go E X _ h true 0 0 0 [some (.ref (A 0 0)), some (.int (nI p)), some (.int s), none, none] []
  refine g_aload_n hX dS_shape_0 rfl rfl (by first | rfl | exact g_rfr _) 1 rfl ?_
  refine g_iload_n hX dS_shape_1 rfl rfl 2 rfl ?_
  refine g_cV1r (wt := 0) hX (c_S_findPage hX.tr hW hB hp) dS_shape_2 (w_s hW) kS_58 (g_rm.of hR (by decide) (by decide)) (by first | exact Nat.zero_le _ | (rw [hR]; decide)) (by first | exact Nat.zero_le _ | (rw [hR]; decide)) (by first | decide | (simp [Value.category])) 5 rfl ?_
  refine g_astore_n hX (L' := [_, _, _, _, _]) dS_shape_5 rfl (by decide) (by first | rfl | exact g_rfr _) rfl 6 rfl ?_
  refine g_aload_n hX dS_shape_6 rfl rfl (by first | rfl | exact g_rfr _) 7 rfl ?_
  refine g_ifnonnull (r := some (A 2 p)) hX dS_shape_7 20 10 (by decide) rfl (fun _ _ => ?_) (fun q => by cases q)
  refine g_iload_n hX dS_shape_20 rfl rfl 21 rfl ?_
  refine g_iconst hX dS_shape_21 (v := (-1)) (by decide) 22 rfl ?_
  refine g_bipush hX dS_shape_22 (v := 7) (by decide) 24 rfl ?_
  refine g_cS3r (wt := 0) hX (c_S_isWithin hX.tr E h _ _ _) dS_shape_24 kS_47 (g_rm.of hR (by decide) (by decide)) (by first | exact Nat.zero_le _ | (rw [hR]; decide)) (by first | exact Nat.zero_le _ | (rw [hR]; decide)) (by first | decide | (simp [Value.category])) 27 rfl ?_
  refine g_if_ne hX dS_shape_27 40 30 (by decide) rfl (fun c27 => ?_) (fun c27 => ?_)
  · refine g_aload_n hX dS_shape_40 rfl rfl (by first | rfl | exact g_rfr _) 41 rfl ?_
    refine g_iload_n hX dS_shape_41 rfl rfl 42 rfl ?_
    refine g_cS2r (wt := 0) hX (c_S_sis0 hX.tr hW hB hp hs1 hx) dS_shape_42 kS_99 (g_rm.of hR (by decide) (by decide)) (by first | exact Nat.zero_le _ | (rw [hR]; decide)) (by first | exact Nat.zero_le _ | (rw [hR]; decide)) (by first | decide | (simp [Value.category])) 45 rfl ?_
    refine g_ifnull (r := none) hX dS_shape_45 58 48 (by decide) rfl (fun _ => ?_) (fun a q => by cases q)
    refine g_aload_n hX dS_shape_58 rfl rfl (by first | rfl | exact g_rfr _) 59 rfl ?_
    refine g_get hX dS_shape_59 fS_24 (w_s hW) rfl 62 rfl ?_
    refine g_cF0r (wt := 0) hX ((show g_Rd X.l mA_size 0 0 [.ref (A 20 0)] E h (some (.int (nI (q_ns S)))) by have h9 := c_size hX.tr (w_l20 hW hB); rw [List.length_range] at h9; exact h9)) dS_shape_62 (w_l20 hW hB).1 kS_71 (g_rm.of hR (by decide) (by decide)) (by first | exact Nat.zero_le _ | (rw [hR]; decide)) (by first | exact Nat.zero_le _ | (rw [hR]; decide)) (by first | decide | (simp [Value.category])) 67 rfl ?_
    refine g_bipush hX dS_shape_67 (v := 24) (by decide) 69 rfl ?_
    refine g_icmp_lt hX dS_shape_69 82 72 (by decide) rfl (fun c69 => ?_) (fun c69 => ?_)
    · refine g_new hX dS_shape_82 nS_110 (by rw [hR]; decide) (by rw [hR]; decide) 85 rfl (fun q hq zq => ?_)
      have hG := hW.g.new 7 (q_ns S) (.inr (2, [.int 0, .null, .int 0, .null, .null, .null, .null])) hq zq
      revert hG
      generalize g_set h q _ = h1
      intro hG
      refine g_dup hX dS_shape_85 rfl 86 rfl ?_
      refine g_aload_n hX dS_shape_86 rfl rfl (by first | rfl | exact g_rfr _) 87 rfl ?_
      refine g_get hX dS_shape_87 fS_24 (show h1 (A 0 0) = some (w_cell E A S 0 0) from hG.1 0 0 (Or.inr ((show w_lv S Sm 0 0 from ⟨rfl, by decide⟩)))) rfl 90 rfl ?_
      refine g_cF0r (wt := 2) hX ((show g_Rd X.l mA_size 0 0 [.ref (A 20 0)] E h1 (some (.int (nI (q_ns S)))) by have h9 := c_A_size hX.tr E h1 (show h1 (A 20 0) = some (w_list E (A 21 0) (List.range (q_ns S)).length) from hG.1 20 0 (Or.inr ((show w_lv S Sm 20 0 from ⟨rfl, by decide⟩)))); rw [List.length_range] at h9; exact h9)) dS_shape_90 (show h1 (A 20 0) = some (w_list E (A 21 0) (List.range (q_ns S)).length) from hG.1 20 0 (Or.inr ((show w_lv S Sm 20 0 from ⟨rfl, by decide⟩)))) kS_71 (g_rm.of hR (by decide) (by decide)) (by first | exact Nat.zero_le _ | (rw [hR]; decide)) (by first | exact Nat.zero_le _ | (rw [hR]; decide)) (by first | decide | (simp [Value.category])) 95 rfl ?_
      refine g_aload_n hX dS_shape_95 rfl rfl (by first | rfl | exact g_rfr _) 96 rfl ?_
      refine g_iload_n hX dS_shape_96 rfl rfl 97 rfl ?_
      refine g_cI3 (wt := 1) hX (c_H_initW hX.tr hG (w_uA_same _ _ _ _) (Or.inl ⟨rfl, rfl⟩) (w_uc_same _ _ _ _)) dS_shape_97 kS_112 (g_rm.of hR (by decide) (by decide)) (by first | exact Nat.zero_le _ | (rw [hR]; decide)) (by first | exact Nat.zero_le _ | (rw [hR]; decide)) (by first | decide | (simp [Value.category])) (fun q => by cases q) 100 rfl (fun v h hP => ?_) (fun k h hP => by cases hP.1)
      obtain ⟨hv, q0, q1, q2, q3, hG⟩ := hP
      cases hv
      show g_Go E X _ h false _ _ 100 _ [.ref q]
      refine g_astore hX (L' := [_, _, _, _, _]) dS_shape_100 (by decide) (by first | rfl | exact g_rfr _) rfl 102 rfl ?_
      refine g_aload_n hX dS_shape_102 rfl rfl (by first | rfl | exact g_rfr _) 103 rfl ?_
      refine g_get hX dS_shape_103 fS_24 (show h (A 0 0) = some (w_cell E A S 0 0) from hG.1 0 0 (Or.inr (Or.inr (Or.inr (Or.inr (Or.inr ((show w_lv S Sm 0 0 from ⟨rfl, by decide⟩)))))))) rfl 106 rfl ?_
      refine g_aload hX dS_shape_106 rfl (by first | rfl | exact g_rfr _) 108 rfl ?_
      refine g_cF1 (wt := 0) hX (c_addWb (k := 20) (i := 0) (t := 7) (x0 := q_ns S) (xs := List.range (q_ns S)) hX.tr hG rfl (by rw [w_uA_tag _ (by decide), w_uA_tag _ (by decide), w_uA_tag _ (by decide), w_uA_tag _ (by decide), w_uA_same]) (Or.inr (Or.inr (Or.inr (Or.inr (Or.inr ((show w_lv S Sm 20 0 from ⟨rfl, by decide⟩))))))) rfl (fun hn9 => ⟨Or.inr (Or.inr (Or.inr (Or.inr (Or.inr ((show w_lv S Sm 21 0 from ⟨rfl, fun (e9 : q_ns S = 0) => hn9 (by rw [e9]; rfl)⟩)))))), w_data_c (fun x hx => by rw [w_uA_tag _ (by decide), w_uA_tag _ (by decide), w_uA_tag _ (by decide), w_uA_tag _ (by decide), w_uA_ix _ (show ¬ x = q_ns S from fun e9 => by have : x < q_ns S := List.mem_range.mp hx; omega)])⟩) (fun x hx => ⟨Or.inr (Or.inr (Or.inr (Or.inr (Or.inr ((show w_lv S Sm 7 x from (List.mem_range.mp hx))))))), _, by rw [w_uc_ix _ (show ¬ x = q_ns S from fun e9 => by have : x < q_ns S := List.mem_range.mp hx; omega), w_uc_tag _ (by decide), w_uc_tag _ (by decide), w_uc_tag _ (by decide), w_uc_tag _ (by decide), w_uc_ix _ (show ¬ x = q_ns S from fun e9 => by have : x < q_ns S := List.mem_range.mp hx; omega)]; rfl⟩) ⟨Or.inr (Or.inr (Or.inr (Or.inr (Or.inl ⟨rfl, rfl⟩)))), _, w_uc_same _ _ _ _⟩ (by rw [List.length_range]; omega) (ct := 2) rfl (g_in 1118 (by decide +kernel) (by decide +kernel)) (by decide)) dS_shape_108 (show h (A 20 0) = some (w_list E (A 21 0) (List.range (q_ns S)).length) from hG.1 20 0 (Or.inr (Or.inr (Or.inr (Or.inr (Or.inr ((show w_lv S Sm 20 0 from ⟨rfl, by decide⟩)))))))) kS_87 (g_rm.of hR (by decide) (by decide)) (by first | exact Nat.zero_le _ | (rw [hR]; decide)) (by first | exact Nat.zero_le _ | (rw [hR]; decide)) (by first | decide | (simp [Value.category])) (fun q => by cases q) 113 rfl (fun v h hP => ?_) (fun k h hP => by cases hP.1)
      obtain ⟨hv, dd, hG⟩ := hP
      cases hv
      show g_Go E X _ h false _ _ 113 _ [.int 1]
      refine g_pop hX dS_shape_113 rfl 114 rfl ?_
      refine g_aload_n hX dS_shape_114 rfl rfl (by first | rfl | exact g_rfr _) 115 rfl ?_
      refine g_get hX dS_shape_115 fS_115 (show h (A 2 p) = some (w_cell E A S 2 p) from hG.1 2 p (Or.inr (Or.inr (Or.inr (Or.inr (Or.inr (Or.inr ((show w_lv S Sm 2 p from hp))))))))) rfl 118 rfl ?_
      refine g_aload hX dS_shape_118 rfl (by first | rfl | exact g_rfr _) 120 rfl ?_
      refine g_cF1 (wt := 0) hX (c_addWb (k := 3) (i := p) (t := 7) (x0 := q_ns S) (xs := q_on S p) hX.tr hG rfl (by rw [w_uA_tag _ (by decide), w_uA_tag _ (by decide), w_uA_tag _ (by decide), w_uA_tag _ (by decide), w_uA_tag _ (by decide), w_uA_same]) (Or.inr (Or.inr (Or.inr (Or.inr (Or.inr (Or.inr ((show w_lv S Sm 3 p from hp)))))))) rfl (fun hn9 => ⟨Or.inr (Or.inr (Or.inr (Or.inr (Or.inr (Or.inr ((show w_lv S Sm 4 p from ⟨hp, hn9⟩))))))), w_data_c (fun x hx => by rw [w_uA_tag _ (by decide), w_uA_tag _ (by decide), w_uA_tag _ (by decide), w_uA_tag _ (by decide), w_uA_tag _ (by decide), w_uA_ix _ (show ¬ x = q_ns S from fun e9 => by have : x < q_ns S := q_on_lt hx; omega)])⟩) (fun x hx => ⟨Or.inr (Or.inr (Or.inr (Or.inr (Or.inr (Or.inr ((show w_lv S Sm 7 x from (q_on_lt hx)))))))), _, by rw [w_uc_tag _ (by decide), w_uc_tag _ (by decide), w_uc_ix _ (show ¬ x = q_ns S from fun e9 => by have : x < q_ns S := q_on_lt hx; omega), w_uc_tag _ (by decide), w_uc_tag _ (by decide), w_uc_tag _ (by decide), w_uc_tag _ (by decide), w_uc_ix _ (show ¬ x = q_ns S from fun e9 => by have : x < q_ns S := q_on_lt hx; omega)]; rfl⟩) ⟨Or.inr (Or.inr (Or.inr (Or.inr (Or.inr (Or.inl ⟨rfl, rfl⟩))))), _, by rw [w_uc_tag _ (by decide), w_uc_tag _ (by decide), w_uc_same]⟩ (by have := q_on_len S p; omega) (ct := 2) rfl (g_in 1118 (by decide +kernel) (by decide +kernel)) (by decide)) dS_shape_120 (show h (A 3 p) = some (w_list E (A 4 p) (q_on S p).length) from hG.1 3 p (Or.inr (Or.inr (Or.inr (Or.inr (Or.inr (Or.inr ((show w_lv S Sm 3 p from hp))))))))) kS_87 (g_rm.of hR (by decide) (by decide)) (by first | exact Nat.zero_le _ | (rw [hR]; decide)) (by first | exact Nat.zero_le _ | (rw [hR]; decide)) (by first | decide | (simp [Value.category])) (fun q => by cases q) 125 rfl (fun v h hP => ?_) (fun k h hP => by cases hP.1)
      obtain ⟨hv, d2, hG⟩ := hP
      cases hv
      show g_Go E X _ h false _ _ 125 _ [.int 1]
      refine g_pop hX dS_shape_125 rfl 126 rfl ?_
      refine g_aload hX dS_shape_126 rfl (by first | rfl | exact g_rfr _) 128 rfl ?_
      have h7 := hG.1 7 (q_ns S) (Or.inr (Or.inr (Or.inr (Or.inr (Or.inr (Or.inr (Or.inl ⟨rfl, rfl⟩)))))))
      rw [w_uA_tag _ (by decide), w_uA_tag _ (by decide), w_uA_tag _ (by decide), w_uA_tag _ (by decide), w_uA_tag _ (by decide), w_uA_tag _ (by decide), w_uA_same, w_uc_tag _ (by decide), w_uc_tag _ (by decide), w_uc_tag _ (by decide), w_uc_tag _ (by decide), w_uc_same] at h7
      refine g_get hX dS_shape_128 fS_116 h7 rfl 131 rfl ?_
      exact g_iret hX rfl rfl dS_shape_131 ⟨rfl, (w_uA (w_uA (w_uA (w_uA (w_uA (w_uA (w_uA A 7 (q_ns S) q) 8 (q_ns S) q0) 9 (q_ns S) q1) 10 (q_ns S) q2) 12 (q_ns S) q3) 21 0 dd) 4 p d2), ⟨rfl, rfl, rfl⟩, w_shape hB hp hz hG⟩ rfl (by rw [hR]; decide) (by rw [hR]; decide)
    · exact absurd (nI_lt (b := 24) hn (by decide)) c69
  · exact absurd (c27.symm.trans (r_in_1 hs1 hs2)) (by decide)
set_option maxRecDepth 100000 in
set_option maxHeartbeats 4000000 in
theorem c_S_write_1 {l : Launch} (hl : l.stackTraces = false) {E : g_E} {A : w_A} {S Sm : q_S} {h : g_H} (hW : w_W E A S Sm h) (hB : w_B S) {s : Int32} (v x : Int32) (hs : r_noShape S s = 1) : g_Ct l mS_write 7 121 1 6 [.ref (A 0 0), .int s, .int v, .int x] E h (false, fun r h' => r = .inl 1 ∧ h' = h) := by
  refine g_Ct.of hl (by decide) (by first | rfl | simp [g_rfc, Value.category]) (Nat.le_of_ble_eq_true rfl) ?_
  intro X hX hXl hR
  obtain ⟨hnp, hns, hne, hpar, hhome, hact⟩ := id hB
  show g_Go E X _ h true 0 0 0 [some (.ref (A 0 0)), some (.int s), some (.int v), some (.int x), none] []
  refine g_aload_n hX dS_write_0 rfl rfl (by first | rfl | exact g_rfr _) 1 rfl ?_
  refine g_iload_n hX dS_write_1 rfl rfl 2 rfl ?_
  refine g_cV1 (wt := 0) hX (c_S_findShape_1 hX.tr hW hB hs) dS_write_2 (w_s hW) kS_123 (g_rm.of hR (by decide) (by decide)) (by first | exact Nat.zero_le _ | (rw [hR]; decide)) (by first | exact Nat.zero_le _ | (rw [hR]; decide)) (by first | decide | (simp [Value.category])) (fun q => by cases q) 5 rfl (fun v h' hP => by cases hP.1) (fun k h' hP => ?_)
  obtain ⟨hk9, hh9⟩ := hP
  cases hk9
  subst hh9
  exact g_Th.out hX rfl ⟨rfl, rfl⟩ rfl (by rw [hR]; decide) (by rw [hR]; decide)
set_option maxRecDepth 100000 in
set_option maxHeartbeats 4000000 in
theorem c_S_write_2 {l : Launch} (hl : l.stackTraces = false) {E : g_E} {A : w_A} {S Sm : q_S} {h : g_H} (hW : w_W E A S Sm h) (hB : w_B S) {j : Nat} (hj : j < q_ns S) {v x : Int32} (hv : v < 0 ∨ ¬ v ≤ 2) : g_Ct l mS_write 7 121 1 6 [.ref (A 0 0), .int (nI j), .int v, .int x] E h (false, fun r h' => r = .inl 0 ∧ h' = h) := by
  refine g_Ct.of hl (by decide) (by first | rfl | simp [g_rfc, Value.category]) (Nat.le_of_ble_eq_true rfl) ?_
  intro X hX hXl hR
  obtain ⟨hnp, hns, hne, hpar, hhome, hact⟩ := id hB
  show g_Go E X _ h true 0 0 0 [some (.ref (A 0 0)), some (.int (nI j)), some (.int v), some (.int x), none] []
  refine g_aload_n hX dS_write_0 rfl rfl (by first | rfl | exact g_rfr _) 1 rfl ?_
  refine g_iload_n hX dS_write_1 rfl rfl 2 rfl ?_
  refine g_cV1r (wt := 0) hX (c_S_findShape hX.tr hW hB hj) dS_write_2 (w_s hW) kS_123 (g_rm.of hR (by decide) (by decide)) (by first | exact Nat.zero_le _ | (rw [hR]; decide)) (by first | exact Nat.zero_le _ | (rw [hR]; decide)) (by first | decide | (simp [Value.category])) 5 rfl ?_
  refine g_astore hX (L' := [_, _, _, _, _]) dS_write_5 (by decide) (by first | rfl | exact g_rfr _) rfl 7 rfl ?_
  refine g_iload_n hX dS_write_7 rfl rfl 8 rfl ?_
  refine g_iconst hX dS_write_8 (v := 0) (by decide) 9 rfl ?_
  refine g_iconst hX dS_write_9 (v := 2) (by decide) 10 rfl ?_
  refine g_cS3r (wt := 0) hX (c_S_isWithin hX.tr E h _ _ _) dS_write_10 kS_47 (g_rm.of hR (by decide) (by decide)) (by first | exact Nat.zero_le _ | (rw [hR]; decide)) (by first | exact Nat.zero_le _ | (rw [hR]; decide)) (by first | decide | (simp [Value.category])) 13 rfl ?_
  refine g_if_ne hX dS_write_13 26 16 (by decide) rfl (fun c13 => ?_) (fun c13 => ?_)
  · exact absurd (r_in_0 hv) c13
  · exact g_throw (wt := 0) hX rfl dS_write_16 dS_write_19 dS_write_20 dS_write_22 dS_write_25 rfl rfl rfl rfl (tx := "no such level") (by simp [g_strs]) x_0 rfl ⟨rfl, rfl⟩ rfl (by rw [hR]; decide) (by rw [hR]; decide) (by rw [hR]; decide) (by decide) (by rw [hR]; decide)
set_option maxRecDepth 100000 in
set_option maxHeartbeats 4000000 in
theorem c_S_write_3 {l : Launch} (hl : l.stackTraces = false) {E : g_E} {A : w_A} {S Sm : q_S} {h : g_H} (hW : w_W E A S Sm h) (hB : w_B S) {j : Nat} (hj : j < q_ns S) {v x : Int32} (hv1 : ¬ v < 0) (hv2 : v ≤ 2) (hx : r_aw x = 0) : g_Ct l mS_write 7 121 1 6 [.ref (A 0 0), .int (nI j), .int v, .int x] E h (false, fun r h' => r = .inl 0 ∧ h' = h) := by
  refine g_Ct.of hl (by decide) (by first | rfl | simp [g_rfc, Value.category]) (Nat.le_of_ble_eq_true rfl) ?_
  intro X hX hXl hR
  obtain ⟨hnp, hns, hne, hpar, hhome, hact⟩ := id hB
  show g_Go E X _ h true 0 0 0 [some (.ref (A 0 0)), some (.int (nI j)), some (.int v), some (.int x), none] []
  refine g_aload_n hX dS_write_0 rfl rfl (by first | rfl | exact g_rfr _) 1 rfl ?_
  refine g_iload_n hX dS_write_1 rfl rfl 2 rfl ?_
  refine g_cV1r (wt := 0) hX (c_S_findShape hX.tr hW hB hj) dS_write_2 (w_s hW) kS_123 (g_rm.of hR (by decide) (by decide)) (by first | exact Nat.zero_le _ | (rw [hR]; decide)) (by first | exact Nat.zero_le _ | (rw [hR]; decide)) (by first | decide | (simp [Value.category])) 5 rfl ?_
  refine g_astore hX (L' := [_, _, _, _, _]) dS_write_5 (by decide) (by first | rfl | exact g_rfr _) rfl 7 rfl ?_
  refine g_iload_n hX dS_write_7 rfl rfl 8 rfl ?_
  refine g_iconst hX dS_write_8 (v := 0) (by decide) 9 rfl ?_
  refine g_iconst hX dS_write_9 (v := 2) (by decide) 10 rfl ?_
  refine g_cS3r (wt := 0) hX (c_S_isWithin hX.tr E h _ _ _) dS_write_10 kS_47 (g_rm.of hR (by decide) (by decide)) (by first | exact Nat.zero_le _ | (rw [hR]; decide)) (by first | exact Nat.zero_le _ | (rw [hR]; decide)) (by first | decide | (simp [Value.category])) 13 rfl ?_
  refine g_if_ne hX dS_write_13 26 16 (by decide) rfl (fun c13 => ?_) (fun c13 => ?_)
  · refine g_iload_n hX dS_write_26 rfl rfl 27 rfl ?_
    refine g_cS1r (wt := 0) hX (c_S_areWords hX.tr E h _) dS_write_27 kS_162 (g_rm.of hR (by decide) (by decide)) (by first | exact Nat.zero_le _ | (rw [hR]; decide)) (by first | exact Nat.zero_le _ | (rw [hR]; decide)) (by first | decide | (simp [Value.category])) 30 rfl ?_
    refine g_if_ne hX dS_write_30 43 33 (by decide) rfl (fun c30 => ?_) (fun c30 => ?_)
    · exact absurd hx c30
    · exact g_throw (wt := 0) hX rfl dS_write_33 dS_write_36 dS_write_37 dS_write_39 dS_write_42 rfl rfl rfl rfl (tx := "no such words") (by simp [g_strs]) x_0 rfl ⟨rfl, rfl⟩ rfl (by rw [hR]; decide) (by rw [hR]; decide) (by rw [hR]; decide) (by decide) (by rw [hR]; decide)
  · exact absurd (c13.symm.trans (r_in_1 hv1 hv2)) (by decide)
set_option maxRecDepth 100000 in
set_option maxHeartbeats 4000000 in
theorem c_S_write_4 {l : Launch} (hl : l.stackTraces = false) {E : g_E} {A : w_A} {S Sm : q_S} {h : g_H} (hW : w_W E A S Sm h) (hB : w_B S) {j : Nat} (hj : j < q_ns S) {v x : Int32} (hv1 : ¬ v < 0) (hv2 : v ≤ 2) (hx : ¬ r_aw x = 0) (hn : S.1 3 j = 4) : g_Ct l mS_write 7 121 1 6 [.ref (A 0 0), .int (nI j), .int v, .int x] E h (false, fun r h' => r = .inl 2 ∧ h' = h) := by
  refine g_Ct.of hl (by decide) (by first | rfl | simp [g_rfc, Value.category]) (Nat.le_of_ble_eq_true rfl) ?_
  intro X hX hXl hR
  obtain ⟨hnp, hns, hne, hpar, hhome, hact⟩ := id hB
  show g_Go E X _ h true 0 0 0 [some (.ref (A 0 0)), some (.int (nI j)), some (.int v), some (.int x), none] []
  refine g_aload_n hX dS_write_0 rfl rfl (by first | rfl | exact g_rfr _) 1 rfl ?_
  refine g_iload_n hX dS_write_1 rfl rfl 2 rfl ?_
  refine g_cV1r (wt := 0) hX (c_S_findShape hX.tr hW hB hj) dS_write_2 (w_s hW) kS_123 (g_rm.of hR (by decide) (by decide)) (by first | exact Nat.zero_le _ | (rw [hR]; decide)) (by first | exact Nat.zero_le _ | (rw [hR]; decide)) (by first | decide | (simp [Value.category])) 5 rfl ?_
  refine g_astore hX (L' := [_, _, _, _, _]) dS_write_5 (by decide) (by first | rfl | exact g_rfr _) rfl 7 rfl ?_
  refine g_iload_n hX dS_write_7 rfl rfl 8 rfl ?_
  refine g_iconst hX dS_write_8 (v := 0) (by decide) 9 rfl ?_
  refine g_iconst hX dS_write_9 (v := 2) (by decide) 10 rfl ?_
  refine g_cS3r (wt := 0) hX (c_S_isWithin hX.tr E h _ _ _) dS_write_10 kS_47 (g_rm.of hR (by decide) (by decide)) (by first | exact Nat.zero_le _ | (rw [hR]; decide)) (by first | exact Nat.zero_le _ | (rw [hR]; decide)) (by first | decide | (simp [Value.category])) 13 rfl ?_
  refine g_if_ne hX dS_write_13 26 16 (by decide) rfl (fun c13 => ?_) (fun c13 => ?_)
  · refine g_iload_n hX dS_write_26 rfl rfl 27 rfl ?_
    refine g_cS1r (wt := 0) hX (c_S_areWords hX.tr E h _) dS_write_27 kS_162 (g_rm.of hR (by decide) (by decide)) (by first | exact Nat.zero_le _ | (rw [hR]; decide)) (by first | exact Nat.zero_le _ | (rw [hR]; decide)) (by first | decide | (simp [Value.category])) 30 rfl ?_
    refine g_if_ne hX dS_write_30 43 33 (by decide) rfl (fun c30 => ?_) (fun c30 => ?_)
    · refine g_aload hX dS_write_43 rfl (by first | rfl | exact g_rfr _) 45 rfl ?_
      refine g_get hX dS_write_45 fS_168 (w_c hW 7 j (by decide) hj) rfl 48 rfl ?_
      refine g_cF0r (wt := 0) hX (c_spar hX.tr hW hB hj) dS_write_48 (w_l10 hW hB hj).1 kS_71 (g_rm.of hR (by decide) (by decide)) (by first | exact Nat.zero_le _ | (rw [hR]; decide)) (by first | exact Nat.zero_le _ | (rw [hR]; decide)) (by first | decide | (simp [Value.category])) 53 rfl ?_
      refine g_iconst hX dS_write_53 (v := 4) (by decide) 54 rfl ?_
      refine g_icmp_lt hX dS_write_54 67 57 (by decide) rfl (fun c54 => ?_) (fun c54 => ?_)
      · exact absurd c54 (nI_nlt (a := S.1 3 j) (b := 4) (by omega) (by omega))
      · exact g_throw (wt := 0) hX rfl dS_write_57 dS_write_60 dS_write_61 dS_write_63 dS_write_66 rfl rfl rfl rfl (tx := "no more paragraphs") (by simp [g_strs]) x_2 rfl ⟨rfl, rfl⟩ rfl (by rw [hR]; decide) (by rw [hR]; decide) (by rw [hR]; decide) (by decide) (by rw [hR]; decide)
    · exact absurd c30 hx
  · exact absurd (c13.symm.trans (r_in_1 hv1 hv2)) (by decide)
theorem c_G_initW {l : Launch} (hl : l.stackTraces = false) {E : g_E} {A : w_A} {lv : Nat → Nat → Prop} {cl : Nat → Nat → va_E} {h : g_H} (hG : w_G E A lv cl h) {n b : Nat} {v x : Int32} (hb : A 14 n = b) (hv : lv 14 n) (hc : cl 14 n = .inr (3, [.int 0, .int 0])) :
    g_Ct l mG_init 1 12 0 0 [.ref b, .int v, .int x] E h (false, fun r' h' => r' = .inr none ∧ w_G E A lv (w_uc cl 14 n (.inr (3, [.int v, .int x]))) h') := by
  subst hb
  refine (c_G_init hl (b := A 14 n) (by rw [hG.1 14 n hv, hc]) (hG.2.1 14 n hv)).imp (fun r' h' hP => ?_)
  obtain ⟨hr, hh⟩ := hP
  rw [hh]
  exact ⟨hr, hG.put (k0 := 14) (i0 := n) hv _⟩
theorem c_F_initW {l : Launch} (hl : l.stackTraces = false) {E : g_E} {A : w_A} {lv : Nat → Nat → Prop} {cl : Nat → Nat → va_E} {h : g_H} (hG : w_G E A lv cl h) {n b p : Nat} {k bu ba de du : Int32} (hb : A 15 n = b) (hv : lv 15 n) (hc : cl 15 n = .inr (4, [.null, .int 0, .int 0, .int 0, .int 0, .int 0, .int 0, .int 0])) :
    g_Ct l mF_init 1 12 0 0 [.ref b, .ref p, .int k, .int bu, .int ba, .int de, .int du] E h (false, fun r' h' => r' = .inr none ∧ w_G E A lv (w_uc cl 15 n (.inr (4, [.ref p, .int k, .int bu, .int ba, .int (ba + de), .int (ba + de + du), .int du, .int 0]))) h') := by
  subst hb
  refine (c_F_init hl (b := A 15 n) (by rw [hG.1 15 n hv, hc]) (hG.2.1 15 n hv)).imp (fun r' h' hP => ?_)
  obtain ⟨hr, hh⟩ := hP
  rw [hh]
  exact ⟨hr, hG.put (k0 := 15) (i0 := n) hv _⟩
theorem w_pars_mem {S : q_S} {j x : Nat} (hx : x ∈ w_pars S j) : ∃ m, m < S.1 3 j ∧ x = 4 * j + m := by
  unfold w_pars at hx
  obtain ⟨m, hm, h⟩ := List.mem_map.mp hx
  exact ⟨m, List.mem_range.mp hm, h.symm⟩
theorem w_live14 {S : q_S} {j x : Nat} (hj : j < q_ns S) (h4 : S.1 3 j ≤ 4) (hx : x ∈ w_pars S j) : w_live S 14 x := by
  obtain ⟨m, h1, rfl⟩ := w_pars_mem hx
  show (4 * j + m) / 4 < q_ns S ∧ (4 * j + m) % 4 < S.1 3 ((4 * j + m) / 4)
  rw [show (4 * j + m) / 4 = j by omega, show (4 * j + m) % 4 = m by omega]
  exact ⟨hj, h1⟩
theorem w_pars_nt {S : q_S} {j x : Nat} (hx : x ∈ w_pars S j) : ¬ x = 4 * j + S.1 3 j := by
  obtain ⟨m, h1, rfl⟩ := w_pars_mem hx
  omega
set_option maxRecDepth 100000 in
set_option maxHeartbeats 4000000 in
theorem c_S_write_0 {l : Launch} (hl : l.stackTraces = false) {E : g_E} {A : w_A} {S Sm : q_S} {h : g_H} (hW : w_W E A S Sm h) (hB : w_B S) {j : Nat} (hj : j < q_ns S) {v x : Int32} (hv1 : ¬ v < 0) (hv2 : v ≤ 2) (hx : ¬ r_aw x = 0) (hn : S.1 3 j < 4) : g_Ct l mS_write 7 121 2 35 [.ref (A 0 0), .int (nI j), .int v, .int x] E h (false, fun r' h' => r' = .inr (some (.int (nI (S.1 3 j)))) ∧ ∃ B, w_same A B ∧ w_W E B (q_up1 (q_up2 (q_up2 S 5 (4 * j + S.1 3 j) v) 12 (4 * j + S.1 3 j) x) 3 j (S.1 3 j + 1)) Sm h') := by
  refine g_Ct.of hl (by decide) (by first | rfl | simp [g_rfc, Value.category]) (Nat.le_of_ble_eq_true rfl) ?_
  intro X hX hXl hR
  obtain ⟨hnp, hns, hne, hpar, hhome, hact⟩ := id hB
  show g_Go E X _ h true 0 0 0 [some (.ref (A 0 0)), some (.int (nI j)), some (.int v), some (.int x), none] []
  refine g_aload_n hX dS_write_0 rfl rfl (by first | rfl | exact g_rfr _) 1 rfl ?_
  refine g_iload_n hX dS_write_1 rfl rfl 2 rfl ?_
  refine g_cV1r (wt := 0) hX (c_S_findShape hX.tr hW hB hj) dS_write_2 (w_s hW) kS_123 (g_rm.of hR (by decide) (by decide)) (by first | exact Nat.zero_le _ | (rw [hR]; decide)) (by first | exact Nat.zero_le _ | (rw [hR]; decide)) (by first | decide | (simp [Value.category])) 5 rfl ?_
  refine g_astore hX (L' := [_, _, _, _, _]) dS_write_5 (by decide) (by first | rfl | exact g_rfr _) rfl 7 rfl ?_
  refine g_iload_n hX dS_write_7 rfl rfl 8 rfl ?_
  refine g_iconst hX dS_write_8 (v := 0) (by decide) 9 rfl ?_
  refine g_iconst hX dS_write_9 (v := 2) (by decide) 10 rfl ?_
  refine g_cS3r (wt := 0) hX (c_S_isWithin hX.tr E h _ _ _) dS_write_10 kS_47 (g_rm.of hR (by decide) (by decide)) (by first | exact Nat.zero_le _ | (rw [hR]; decide)) (by first | exact Nat.zero_le _ | (rw [hR]; decide)) (by first | decide | (simp [Value.category])) 13 rfl ?_
  refine g_if_ne hX dS_write_13 26 16 (by decide) rfl (fun c13 => ?_) (fun c13 => ?_)
  · refine g_iload_n hX dS_write_26 rfl rfl 27 rfl ?_
    refine g_cS1r (wt := 0) hX (c_S_areWords hX.tr E h _) dS_write_27 kS_162 (g_rm.of hR (by decide) (by decide)) (by first | exact Nat.zero_le _ | (rw [hR]; decide)) (by first | exact Nat.zero_le _ | (rw [hR]; decide)) (by first | decide | (simp [Value.category])) 30 rfl ?_
    refine g_if_ne hX dS_write_30 43 33 (by decide) rfl (fun c30 => ?_) (fun c30 => ?_)
    · refine g_aload hX dS_write_43 rfl (by first | rfl | exact g_rfr _) 45 rfl ?_
      refine g_get hX dS_write_45 fS_168 (w_c hW 7 j (by decide) hj) rfl 48 rfl ?_
      refine g_cF0r (wt := 0) hX (c_spar hX.tr hW hB hj) dS_write_48 (w_l10 hW hB hj).1 kS_71 (g_rm.of hR (by decide) (by decide)) (by first | exact Nat.zero_le _ | (rw [hR]; decide)) (by first | exact Nat.zero_le _ | (rw [hR]; decide)) (by first | decide | (simp [Value.category])) 53 rfl ?_
      refine g_iconst hX dS_write_53 (v := 4) (by decide) 54 rfl ?_
      refine g_icmp_lt hX dS_write_54 67 57 (by decide) rfl (fun c54 => ?_) (fun c54 => ?_)
      · refine g_aload hX dS_write_67 rfl (by first | rfl | exact g_rfr _) 69 rfl ?_
        refine g_get hX dS_write_69 fS_168 (w_c hW 7 j (by decide) hj) rfl 72 rfl ?_
        refine g_new hX dS_write_72 nS_173 (by rw [hR]; decide) (by rw [hR]; decide) 75 rfl (fun q hq zq => ?_)
        have hG := hW.g.new 14 (4 * j + S.1 3 j) (.inr (3, [.int 0, .int 0])) hq zq
        revert hG
        generalize g_set h q _ = h1
        intro hG
        refine g_dup hX dS_write_75 rfl 76 rfl ?_
        refine g_iload_n hX dS_write_76 rfl rfl 77 rfl ?_
        refine g_iload_n hX dS_write_77 rfl rfl 78 rfl ?_
        refine g_cI2 (wt := 2) hX (c_G_initW hX.tr hG (w_uA_same _ _ _ _) (Or.inl ⟨rfl, rfl⟩) (w_uc_same _ _ _ _)) dS_write_78 kS_175 (g_rm.of hR (by decide) (by decide)) (by first | exact Nat.zero_le _ | (rw [hR]; decide)) (by first | exact Nat.zero_le _ | (rw [hR]; decide)) (by first | decide | (simp [Value.category])) (fun q => by cases q) 81 rfl (fun v h hP => ?_) (fun k h hP => by cases hP.1)
        obtain ⟨hv, hG⟩ := hP
        cases hv
        show g_Go E X _ h false _ _ 81 _ [.ref q, .ref (A 10 j)]
        refine g_cF1 (wt := 0) hX (c_addWb (k := 10) (i := j) (t := 14) (x0 := (4 * j + S.1 3 j)) (xs := w_pars S j) hX.tr hG rfl (w_uA_same _ _ _ _) (Or.inr ((show w_lv S Sm 10 j from hj))) rfl (fun hn9 => ⟨Or.inr ((show w_lv S Sm 11 j from ⟨hj, hn9⟩)), w_data_c (fun x hx => by rw [w_uA_ix _ (w_pars_nt (S := S) hx)])⟩) (fun x hx => ⟨Or.inr ((show w_lv S Sm 14 x from w_live14 hj (hhome j hj).2 hx)), _, by rw [w_uc_ix _ (w_pars_nt (S := S) hx), w_uc_ix _ (w_pars_nt (S := S) hx)]; rfl⟩) ⟨Or.inl ⟨rfl, rfl⟩, _, w_uc_same _ _ _ _⟩ (by rw [w_pars_len]; omega) (ct := 3) rfl (g_in 1119 (by decide +kernel) (by decide +kernel)) (by decide)) dS_write_81 (show h (A 10 j) = some (w_list E (A 11 j) (w_pars S j).length) from hG.1 10 j (Or.inr ((show w_lv S Sm 10 j from hj)))) kS_87 (g_rm.of hR (by decide) (by decide)) (by first | exact Nat.zero_le _ | (rw [hR]; decide)) (by first | exact Nat.zero_le _ | (rw [hR]; decide)) (by first | decide | (simp [Value.category])) (fun q => by cases q) 86 rfl (fun v h hP => ?_) (fun k h hP => by cases hP.1)
        obtain ⟨hv, dd, hG⟩ := hP
        cases hv
        show g_Go E X _ h false _ _ 86 _ [.int 1]
        refine g_pop hX dS_write_86 rfl 87 rfl ?_
        refine g_aload hX dS_write_87 rfl (by first | rfl | exact g_rfr _) 89 rfl ?_
        refine g_get hX dS_write_89 fS_168 (show h (A 7 j) = some (w_cell E A S 7 j) from hG.1 7 j (Or.inr (Or.inr ((show w_lv S Sm 7 j from hj))))) rfl 92 rfl ?_
        refine g_cF0r (wt := 0) hX ((show g_Rd X.l mA_size 0 0 [.ref (A 10 j)] E h (some (.int (nI (S.1 3 j + 1)))) from c_A_size hX.tr E h (show h (A 10 j) = some (.inr (6, [.ref dd, .int (nI (S.1 3 j + 1)), .int (nI (S.1 3 j + 1))])) by have h9 := hG.1 10 j (Or.inr (Or.inr ((show w_lv S Sm 10 j from hj)))); rw [w_uc_same, w_pars_len, w_list_s] at h9; exact h9))) dS_write_92 (show h (A 10 j) = some (.inr (6, [.ref dd, .int (nI (S.1 3 j + 1)), .int (nI (S.1 3 j + 1))])) by have h9 := hG.1 10 j (Or.inr (Or.inr ((show w_lv S Sm 10 j from hj)))); rw [w_uc_same, w_pars_len, w_list_s] at h9; exact h9) kS_71 (g_rm.of hR (by decide) (by decide)) (by first | exact Nat.zero_le _ | (rw [hR]; decide)) (by first | exact Nat.zero_le _ | (rw [hR]; decide)) (by first | decide | (simp [Value.category])) 97 rfl ?_
        refine g_iconst hX dS_write_97 (v := 1) (by decide) 98 rfl ?_
        refine g_isub hX dS_write_98 99 rfl ?_
        rw [show nI (S.1 3 j + 1) - 1 = nI (S.1 3 j) from nI_pred _]
        exact g_iret hX rfl rfl dS_write_99 ⟨rfl, (w_uA (w_uA A 14 (4 * j + S.1 3 j) q) 11 j dd), ⟨rfl, rfl, rfl⟩, w_write hB hj hn hG⟩ rfl (by rw [hR]; decide) (by rw [hR]; decide)
      · exact absurd (nI_lt (b := 4) hn (by decide)) c54
    · exact absurd c30 hx
  · exact absurd (c13.symm.trans (r_in_1 hv1 hv2)) (by decide)
set_option maxRecDepth 100000 in
set_option maxHeartbeats 4000000 in
theorem c_S_effect_1 {l : Launch} (hl : l.stackTraces = false) {E : g_E} {A : w_A} {S Sm : q_S} {h : g_H} (hW : w_W E A S Sm h) (hB : w_B S) {s : Int32} (k t w d : Int32) (hs : r_noShape S s = 1) : g_Ct l mS_effect 7 121 1 6 [.ref (A 0 0), .int s, .int k, .int t, .int w, .int d] E h (false, fun r h' => r = .inl 1 ∧ h' = h) := by
  refine g_Ct.of hl (by decide) (by first | rfl | simp [g_rfc, Value.category]) (Nat.le_of_ble_eq_true rfl) ?_
  intro X hX hXl hR
  obtain ⟨hnp, hns, hne, hpar, hhome, hact⟩ := id hB
  show g_Go E X _ h true 0 0 0 [some (.ref (A 0 0)), some (.int s), some (.int k), some (.int t), some (.int w), some (.int d), none, none, none, none, none] []
  refine g_aload_n hX dS_effect_0 rfl rfl (by first | rfl | exact g_rfr _) 1 rfl ?_
  refine g_iload_n hX dS_effect_1 rfl rfl 2 rfl ?_
  refine g_cV1 (wt := 0) hX (c_S_findShape_1 hX.tr hW hB hs) dS_effect_2 (w_s hW) kS_123 (g_rm.of hR (by decide) (by decide)) (by first | exact Nat.zero_le _ | (rw [hR]; decide)) (by first | exact Nat.zero_le _ | (rw [hR]; decide)) (by first | decide | (simp [Value.category])) (fun q => by cases q) 5 rfl (fun v h' hP => by cases hP.1) (fun k h' hP => ?_)
  obtain ⟨hk9, hh9⟩ := hP
  cases hk9
  subst hh9
  exact g_Th.out hX rfl ⟨rfl, rfl⟩ rfl (by rw [hR]; decide) (by rw [hR]; decide)
theorem r_in_n {v b : Int32} (h : ¬ r_in v 0 b = 0) : ¬ v < 0 ∧ ¬ b < v := by
  constructor
  · intro q
    exact h (r_in_0 (Or.inl q))
  · intro q
    exact h (r_in_0 (Or.inr (q_lt_nle q)))
set_option maxRecDepth 100000 in
set_option maxHeartbeats 4000000 in
theorem c_S_effect_2 {l : Launch} (hl : l.stackTraces = false) {E : g_E} {A : w_A} {S Sm : q_S} {h : g_H} (hW : w_W E A S Sm h) (hB : w_B S) {j : Nat} (hj : j < q_ns S) {k t w d : Int32} (hg : k < 0 ∨ 3 < k ∨ t < 0 ∨ 2 < t ∨ w < 0 ∨ 50 < w ∨ d < 0 ∨ 50 < d) : g_Ct l mS_effect 7 121 1 6 [.ref (A 0 0), .int (nI j), .int k, .int t, .int w, .int d] E h (false, fun r h' => r = .inl 0 ∧ h' = h) := by
  refine g_Ct.of hl (by decide) (by first | rfl | simp [g_rfc, Value.category]) (Nat.le_of_ble_eq_true rfl) ?_
  intro X hX hXl hR
  obtain ⟨hnp, hns, hne, hpar, hhome, hact⟩ := id hB
  show g_Go E X _ h true 0 0 0 [some (.ref (A 0 0)), some (.int (nI j)), some (.int k), some (.int t), some (.int w), some (.int d), none, none, none, none, none] []
  refine g_aload_n hX dS_effect_0 rfl rfl (by first | rfl | exact g_rfr _) 1 rfl ?_
  refine g_iload_n hX dS_effect_1 rfl rfl 2 rfl ?_
  refine g_cV1r (wt := 0) hX (c_S_findShape hX.tr hW hB hj) dS_effect_2 (w_s hW) kS_123 (g_rm.of hR (by decide) (by decide)) (by first | exact Nat.zero_le _ | (rw [hR]; decide)) (by first | exact Nat.zero_le _ | (rw [hR]; decide)) (by first | decide | (simp [Value.category])) 5 rfl ?_
  refine g_astore hX (L' := [_, _, _, _, _, _, _, _, _, _, _]) dS_effect_5 (by decide) (by first | rfl | exact g_rfr _) rfl 7 rfl ?_
  refine g_iload_n hX dS_effect_7 rfl rfl 8 rfl ?_
  refine g_iconst hX dS_effect_8 (v := 0) (by decide) 9 rfl ?_
  refine g_iconst hX dS_effect_9 (v := 3) (by decide) 10 rfl ?_
  refine g_cS3r (wt := 0) hX (c_S_isWithin hX.tr E h _ _ _) dS_effect_10 kS_47 (g_rm.of hR (by decide) (by decide)) (by first | exact Nat.zero_le _ | (rw [hR]; decide)) (by first | exact Nat.zero_le _ | (rw [hR]; decide)) (by first | decide | (simp [Value.category])) 13 rfl ?_
  refine g_if_eq hX dS_effect_13 25 16 (by decide) rfl (fun c13 => ?_) (fun c13 => ?_)
  · exact g_throw (wt := 0) hX rfl dS_effect_25 dS_effect_28 dS_effect_29 dS_effect_31 dS_effect_34 rfl rfl rfl rfl (tx := "no such kind or trigger") (by simp [g_strs]) x_0 rfl ⟨rfl, rfl⟩ rfl (by rw [hR]; decide) (by rw [hR]; decide) (by rw [hR]; decide) (by decide) (by rw [hR]; decide)
  · refine g_iload_n hX dS_effect_16 rfl rfl 17 rfl ?_
    refine g_iconst hX dS_effect_17 (v := 0) (by decide) 18 rfl ?_
    refine g_iconst hX dS_effect_18 (v := 2) (by decide) 19 rfl ?_
    refine g_cS3r (wt := 0) hX (c_S_isWithin hX.tr E h _ _ _) dS_effect_19 kS_47 (g_rm.of hR (by decide) (by decide)) (by first | exact Nat.zero_le _ | (rw [hR]; decide)) (by first | exact Nat.zero_le _ | (rw [hR]; decide)) (by first | decide | (simp [Value.category])) 22 rfl ?_
    refine g_if_ne hX dS_effect_22 35 25 (by decide) rfl (fun c22 => ?_) (fun c22 => ?_)
    · refine g_iload hX dS_effect_35 rfl 37 rfl ?_
      refine g_iconst hX dS_effect_37 (v := 0) (by decide) 38 rfl ?_
      refine g_bipush hX dS_effect_38 (v := 50) (by decide) 40 rfl ?_
      refine g_cS3r (wt := 0) hX (c_S_isWithin hX.tr E h _ _ _) dS_effect_40 kS_47 (g_rm.of hR (by decide) (by decide)) (by first | exact Nat.zero_le _ | (rw [hR]; decide)) (by first | exact Nat.zero_le _ | (rw [hR]; decide)) (by first | decide | (simp [Value.category])) 43 rfl ?_
      refine g_if_eq hX dS_effect_43 57 46 (by decide) rfl (fun c43 => ?_) (fun c43 => ?_)
      · exact g_throw (wt := 0) hX rfl dS_effect_57 dS_effect_60 dS_effect_61 dS_effect_63 dS_effect_66 rfl rfl rfl rfl (tx := "no such delay or duration") (by simp [g_strs]) x_0 rfl ⟨rfl, rfl⟩ rfl (by rw [hR]; decide) (by rw [hR]; decide) (by rw [hR]; decide) (by decide) (by rw [hR]; decide)
      · refine g_iload hX dS_effect_46 rfl 48 rfl ?_
        refine g_iconst hX dS_effect_48 (v := 0) (by decide) 49 rfl ?_
        refine g_bipush hX dS_effect_49 (v := 50) (by decide) 51 rfl ?_
        refine g_cS3r (wt := 0) hX (c_S_isWithin hX.tr E h _ _ _) dS_effect_51 kS_47 (g_rm.of hR (by decide) (by decide)) (by first | exact Nat.zero_le _ | (rw [hR]; decide)) (by first | exact Nat.zero_le _ | (rw [hR]; decide)) (by first | decide | (simp [Value.category])) 54 rfl ?_
        refine g_if_ne hX dS_effect_54 67 57 (by decide) rfl (fun c54 => ?_) (fun c54 => ?_)
        · exact absurd hg (by rintro (q | q | q | q | q | q | q | q) <;> first | exact (r_in_n c13).1 q | exact (r_in_n c13).2 q | exact (r_in_n c22).1 q | exact (r_in_n c22).2 q | exact (r_in_n c43).1 q | exact (r_in_n c43).2 q | exact (r_in_n c54).1 q | exact (r_in_n c54).2 q)
        · exact g_throw (wt := 0) hX rfl dS_effect_57 dS_effect_60 dS_effect_61 dS_effect_63 dS_effect_66 rfl rfl rfl rfl (tx := "no such delay or duration") (by simp [g_strs]) x_0 rfl ⟨rfl, rfl⟩ rfl (by rw [hR]; decide) (by rw [hR]; decide) (by rw [hR]; decide) (by decide) (by rw [hR]; decide)
    · exact g_throw (wt := 0) hX rfl dS_effect_25 dS_effect_28 dS_effect_29 dS_effect_31 dS_effect_34 rfl rfl rfl rfl (tx := "no such kind or trigger") (by simp [g_strs]) x_0 rfl ⟨rfl, rfl⟩ rfl (by rw [hR]; decide) (by rw [hR]; decide) (by rw [hR]; decide) (by decide) (by rw [hR]; decide)
set_option maxRecDepth 100000 in
set_option maxHeartbeats 4000000 in
theorem c_S_effect_3 {l : Launch} (hl : l.stackTraces = false) {E : g_E} {A : w_A} {S Sm : q_S} {h : g_H} (hW : w_W E A S Sm h) (hB : w_B S) {j : Nat} (hj : j < q_ns S) {k t w d : Int32} (g1 : ¬ k < 0) (g2 : ¬ 3 < k) (g3 : ¬ t < 0) (g4 : ¬ 2 < t) (g5 : ¬ w < 0) (g6 : ¬ 50 < w) (g7 : ¬ d < 0) (g8 : ¬ 50 < d) (hp : ¬ S.2 0 (S.1 2 j) = 2) : g_Ct l mS_effect 7 121 1 6 [.ref (A 0 0), .int (nI j), .int k, .int t, .int w, .int d] E h (false, fun r h' => r = .inl 2 ∧ h' = h) := by
  refine g_Ct.of hl (by decide) (by first | rfl | simp [g_rfc, Value.category]) (Nat.le_of_ble_eq_true rfl) ?_
  intro X hX hXl hR
  obtain ⟨hnp, hns, hne, hpar, hhome, hact⟩ := id hB
  show g_Go E X _ h true 0 0 0 [some (.ref (A 0 0)), some (.int (nI j)), some (.int k), some (.int t), some (.int w), some (.int d), none, none, none, none, none] []
  refine g_aload_n hX dS_effect_0 rfl rfl (by first | rfl | exact g_rfr _) 1 rfl ?_
  refine g_iload_n hX dS_effect_1 rfl rfl 2 rfl ?_
  refine g_cV1r (wt := 0) hX (c_S_findShape hX.tr hW hB hj) dS_effect_2 (w_s hW) kS_123 (g_rm.of hR (by decide) (by decide)) (by first | exact Nat.zero_le _ | (rw [hR]; decide)) (by first | exact Nat.zero_le _ | (rw [hR]; decide)) (by first | decide | (simp [Value.category])) 5 rfl ?_
  refine g_astore hX (L' := [_, _, _, _, _, _, _, _, _, _, _]) dS_effect_5 (by decide) (by first | rfl | exact g_rfr _) rfl 7 rfl ?_
  refine g_iload_n hX dS_effect_7 rfl rfl 8 rfl ?_
  refine g_iconst hX dS_effect_8 (v := 0) (by decide) 9 rfl ?_
  refine g_iconst hX dS_effect_9 (v := 3) (by decide) 10 rfl ?_
  refine g_cS3r (wt := 0) hX (c_S_isWithin hX.tr E h _ _ _) dS_effect_10 kS_47 (g_rm.of hR (by decide) (by decide)) (by first | exact Nat.zero_le _ | (rw [hR]; decide)) (by first | exact Nat.zero_le _ | (rw [hR]; decide)) (by first | decide | (simp [Value.category])) 13 rfl ?_
  refine g_if_eq hX dS_effect_13 25 16 (by decide) rfl (fun c13 => ?_) (fun c13 => ?_)
  · exact absurd (c13.symm.trans (r_in_1 g1 (q_nlt_le g2))) (by decide)
  · refine g_iload_n hX dS_effect_16 rfl rfl 17 rfl ?_
    refine g_iconst hX dS_effect_17 (v := 0) (by decide) 18 rfl ?_
    refine g_iconst hX dS_effect_18 (v := 2) (by decide) 19 rfl ?_
    refine g_cS3r (wt := 0) hX (c_S_isWithin hX.tr E h _ _ _) dS_effect_19 kS_47 (g_rm.of hR (by decide) (by decide)) (by first | exact Nat.zero_le _ | (rw [hR]; decide)) (by first | exact Nat.zero_le _ | (rw [hR]; decide)) (by first | decide | (simp [Value.category])) 22 rfl ?_
    refine g_if_ne hX dS_effect_22 35 25 (by decide) rfl (fun c22 => ?_) (fun c22 => ?_)
    · refine g_iload hX dS_effect_35 rfl 37 rfl ?_
      refine g_iconst hX dS_effect_37 (v := 0) (by decide) 38 rfl ?_
      refine g_bipush hX dS_effect_38 (v := 50) (by decide) 40 rfl ?_
      refine g_cS3r (wt := 0) hX (c_S_isWithin hX.tr E h _ _ _) dS_effect_40 kS_47 (g_rm.of hR (by decide) (by decide)) (by first | exact Nat.zero_le _ | (rw [hR]; decide)) (by first | exact Nat.zero_le _ | (rw [hR]; decide)) (by first | decide | (simp [Value.category])) 43 rfl ?_
      refine g_if_eq hX dS_effect_43 57 46 (by decide) rfl (fun c43 => ?_) (fun c43 => ?_)
      · exact absurd (c43.symm.trans (r_in_1 g5 (q_nlt_le g6))) (by decide)
      · refine g_iload hX dS_effect_46 rfl 48 rfl ?_
        refine g_iconst hX dS_effect_48 (v := 0) (by decide) 49 rfl ?_
        refine g_bipush hX dS_effect_49 (v := 50) (by decide) 51 rfl ?_
        refine g_cS3r (wt := 0) hX (c_S_isWithin hX.tr E h _ _ _) dS_effect_51 kS_47 (g_rm.of hR (by decide) (by decide)) (by first | exact Nat.zero_le _ | (rw [hR]; decide)) (by first | exact Nat.zero_le _ | (rw [hR]; decide)) (by first | decide | (simp [Value.category])) 54 rfl ?_
        refine g_if_ne hX dS_effect_54 67 57 (by decide) rfl (fun c54 => ?_) (fun c54 => ?_)
        · refine g_aload hX dS_effect_67 rfl (by first | rfl | exact g_rfr _) 69 rfl ?_
          refine g_get hX dS_effect_69 fS_150 (w_c hW 7 j (by decide) hj) rfl 72 rfl ?_
          refine g_get hX dS_effect_72 fS_206 (w_c hW 2 (q_home S j) (by decide) (hhome j hj).1) rfl 75 rfl ?_
          refine g_iconst hX dS_effect_75 (v := 2) (by decide) 76 rfl ?_
          refine g_icmp_eq hX dS_effect_76 89 79 (by decide) rfl (fun c76 => ?_) (fun c76 => ?_)
          · exact absurd c76 hp
          · exact g_throw (wt := 0) hX rfl dS_effect_79 dS_effect_82 dS_effect_83 dS_effect_85 dS_effect_88 rfl rfl rfl rfl (tx := "the shape is on no slide") (by simp [g_strs]) x_2 rfl ⟨rfl, rfl⟩ rfl (by rw [hR]; decide) (by rw [hR]; decide) (by rw [hR]; decide) (by decide) (by rw [hR]; decide)
        · exact absurd (c54.symm.trans (r_in_1 g7 (q_nlt_le g8))) (by decide)
    · exact absurd (c22.symm.trans (r_in_1 g3 (q_nlt_le g4))) (by decide)
set_option maxRecDepth 100000 in
set_option maxHeartbeats 4000000 in
theorem c_S_effect_4 {l : Launch} (hl : l.stackTraces = false) {E : g_E} {A : w_A} {S Sm : q_S} {h : g_H} (hW : w_W E A S Sm h) (hB : w_B S) {j : Nat} (hj : j < q_ns S) {k t w d : Int32} (g1 : ¬ k < 0) (g2 : ¬ 3 < k) (g3 : ¬ t < 0) (g4 : ¬ 2 < t) (g5 : ¬ w < 0) (g6 : ¬ 50 < w) (g7 : ¬ d < 0) (g8 : ¬ 50 < d) (hp : S.2 0 (S.1 2 j) = 2) (hn : q_ne S = 24) : g_Ct l mS_effect 7 121 1 6 [.ref (A 0 0), .int (nI j), .int k, .int t, .int w, .int d] E h (false, fun r h' => r = .inl 3 ∧ h' = h) := by
  refine g_Ct.of hl (by decide) (by first | rfl | simp [g_rfc, Value.category]) (Nat.le_of_ble_eq_true rfl) ?_
  intro X hX hXl hR
  obtain ⟨hnp, hns, hne, hpar, hhome, hact⟩ := id hB
  show g_Go E X _ h true 0 0 0 [some (.ref (A 0 0)), some (.int (nI j)), some (.int k), some (.int t), some (.int w), some (.int d), none, none, none, none, none] []
  refine g_aload_n hX dS_effect_0 rfl rfl (by first | rfl | exact g_rfr _) 1 rfl ?_
  refine g_iload_n hX dS_effect_1 rfl rfl 2 rfl ?_
  refine g_cV1r (wt := 0) hX (c_S_findShape hX.tr hW hB hj) dS_effect_2 (w_s hW) kS_123 (g_rm.of hR (by decide) (by decide)) (by first | exact Nat.zero_le _ | (rw [hR]; decide)) (by first | exact Nat.zero_le _ | (rw [hR]; decide)) (by first | decide | (simp [Value.category])) 5 rfl ?_
  refine g_astore hX (L' := [_, _, _, _, _, _, _, _, _, _, _]) dS_effect_5 (by decide) (by first | rfl | exact g_rfr _) rfl 7 rfl ?_
  refine g_iload_n hX dS_effect_7 rfl rfl 8 rfl ?_
  refine g_iconst hX dS_effect_8 (v := 0) (by decide) 9 rfl ?_
  refine g_iconst hX dS_effect_9 (v := 3) (by decide) 10 rfl ?_
  refine g_cS3r (wt := 0) hX (c_S_isWithin hX.tr E h _ _ _) dS_effect_10 kS_47 (g_rm.of hR (by decide) (by decide)) (by first | exact Nat.zero_le _ | (rw [hR]; decide)) (by first | exact Nat.zero_le _ | (rw [hR]; decide)) (by first | decide | (simp [Value.category])) 13 rfl ?_
  refine g_if_eq hX dS_effect_13 25 16 (by decide) rfl (fun c13 => ?_) (fun c13 => ?_)
  · exact absurd (c13.symm.trans (r_in_1 g1 (q_nlt_le g2))) (by decide)
  · refine g_iload_n hX dS_effect_16 rfl rfl 17 rfl ?_
    refine g_iconst hX dS_effect_17 (v := 0) (by decide) 18 rfl ?_
    refine g_iconst hX dS_effect_18 (v := 2) (by decide) 19 rfl ?_
    refine g_cS3r (wt := 0) hX (c_S_isWithin hX.tr E h _ _ _) dS_effect_19 kS_47 (g_rm.of hR (by decide) (by decide)) (by first | exact Nat.zero_le _ | (rw [hR]; decide)) (by first | exact Nat.zero_le _ | (rw [hR]; decide)) (by first | decide | (simp [Value.category])) 22 rfl ?_
    refine g_if_ne hX dS_effect_22 35 25 (by decide) rfl (fun c22 => ?_) (fun c22 => ?_)
    · refine g_iload hX dS_effect_35 rfl 37 rfl ?_
      refine g_iconst hX dS_effect_37 (v := 0) (by decide) 38 rfl ?_
      refine g_bipush hX dS_effect_38 (v := 50) (by decide) 40 rfl ?_
      refine g_cS3r (wt := 0) hX (c_S_isWithin hX.tr E h _ _ _) dS_effect_40 kS_47 (g_rm.of hR (by decide) (by decide)) (by first | exact Nat.zero_le _ | (rw [hR]; decide)) (by first | exact Nat.zero_le _ | (rw [hR]; decide)) (by first | decide | (simp [Value.category])) 43 rfl ?_
      refine g_if_eq hX dS_effect_43 57 46 (by decide) rfl (fun c43 => ?_) (fun c43 => ?_)
      · exact absurd (c43.symm.trans (r_in_1 g5 (q_nlt_le g6))) (by decide)
      · refine g_iload hX dS_effect_46 rfl 48 rfl ?_
        refine g_iconst hX dS_effect_48 (v := 0) (by decide) 49 rfl ?_
        refine g_bipush hX dS_effect_49 (v := 50) (by decide) 51 rfl ?_
        refine g_cS3r (wt := 0) hX (c_S_isWithin hX.tr E h _ _ _) dS_effect_51 kS_47 (g_rm.of hR (by decide) (by decide)) (by first | exact Nat.zero_le _ | (rw [hR]; decide)) (by first | exact Nat.zero_le _ | (rw [hR]; decide)) (by first | decide | (simp [Value.category])) 54 rfl ?_
        refine g_if_ne hX dS_effect_54 67 57 (by decide) rfl (fun c54 => ?_) (fun c54 => ?_)
        · refine g_aload hX dS_effect_67 rfl (by first | rfl | exact g_rfr _) 69 rfl ?_
          refine g_get hX dS_effect_69 fS_150 (w_c hW 7 j (by decide) hj) rfl 72 rfl ?_
          refine g_get hX dS_effect_72 fS_206 (w_c hW 2 (q_home S j) (by decide) (hhome j hj).1) rfl 75 rfl ?_
          refine g_iconst hX dS_effect_75 (v := 2) (by decide) 76 rfl ?_
          refine g_icmp_eq hX dS_effect_76 89 79 (by decide) rfl (fun c76 => ?_) (fun c76 => ?_)
          · refine g_aload_n hX dS_effect_89 rfl rfl (by first | rfl | exact g_rfr _) 90 rfl ?_
            refine g_get hX dS_effect_90 fS_27 (w_s hW) rfl 93 rfl ?_
            refine g_cF0r (wt := 0) hX ((show g_Rd X.l mA_size 0 0 [.ref (A 22 0)] E h (some (.int (nI (q_ne S)))) by have h9 := c_size hX.tr (w_l22 hW hB); rw [List.length_range] at h9; exact h9)) dS_effect_93 (w_l22 hW hB).1 kS_71 (g_rm.of hR (by decide) (by decide)) (by first | exact Nat.zero_le _ | (rw [hR]; decide)) (by first | exact Nat.zero_le _ | (rw [hR]; decide)) (by first | decide | (simp [Value.category])) 98 rfl ?_
            refine g_bipush hX dS_effect_98 (v := 24) (by decide) 100 rfl ?_
            refine g_icmp_lt hX dS_effect_100 113 103 (by decide) rfl (fun c100 => ?_) (fun c100 => ?_)
            · exact absurd c100 (nI_nlt (a := q_ne S) (b := 24) (by omega) (by omega))
            · exact g_throw (wt := 0) hX rfl dS_effect_103 dS_effect_106 dS_effect_107 dS_effect_109 dS_effect_112 rfl rfl rfl rfl (tx := "no more effects") (by simp [g_strs]) x_3 rfl ⟨rfl, rfl⟩ rfl (by rw [hR]; decide) (by rw [hR]; decide) (by rw [hR]; decide) (by decide) (by rw [hR]; decide)
          · exact absurd hp c76
        · exact absurd (c54.symm.trans (r_in_1 g7 (q_nlt_le g8))) (by decide)
    · exact absurd (c22.symm.trans (r_in_1 g3 (q_nlt_le g4))) (by decide)
set_option maxRecDepth 100000 in
set_option maxHeartbeats 4000000 in
theorem c_S_bb_n {l : Launch} (hl : l.stackTraces = false) {E : g_E} {A : w_A} {S Sm : q_S} {h : g_H} (hW : w_W E A S Sm h) (hB : w_B S) (t : Int32)  : g_Rd l mS_buildBehind 0 0 [.null, .int t] E h (some (.int (if t = 0 then 1 else 0))) := by
  refine g_Rd.of hl (by decide) (by first | rfl | simp [g_rfc, Value.category]) (Nat.le_of_ble_eq_true rfl) ?_
  intro X hX hXl hR
  obtain ⟨hnp, hns, hne, hpar, hhome, hact⟩ := id hB
  show g_Go E X _ h true 0 0 0 [some (.null), some (.int t), none] []
  refine g_aload_n hX dS_buildBehind_0 rfl rfl (by first | rfl | exact g_rfr _) 1 rfl ?_
  refine g_ifnonnull (r := none) hX dS_buildBehind_1 8 4 (by decide) rfl (fun a q => by cases q) (fun _ => ?_)
  refine g_iconst hX dS_buildBehind_4 (v := 0) (by decide) 5 rfl ?_
  refine g_goto hX dS_buildBehind_5 12 (by decide) ?_
  refine g_istore_n hX (L' := [_, _, _]) dS_buildBehind_12 rfl (by decide) rfl 13 rfl ?_
  refine g_iload_n hX dS_buildBehind_13 rfl rfl 14 rfl ?_
  refine g_if_ne hX dS_buildBehind_14 23 17 (by decide) rfl (fun c14 => ?_) (fun c14 => ?_)
  · refine g_iload_n hX dS_buildBehind_23 rfl rfl 24 rfl ?_
    exact g_iret hX rfl rfl dS_buildBehind_24 ⟨by first | (rw [if_neg c14]; done) | (rw [if_neg c14]; rfl), rfl⟩ rfl (Nat.zero_le _) (Nat.zero_le _)
  · refine g_iload_n hX dS_buildBehind_17 rfl rfl 18 rfl ?_
    refine g_iconst hX dS_buildBehind_18 (v := 1) (by decide) 19 rfl ?_
    refine g_iadd hX dS_buildBehind_19 20 rfl ?_
    refine g_goto hX dS_buildBehind_20 24 (by decide) ?_
    exact g_iret hX rfl rfl dS_buildBehind_24 ⟨by first | (rw [if_pos c14]; done) | (rw [if_pos c14]; rfl), rfl⟩ rfl (Nat.zero_le _) (Nat.zero_le _)
set_option maxRecDepth 100000 in
set_option maxHeartbeats 4000000 in
theorem c_S_bb_s {l : Launch} (hl : l.stackTraces = false) {E : g_E} {A : w_A} {S Sm : q_S} {h : g_H} (hW : w_W E A S Sm h) (hB : w_B S) {e : Nat} (he : e < q_ne S) (t : Int32)  : g_Rd l mS_buildBehind 0 0 [.ref (A 15 e), .int t] E h (some (.int (if t = 0 then nI (q_build S e) + 1 else nI (q_build S e)))) := by
  refine g_Rd.of hl (by decide) (by first | rfl | simp [g_rfc, Value.category]) (Nat.le_of_ble_eq_true rfl) ?_
  intro X hX hXl hR
  obtain ⟨hnp, hns, hne, hpar, hhome, hact⟩ := id hB
  show g_Go E X _ h true 0 0 0 [some (.ref (A 15 e)), some (.int t), none] []
  refine g_aload_n hX dS_buildBehind_0 rfl rfl (by first | rfl | exact g_rfr _) 1 rfl ?_
  refine g_ifnonnull (r := some (A 15 e)) hX dS_buildBehind_1 8 4 (by decide) rfl (fun _ _ => ?_) (fun q => by cases q)
  refine g_aload_n hX dS_buildBehind_8 rfl rfl (by first | rfl | exact g_rfr _) 9 rfl ?_
  refine g_get hX dS_buildBehind_9 fS_246 (w_c hW 15 e (by decide) he) rfl 12 rfl ?_
  refine g_istore_n hX (L' := [_, _, _]) dS_buildBehind_12 rfl (by decide) rfl 13 rfl ?_
  refine g_iload_n hX dS_buildBehind_13 rfl rfl 14 rfl ?_
  refine g_if_ne hX dS_buildBehind_14 23 17 (by decide) rfl (fun c14 => ?_) (fun c14 => ?_)
  · refine g_iload_n hX dS_buildBehind_23 rfl rfl 24 rfl ?_
    exact g_iret hX rfl rfl dS_buildBehind_24 ⟨by rw [if_neg c14], rfl⟩ rfl (Nat.zero_le _) (Nat.zero_le _)
  · refine g_iload_n hX dS_buildBehind_17 rfl rfl 18 rfl ?_
    refine g_iconst hX dS_buildBehind_18 (v := 1) (by decide) 19 rfl ?_
    refine g_iadd hX dS_buildBehind_19 20 rfl ?_
    refine g_goto hX dS_buildBehind_20 24 (by decide) ?_
    exact g_iret hX rfl rfl dS_buildBehind_24 ⟨by rw [if_pos c14], rfl⟩ rfl (Nat.zero_le _) (Nat.zero_le _)
set_option maxRecDepth 100000 in
set_option maxHeartbeats 4000000 in
theorem c_S_ba_n {l : Launch} (hl : l.stackTraces = false) {E : g_E} {A : w_A} {S Sm : q_S} {h : g_H} (hW : w_W E A S Sm h) (hB : w_B S) (t : Int32)  : g_Rd l mS_baseBehind 0 0 [.null, .int t] E h (some (.int 0)) := by
  refine g_Rd.of hl (by decide) (by first | rfl | simp [g_rfc, Value.category]) (Nat.le_of_ble_eq_true rfl) ?_
  intro X hX hXl hR
  obtain ⟨hnp, hns, hne, hpar, hhome, hact⟩ := id hB
  show g_Go E X _ h true 0 0 0 [some (.null), some (.int t)] []
  refine g_aload_n hX dS_baseBehind_0 rfl rfl (by first | rfl | exact g_rfr _) 1 rfl ?_
  refine g_ifnull (r := none) hX dS_baseBehind_1 8 4 (by decide) rfl (fun _ => ?_) (fun a q => by cases q)
  refine g_iconst hX dS_baseBehind_8 (v := 0) (by decide) 9 rfl ?_
  exact g_iret hX rfl rfl dS_baseBehind_9 ⟨rfl, rfl⟩ rfl (Nat.zero_le _) (Nat.zero_le _)
set_option maxRecDepth 100000 in
set_option maxHeartbeats 4000000 in
theorem c_S_ba_s {l : Launch} (hl : l.stackTraces = false) {E : g_E} {A : w_A} {S Sm : q_S} {h : g_H} (hW : w_W E A S Sm h) (hB : w_B S) {e : Nat} (he : e < q_ne S) (t : Int32)  : g_Rd l mS_baseBehind 0 0 [.ref (A 15 e), .int t] E h (some (.int (if t = 0 then 0 else if t = 1 then q_base S e else q_end S e))) := by
  refine g_Rd.of hl (by decide) (by first | rfl | simp [g_rfc, Value.category]) (Nat.le_of_ble_eq_true rfl) ?_
  intro X hX hXl hR
  obtain ⟨hnp, hns, hne, hpar, hhome, hact⟩ := id hB
  show g_Go E X _ h true 0 0 0 [some (.ref (A 15 e)), some (.int t)] []
  refine g_aload_n hX dS_baseBehind_0 rfl rfl (by first | rfl | exact g_rfr _) 1 rfl ?_
  refine g_ifnull (r := some (A 15 e)) hX dS_baseBehind_1 8 4 (by decide) rfl (fun q => by cases q) (fun _ _ => ?_)
  refine g_iload_n hX dS_baseBehind_4 rfl rfl 5 rfl ?_
  refine g_if_ne hX dS_baseBehind_5 10 8 (by decide) rfl (fun c5 => ?_) (fun c5 => ?_)
  · refine g_iload_n hX dS_baseBehind_10 rfl rfl 11 rfl ?_
    refine g_iconst hX dS_baseBehind_11 (v := 1) (by decide) 12 rfl ?_
    refine g_icmp_ne hX dS_baseBehind_12 22 15 (by decide) rfl (fun c12 => ?_) (fun c12 => ?_)
    · refine g_aload_n hX dS_baseBehind_22 rfl rfl (by first | rfl | exact g_rfr _) 23 rfl ?_
      refine g_get hX dS_baseBehind_23 fS_243 (w_c hW 15 e (by decide) he) rfl 26 rfl ?_
      exact g_iret hX rfl rfl dS_baseBehind_26 ⟨by rw [if_neg c5, if_neg c12], rfl⟩ rfl (Nat.zero_le _) (Nat.zero_le _)
    · refine g_aload_n hX dS_baseBehind_15 rfl rfl (by first | rfl | exact g_rfr _) 16 rfl ?_
      refine g_get hX dS_baseBehind_16 fS_326 (w_c hW 15 e (by decide) he) rfl 19 rfl ?_
      refine g_goto hX dS_baseBehind_19 26 (by decide) ?_
      exact g_iret hX rfl rfl dS_baseBehind_26 ⟨by rw [if_neg c5, if_pos c12], rfl⟩ rfl (Nat.zero_le _) (Nat.zero_le _)
  · refine g_iconst hX dS_baseBehind_8 (v := 0) (by decide) 9 rfl ?_
    exact g_iret hX rfl rfl dS_baseBehind_9 ⟨by rw [if_pos c5], rfl⟩ rfl (Nat.zero_le _) (Nat.zero_le _)
theorem q_run_ef {S : q_S} {j : Nat} {k t w d : Int32} : q_run (q_up1 (q_up2 (q_up2 (q_up2 (q_up2 (q_up2 (q_up1 S 5 (q_ne S) j) 7 (q_ne S) k) 8 (q_ne S) t) 9 (q_ne S) w) 10 (q_ne S) d) 11 (q_ne S) 0) 0 2 (q_ne S + 1)) (q_epage (q_up1 (q_up2 (q_up2 (q_up2 (q_up2 (q_up2 (q_up1 S 5 (q_ne S) j) 7 (q_ne S) k) 8 (q_ne S) t) 9 (q_ne S) w) 10 (q_ne S) d) 11 (q_ne S) 0) 0 2 (q_ne S + 1)) (q_ne S)) (q_ne S + 1) =
    ((if t = 0 ∨ (q_run S (q_home S j) (q_ne S)).2.2.1 = false then 0 else if t = 1 then (q_run S (q_home S j) (q_ne S)).1 else (q_run S (q_home S j) (q_ne S)).2.1),
     (if t = 0 ∨ (q_run S (q_home S j) (q_ne S)).2.2.1 = false then 0 else if t = 1 then (q_run S (q_home S j) (q_ne S)).1 else (q_run S (q_home S j) (q_ne S)).2.1) + w + d, true, if t = 0 then (q_run S (q_home S j) (q_ne S)).2.2.2 + 1 else (q_run S (q_home S j) (q_ne S)).2.2.2) := by
  have e5 : (q_up1 (q_up2 (q_up2 (q_up2 (q_up2 (q_up2 (q_up1 S 5 (q_ne S) j) 7 (q_ne S) k) 8 (q_ne S) t) 9 (q_ne S) w) 10 (q_ne S) d) 11 (q_ne S) 0) 0 2 (q_ne S + 1)).1 5 (q_ne S) = j := (show q_updN (S.1 5) (q_ne S) j (q_ne S) = j from if_pos rfl)
  have e8 : (q_up1 (q_up2 (q_up2 (q_up2 (q_up2 (q_up2 (q_up1 S 5 (q_ne S) j) 7 (q_ne S) k) 8 (q_ne S) t) 9 (q_ne S) w) 10 (q_ne S) d) 11 (q_ne S) 0) 0 2 (q_ne S + 1)).2 8 (q_ne S) = t := (show upd (S.2 8) (q_ne S) t (q_ne S) = t from if_pos rfl)
  have e9 : (q_up1 (q_up2 (q_up2 (q_up2 (q_up2 (q_up2 (q_up1 S 5 (q_ne S) j) 7 (q_ne S) k) 8 (q_ne S) t) 9 (q_ne S) w) 10 (q_ne S) d) 11 (q_ne S) 0) 0 2 (q_ne S + 1)).2 9 (q_ne S) = w := (show upd (S.2 9) (q_ne S) w (q_ne S) = w from if_pos rfl)
  have e10 : (q_up1 (q_up2 (q_up2 (q_up2 (q_up2 (q_up2 (q_up1 S 5 (q_ne S) j) 7 (q_ne S) k) 8 (q_ne S) t) 9 (q_ne S) w) 10 (q_ne S) d) 11 (q_ne S) 0) 0 2 (q_ne S + 1)).2 10 (q_ne S) = d := (show upd (S.2 10) (q_ne S) d (q_ne S) = d from if_pos rfl)
  have hp : q_epage (q_up1 (q_up2 (q_up2 (q_up2 (q_up2 (q_up2 (q_up1 S 5 (q_ne S) j) 7 (q_ne S) k) 8 (q_ne S) t) 9 (q_ne S) w) 10 (q_ne S) d) 11 (q_ne S) 0) 0 2 (q_ne S + 1)) (q_ne S) = q_home S j := by
    show S.1 2 ((q_up1 (q_up2 (q_up2 (q_up2 (q_up2 (q_up2 (q_up1 S 5 (q_ne S) j) 7 (q_ne S) k) 8 (q_ne S) t) 9 (q_ne S) w) 10 (q_ne S) d) 11 (q_ne S) 0) 0 2 (q_ne S + 1)).1 5 (q_ne S)) = S.1 2 j
    rw [e5]
  have hr : q_run (q_up1 (q_up2 (q_up2 (q_up2 (q_up2 (q_up2 (q_up1 S 5 (q_ne S) j) 7 (q_ne S) k) 8 (q_ne S) t) 9 (q_ne S) w) 10 (q_ne S) d) 11 (q_ne S) 0) 0 2 (q_ne S + 1)) (q_home S j) (q_ne S) = q_run S (q_home S j) (q_ne S) := (q_run_pt (q_ne S) (fun e he => q_ept_ef he)).symm
  rw [hp, q_run_eq hp, hr, e8, e9, e10]
theorem q_ef_n {S : q_S} {j : Nat} {k t w d : Int32} (h : q_run S (q_home S j) (q_ne S) = (0, 0, false, 0)) : (if t = 0 then 1 else 0) = nI (q_build (q_up1 (q_up2 (q_up2 (q_up2 (q_up2 (q_up2 (q_up1 S 5 (q_ne S) j) 7 (q_ne S) k) 8 (q_ne S) t) 9 (q_ne S) w) 10 (q_ne S) d) 11 (q_ne S) 0) 0 2 (q_ne S + 1)) (q_ne S)) ∧ 0 = q_base (q_up1 (q_up2 (q_up2 (q_up2 (q_up2 (q_up2 (q_up1 S 5 (q_ne S) j) 7 (q_ne S) k) 8 (q_ne S) t) 9 (q_ne S) w) 10 (q_ne S) d) 11 (q_ne S) 0) 0 2 (q_ne S + 1)) (q_ne S) := by
  unfold q_build q_base
  rw [q_run_ef, h]
  constructor
  · show _ = nI (if t = 0 then 0 + 1 else 0)
    by_cases h0 : t = 0
    · rw [if_pos h0, if_pos h0]
      decide
    · rw [if_neg h0, if_neg h0]
      decide
  · exact (if_pos (Or.inr rfl)).symm
theorem q_ef_s {S : q_S} {j e : Nat} {k t w d : Int32} (hp : q_epage S e = q_home S j) (h : q_run S (q_home S j) (q_ne S) = q_run S (q_home S j) (e + 1)) : (if t = 0 then nI (q_build S e) + 1 else nI (q_build S e)) = nI (q_build (q_up1 (q_up2 (q_up2 (q_up2 (q_up2 (q_up2 (q_up1 S 5 (q_ne S) j) 7 (q_ne S) k) 8 (q_ne S) t) 9 (q_ne S) w) 10 (q_ne S) d) 11 (q_ne S) 0) 0 2 (q_ne S + 1)) (q_ne S)) ∧ (if t = 0 then 0 else if t = 1 then q_base S e else q_end S e) = q_base (q_up1 (q_up2 (q_up2 (q_up2 (q_up2 (q_up2 (q_up1 S 5 (q_ne S) j) 7 (q_ne S) k) 8 (q_ne S) t) 9 (q_ne S) w) 10 (q_ne S) d) 11 (q_ne S) 0) 0 2 (q_ne S + 1)) (q_ne S) := by
  have hb : (q_run S (q_home S j) (e + 1)).2.2.2 = q_build S e := by unfold q_build; rw [hp]
  have hs : (q_run S (q_home S j) (e + 1)).1 = q_base S e := by unfold q_base; rw [hp]
  have ht : (q_run S (q_home S j) (e + 1)).2.2.1 = true := by rw [q_run_eq hp]
  have hn : (q_run S (q_home S j) (e + 1)).2.1 = q_end S e := by
    unfold q_end
    rw [← hs, q_run_eq hp]
  rw [show q_build (q_up1 (q_up2 (q_up2 (q_up2 (q_up2 (q_up2 (q_up1 S 5 (q_ne S) j) 7 (q_ne S) k) 8 (q_ne S) t) 9 (q_ne S) w) 10 (q_ne S) d) 11 (q_ne S) 0) 0 2 (q_ne S + 1)) (q_ne S) = if t = 0 then q_build S e + 1 else q_build S e by unfold q_build; rw [q_run_ef, h]; show (if t = 0 then (q_run S (q_home S j) (e + 1)).2.2.2 + 1 else (q_run S (q_home S j) (e + 1)).2.2.2) = _; rw [hb]; rfl, show q_base (q_up1 (q_up2 (q_up2 (q_up2 (q_up2 (q_up2 (q_up1 S 5 (q_ne S) j) 7 (q_ne S) k) 8 (q_ne S) t) 9 (q_ne S) w) 10 (q_ne S) d) 11 (q_ne S) 0) 0 2 (q_ne S + 1)) (q_ne S) = if t = 0 then 0 else if t = 1 then q_base S e else q_end S e by
    show (q_run (q_up1 (q_up2 (q_up2 (q_up2 (q_up2 (q_up2 (q_up1 S 5 (q_ne S) j) 7 (q_ne S) k) 8 (q_ne S) t) 9 (q_ne S) w) 10 (q_ne S) d) 11 (q_ne S) 0) 0 2 (q_ne S + 1)) (q_epage (q_up1 (q_up2 (q_up2 (q_up2 (q_up2 (q_up2 (q_up1 S 5 (q_ne S) j) 7 (q_ne S) k) 8 (q_ne S) t) 9 (q_ne S) w) 10 (q_ne S) d) 11 (q_ne S) 0) 0 2 (q_ne S + 1)) (q_ne S)) (q_ne S + 1)).1 = _
    rw [q_run_ef, h, hs, hn, ht]
    show (if t = 0 ∨ true = false then 0 else if t = 1 then q_base S e else q_end S e) = _
    by_cases h0 : t = 0
    · rw [if_pos (Or.inl h0), if_pos h0]
    · rw [if_neg (fun q => q.elim h0 (fun q => by cases q)), if_neg h0]]
  refine ⟨?_, rfl⟩
  by_cases h0 : t = 0
  · rw [if_pos h0, if_pos h0, nI_1]
  · rw [if_neg h0, if_neg h0]
set_option maxRecDepth 100000 in
set_option maxHeartbeats 4000000 in
theorem c_S_effect_0n {l : Launch} (hl : l.stackTraces = false) {E : g_E} {A : w_A} {S Sm : q_S} {h : g_H} (hW : w_W E A S Sm h) (hB : w_B S) {j : Nat} (hj : j < q_ns S) {k t w d : Int32} (g1 : ¬ k < 0) (g2 : ¬ 3 < k) (g3 : ¬ t < 0) (g4 : ¬ 2 < t) (g5 : ¬ w < 0) (g6 : ¬ 50 < w) (g7 : ¬ d < 0) (g8 : ¬ 50 < d) (hp : S.2 0 (S.1 2 j) = 2) (hn : q_ne S < 24) (hle : q_eon S (q_home S j) = [] ∧ q_run S (q_home S j) (q_ne S) = (0, 0, false, 0)) : g_Ct l mS_effect 7 121 4 107 [.ref (A 0 0), .int (nI j), .int k, .int t, .int w, .int d] E h (false, fun r' h' => r' = .inr (some (.int (nI (q_ne S)))) ∧ ∃ B, w_same A B ∧ w_W E B (q_up1 (q_up2 (q_up2 (q_up2 (q_up2 (q_up2 (q_up1 S 5 (q_ne S) j) 7 (q_ne S) k) 8 (q_ne S) t) 9 (q_ne S) w) 10 (q_ne S) d) 11 (q_ne S) 0) 0 2 (q_ne S + 1)) Sm h') := by
  refine g_Ct.of hl (by decide) (by first | rfl | simp [g_rfc, Value.category]) (Nat.le_of_ble_eq_true rfl) ?_
  intro X hX hXl hR
  obtain ⟨hnp, hns, hne, hpar, hhome, hact⟩ := id hB
  show g_Go E X _ h true 0 0 0 [some (.ref (A 0 0)), some (.int (nI j)), some (.int k), some (.int t), some (.int w), some (.int d), none, none, none, none, none] []
  refine g_aload_n hX dS_effect_0 rfl rfl (by first | rfl | exact g_rfr _) 1 rfl ?_
  refine g_iload_n hX dS_effect_1 rfl rfl 2 rfl ?_
  refine g_cV1r (wt := 0) hX (c_S_findShape hX.tr hW hB hj) dS_effect_2 (w_s hW) kS_123 (g_rm.of hR (by decide) (by decide)) (by first | exact Nat.zero_le _ | (rw [hR]; decide)) (by first | exact Nat.zero_le _ | (rw [hR]; decide)) (by first | decide | (simp [Value.category])) 5 rfl ?_
  refine g_astore hX (L' := [_, _, _, _, _, _, _, _, _, _, _]) dS_effect_5 (by decide) (by first | rfl | exact g_rfr _) rfl 7 rfl ?_
  refine g_iload_n hX dS_effect_7 rfl rfl 8 rfl ?_
  refine g_iconst hX dS_effect_8 (v := 0) (by decide) 9 rfl ?_
  refine g_iconst hX dS_effect_9 (v := 3) (by decide) 10 rfl ?_
  refine g_cS3r (wt := 0) hX (c_S_isWithin hX.tr E h _ _ _) dS_effect_10 kS_47 (g_rm.of hR (by decide) (by decide)) (by first | exact Nat.zero_le _ | (rw [hR]; decide)) (by first | exact Nat.zero_le _ | (rw [hR]; decide)) (by first | decide | (simp [Value.category])) 13 rfl ?_
  refine g_if_eq hX dS_effect_13 25 16 (by decide) rfl (fun c13 => ?_) (fun c13 => ?_)
  · exact absurd (c13.symm.trans (r_in_1 g1 (q_nlt_le g2))) (by decide)
  · refine g_iload_n hX dS_effect_16 rfl rfl 17 rfl ?_
    refine g_iconst hX dS_effect_17 (v := 0) (by decide) 18 rfl ?_
    refine g_iconst hX dS_effect_18 (v := 2) (by decide) 19 rfl ?_
    refine g_cS3r (wt := 0) hX (c_S_isWithin hX.tr E h _ _ _) dS_effect_19 kS_47 (g_rm.of hR (by decide) (by decide)) (by first | exact Nat.zero_le _ | (rw [hR]; decide)) (by first | exact Nat.zero_le _ | (rw [hR]; decide)) (by first | decide | (simp [Value.category])) 22 rfl ?_
    refine g_if_ne hX dS_effect_22 35 25 (by decide) rfl (fun c22 => ?_) (fun c22 => ?_)
    · refine g_iload hX dS_effect_35 rfl 37 rfl ?_
      refine g_iconst hX dS_effect_37 (v := 0) (by decide) 38 rfl ?_
      refine g_bipush hX dS_effect_38 (v := 50) (by decide) 40 rfl ?_
      refine g_cS3r (wt := 0) hX (c_S_isWithin hX.tr E h _ _ _) dS_effect_40 kS_47 (g_rm.of hR (by decide) (by decide)) (by first | exact Nat.zero_le _ | (rw [hR]; decide)) (by first | exact Nat.zero_le _ | (rw [hR]; decide)) (by first | decide | (simp [Value.category])) 43 rfl ?_
      refine g_if_eq hX dS_effect_43 57 46 (by decide) rfl (fun c43 => ?_) (fun c43 => ?_)
      · exact absurd (c43.symm.trans (r_in_1 g5 (q_nlt_le g6))) (by decide)
      · refine g_iload hX dS_effect_46 rfl 48 rfl ?_
        refine g_iconst hX dS_effect_48 (v := 0) (by decide) 49 rfl ?_
        refine g_bipush hX dS_effect_49 (v := 50) (by decide) 51 rfl ?_
        refine g_cS3r (wt := 0) hX (c_S_isWithin hX.tr E h _ _ _) dS_effect_51 kS_47 (g_rm.of hR (by decide) (by decide)) (by first | exact Nat.zero_le _ | (rw [hR]; decide)) (by first | exact Nat.zero_le _ | (rw [hR]; decide)) (by first | decide | (simp [Value.category])) 54 rfl ?_
        refine g_if_ne hX dS_effect_54 67 57 (by decide) rfl (fun c54 => ?_) (fun c54 => ?_)
        · refine g_aload hX dS_effect_67 rfl (by first | rfl | exact g_rfr _) 69 rfl ?_
          refine g_get hX dS_effect_69 fS_150 (w_c hW 7 j (by decide) hj) rfl 72 rfl ?_
          refine g_get hX dS_effect_72 fS_206 (w_c hW 2 (q_home S j) (by decide) (hhome j hj).1) rfl 75 rfl ?_
          refine g_iconst hX dS_effect_75 (v := 2) (by decide) 76 rfl ?_
          refine g_icmp_eq hX dS_effect_76 89 79 (by decide) rfl (fun c76 => ?_) (fun c76 => ?_)
          · refine g_aload_n hX dS_effect_89 rfl rfl (by first | rfl | exact g_rfr _) 90 rfl ?_
            refine g_get hX dS_effect_90 fS_27 (w_s hW) rfl 93 rfl ?_
            refine g_cF0r (wt := 0) hX ((show g_Rd X.l mA_size 0 0 [.ref (A 22 0)] E h (some (.int (nI (q_ne S)))) by have h9 := c_size hX.tr (w_l22 hW hB); rw [List.length_range] at h9; exact h9)) dS_effect_93 (w_l22 hW hB).1 kS_71 (g_rm.of hR (by decide) (by decide)) (by first | exact Nat.zero_le _ | (rw [hR]; decide)) (by first | exact Nat.zero_le _ | (rw [hR]; decide)) (by first | decide | (simp [Value.category])) 98 rfl ?_
            refine g_bipush hX dS_effect_98 (v := 24) (by decide) 100 rfl ?_
            refine g_icmp_lt hX dS_effect_100 113 103 (by decide) rfl (fun c100 => ?_) (fun c100 => ?_)
            · refine g_aload hX dS_effect_113 rfl (by first | rfl | exact g_rfr _) 115 rfl ?_
              refine g_get hX dS_effect_115 fS_150 (w_c hW 7 j (by decide) hj) rfl 118 rfl ?_
              refine g_cS1r (wt := 0) hX (c_S_lastEffect_0 hX.tr hW hB (hhome j hj).1 hle.1) dS_effect_118 kS_213 (g_rm.of hR (by decide) (by decide)) (by first | exact Nat.zero_le _ | (rw [hR]; decide)) (by first | exact Nat.zero_le _ | (rw [hR]; decide)) (by first | decide | (simp [Value.category])) 121 rfl ?_
              refine g_astore hX (L' := [_, _, _, _, _, _, _, _, _, _, _]) dS_effect_121 (by decide) (by first | rfl | exact g_rfr _) rfl 123 rfl ?_
              refine g_aload hX dS_effect_123 rfl (by first | rfl | exact g_rfr _) 125 rfl ?_
              refine g_iload_n hX dS_effect_125 rfl rfl 126 rfl ?_
              refine g_cS2r (wt := 0) hX (c_S_bb_n hX.tr hW hB _) dS_effect_126 kS_217 (g_rm.of hR (by decide) (by decide)) (by first | exact Nat.zero_le _ | (rw [hR]; decide)) (by first | exact Nat.zero_le _ | (rw [hR]; decide)) (by first | decide | (simp [Value.category])) 129 rfl ?_
              refine g_istore hX (L' := [_, _, _, _, _, _, _, _, _, _, _]) dS_effect_129 (by decide) rfl 131 rfl ?_
              refine g_aload hX dS_effect_131 rfl (by first | rfl | exact g_rfr _) 133 rfl ?_
              refine g_iload_n hX dS_effect_133 rfl rfl 134 rfl ?_
              refine g_cS2r (wt := 0) hX (c_S_ba_n hX.tr hW hB _) dS_effect_134 kS_221 (g_rm.of hR (by decide) (by decide)) (by first | exact Nat.zero_le _ | (rw [hR]; decide)) (by first | exact Nat.zero_le _ | (rw [hR]; decide)) (by first | decide | (simp [Value.category])) 137 rfl ?_
              refine g_istore hX (L' := [_, _, _, _, _, _, _, _, _, _, _]) dS_effect_137 (by decide) rfl 139 rfl ?_
              refine g_new hX dS_effect_139 nS_224 (by rw [hR]; decide) (by rw [hR]; decide) 142 rfl (fun q hq zq => ?_)
              have hG := hW.g.new 15 (q_ne S) (.inr (4, [.null, .int 0, .int 0, .int 0, .int 0, .int 0, .int 0, .int 0])) hq zq
              revert hG
              generalize g_set h q _ = h1
              intro hG
              refine g_dup hX dS_effect_142 rfl 143 rfl ?_
              refine g_aload hX dS_effect_143 rfl (by first | rfl | exact g_rfr _) 145 rfl ?_
              refine g_get hX dS_effect_145 fS_150 (show h1 (A 7 j) = some (w_cell E A S 7 j) from hG.1 7 j (Or.inr ((show w_lv S Sm 7 j from hj)))) rfl 148 rfl ?_
              refine g_iload_n hX dS_effect_148 rfl rfl 149 rfl ?_
              refine g_iload hX dS_effect_149 rfl 151 rfl ?_
              refine g_iload hX dS_effect_151 rfl 153 rfl ?_
              refine g_iload hX dS_effect_153 rfl 155 rfl ?_
              refine g_iload hX dS_effect_155 rfl 157 rfl ?_
              refine g_cI6 (wt := 1) hX (c_F_initW hX.tr hG (w_uA_same _ _ _ _) (Or.inl ⟨rfl, rfl⟩) (w_uc_same _ _ _ _)) dS_effect_157 kS_226 (g_rm.of hR (by decide) (by decide)) (by first | exact Nat.zero_le _ | (rw [hR]; decide)) (by first | exact Nat.zero_le _ | (rw [hR]; decide)) (by first | decide | (simp [Value.category])) (fun q => by cases q) 160 rfl (fun v h hP => ?_) (fun k h hP => by cases hP.1)
              obtain ⟨hv, hG⟩ := hP
              cases hv
              show g_Go E X _ h false _ _ 160 _ [.ref q]
              refine g_astore hX (L' := [_, _, _, _, _, _, _, _, _, _, _]) dS_effect_160 (by decide) (by first | rfl | exact g_rfr _) rfl 162 rfl ?_
              refine g_aload_n hX dS_effect_162 rfl rfl (by first | rfl | exact g_rfr _) 163 rfl ?_
              refine g_get hX dS_effect_163 fS_27 (show h (A 0 0) = some (w_cell E A S 0 0) from hG.1 0 0 (Or.inr ((show w_lv S Sm 0 0 from ⟨rfl, by decide⟩)))) rfl 166 rfl ?_
              refine g_aload hX dS_effect_166 rfl (by first | rfl | exact g_rfr _) 168 rfl ?_
              refine g_cF1 (wt := 0) hX (c_addWb (k := 22) (i := 0) (t := 15) (x0 := q_ne S) (xs := List.range (q_ne S)) hX.tr hG rfl (by rw [w_uA_same]) (Or.inr ((show w_lv S Sm 22 0 from ⟨rfl, by decide⟩))) rfl (fun hn9 => ⟨Or.inr ((show w_lv S Sm 23 0 from ⟨rfl, fun (e9 : q_ne S = 0) => hn9 (by rw [e9]; rfl)⟩)), w_data_c (fun x hx => by rw [w_uA_ix _ (show ¬ x = q_ne S from fun e9 => by have : x < q_ne S := List.mem_range.mp hx; omega)])⟩) (fun x hx => ⟨Or.inr ((show w_lv S Sm 15 x from (List.mem_range.mp hx))), _, by rw [w_uc_ix _ (show ¬ x = q_ne S from fun e9 => by have : x < q_ne S := List.mem_range.mp hx; omega), w_uc_ix _ (show ¬ x = q_ne S from fun e9 => by have : x < q_ne S := List.mem_range.mp hx; omega)]; rfl⟩) ⟨Or.inl ⟨rfl, rfl⟩, _, by rw [w_uc_same]⟩ (by rw [List.length_range]; omega) (ct := 4) rfl (g_in 1120 (by decide +kernel) (by decide +kernel)) (by decide)) dS_effect_168 (show h (A 22 0) = some (w_cell E A S 22 0) from hG.1 22 0 (Or.inr ((show w_lv S Sm 22 0 from ⟨rfl, by decide⟩)))) kS_87 (g_rm.of hR (by decide) (by decide)) (by first | exact Nat.zero_le _ | (rw [hR]; decide)) (by first | exact Nat.zero_le _ | (rw [hR]; decide)) (by first | decide | (simp [Value.category])) (fun q => by cases q) 173 rfl (fun v h hP => ?_) (fun k h hP => by cases hP.1)
              obtain ⟨hv, d1, hG⟩ := hP
              cases hv
              show g_Go E X _ h false _ _ 173 _ [.int 1]
              refine g_pop hX dS_effect_173 rfl 174 rfl ?_
              refine g_aload hX dS_effect_174 rfl (by first | rfl | exact g_rfr _) 176 rfl ?_
              refine g_get hX dS_effect_176 fS_150 (show h (A 7 j) = some (w_cell E A S 7 j) from hG.1 7 j (Or.inr (Or.inr ((show w_lv S Sm 7 j from hj))))) rfl 179 rfl ?_
              refine g_get hX dS_effect_179 fS_229 (show h (A 2 (q_home S j)) = some (w_cell E A S 2 (q_home S j)) from hG.1 2 (q_home S j) (Or.inr (Or.inr ((show w_lv S Sm 2 (q_home S j) from (hhome j hj).1))))) rfl 182 rfl ?_
              refine g_aload hX dS_effect_182 rfl (by first | rfl | exact g_rfr _) 184 rfl ?_
              refine g_cF1 (wt := 0) hX (c_addWb (k := 5) (i := (q_home S j)) (t := 15) (x0 := q_ne S) (xs := q_eon S (q_home S j)) hX.tr hG rfl (by rw [w_uA_tag _ (by decide), w_uA_same]) (Or.inr (Or.inr ((show w_lv S Sm 5 (q_home S j) from (hhome j hj).1)))) rfl (fun hn9 => ⟨Or.inr (Or.inr ((show w_lv S Sm 6 (q_home S j) from ⟨(hhome j hj).1, hn9⟩))), w_data_c (fun x hx => by rw [w_uA_tag _ (by decide), w_uA_ix _ (show ¬ x = q_ne S from fun e9 => by have : x < q_ne S := q_eon_lt hx; omega)])⟩) (fun x hx => ⟨Or.inr (Or.inr ((show w_lv S Sm 15 x from (q_eon_lt hx)))), _, by rw [w_uc_tag _ (by decide), w_uc_tag _ (by decide), w_uc_ix _ (show ¬ x = q_ne S from fun e9 => by have : x < q_ne S := q_eon_lt hx; omega), w_uc_ix _ (show ¬ x = q_ne S from fun e9 => by have : x < q_ne S := q_eon_lt hx; omega)]; rfl⟩) ⟨Or.inr (Or.inl ⟨rfl, rfl⟩), _, by rw [w_uc_tag _ (by decide), w_uc_tag _ (by decide), w_uc_same]⟩ (by have := q_eon_len S (q_home S j); omega) (ct := 4) rfl (g_in 1120 (by decide +kernel) (by decide +kernel)) (by decide)) dS_effect_184 (show h (A 5 (q_home S j)) = some (w_cell E A S 5 (q_home S j)) from hG.1 5 (q_home S j) (Or.inr (Or.inr ((show w_lv S Sm 5 (q_home S j) from (hhome j hj).1))))) kS_87 (g_rm.of hR (by decide) (by decide)) (by first | exact Nat.zero_le _ | (rw [hR]; decide)) (by first | exact Nat.zero_le _ | (rw [hR]; decide)) (by first | decide | (simp [Value.category])) (fun q => by cases q) 189 rfl (fun v h hP => ?_) (fun k h hP => by cases hP.1)
              obtain ⟨hv, d2, hG⟩ := hP
              cases hv
              show g_Go E X _ h false _ _ 189 _ [.int 1]
              refine g_pop hX dS_effect_189 rfl 190 rfl ?_
              refine g_aload hX dS_effect_190 rfl (by first | rfl | exact g_rfr _) 192 rfl ?_
              refine g_get hX dS_effect_192 fS_230 (show h (A 7 j) = some (w_cell E A S 7 j) from hG.1 7 j (Or.inr (Or.inr (Or.inr ((show w_lv S Sm 7 j from hj)))))) rfl 195 rfl ?_
              refine g_aload hX dS_effect_195 rfl (by first | rfl | exact g_rfr _) 197 rfl ?_
              refine g_cF1 (wt := 0) hX (c_addWb (k := 12) (i := j) (t := 15) (x0 := q_ne S) (xs := q_eof S j) hX.tr hG rfl (by rw [w_uA_tag _ (by decide), w_uA_tag _ (by decide), w_uA_same]) (Or.inr (Or.inr (Or.inr ((show w_lv S Sm 12 j from hj))))) rfl (fun hn9 => ⟨Or.inr (Or.inr (Or.inr ((show w_lv S Sm 13 j from ⟨hj, hn9⟩)))), w_data_c (fun x hx => by rw [w_uA_tag _ (by decide), w_uA_tag _ (by decide), w_uA_ix _ (show ¬ x = q_ne S from fun e9 => by have : x < q_ne S := q_eof_lt hx; omega)])⟩) (fun x hx => ⟨Or.inr (Or.inr (Or.inr ((show w_lv S Sm 15 x from (q_eof_lt hx))))), _, by rw [w_uc_tag _ (by decide), w_uc_tag _ (by decide), w_uc_tag _ (by decide), w_uc_tag _ (by decide), w_uc_ix _ (show ¬ x = q_ne S from fun e9 => by have : x < q_ne S := q_eof_lt hx; omega), w_uc_ix _ (show ¬ x = q_ne S from fun e9 => by have : x < q_ne S := q_eof_lt hx; omega)]; rfl⟩) ⟨Or.inr (Or.inr (Or.inl ⟨rfl, rfl⟩)), _, by rw [w_uc_tag _ (by decide), w_uc_tag _ (by decide), w_uc_tag _ (by decide), w_uc_tag _ (by decide), w_uc_same]⟩ (by have := q_eof_len S j; omega) (ct := 4) rfl (g_in 1120 (by decide +kernel) (by decide +kernel)) (by decide)) dS_effect_197 (show h (A 12 j) = some (w_cell E A S 12 j) from hG.1 12 j (Or.inr (Or.inr (Or.inr ((show w_lv S Sm 12 j from hj)))))) kS_87 (g_rm.of hR (by decide) (by decide)) (by first | exact Nat.zero_le _ | (rw [hR]; decide)) (by first | exact Nat.zero_le _ | (rw [hR]; decide)) (by first | decide | (simp [Value.category])) (fun q => by cases q) 202 rfl (fun v h hP => ?_) (fun k h hP => by cases hP.1)
              obtain ⟨hv, d3, hG⟩ := hP
              cases hv
              show g_Go E X _ h false _ _ 202 _ [.int 1]
              refine g_pop hX dS_effect_202 rfl 203 rfl ?_
              refine g_aload_n hX dS_effect_203 rfl rfl (by first | rfl | exact g_rfr _) 204 rfl ?_
              refine g_get hX dS_effect_204 fS_27 (show h (A 0 0) = some (w_cell E A S 0 0) from hG.1 0 0 (Or.inr (Or.inr (Or.inr (Or.inr ((show w_lv S Sm 0 0 from ⟨rfl, by decide⟩))))))) rfl 207 rfl ?_
              refine g_cF0r (wt := 0) hX ((show g_Rd X.l mA_size 0 0 [.ref (A 22 0)] E h (some (.int (nI (q_ne S + 1)))) from c_A_size hX.tr E h (show h (A 22 0) = some (.inr (6, [.ref d1, .int (nI (q_ne S + 1)), .int (nI (q_ne S + 1))])) by have h9 := hG.1 22 0 (Or.inr (Or.inr (Or.inr (Or.inr ((show w_lv S Sm 22 0 from ⟨rfl, by decide⟩)))))); rw [w_uc_tag _ (by decide), w_uc_tag _ (by decide), w_uc_tag _ (by decide), w_uc_tag _ (by decide), w_uc_same, List.length_range, w_list_s] at h9; exact h9))) dS_effect_207 (show h (A 22 0) = some (.inr (6, [.ref d1, .int (nI (q_ne S + 1)), .int (nI (q_ne S + 1))])) by have h9 := hG.1 22 0 (Or.inr (Or.inr (Or.inr (Or.inr ((show w_lv S Sm 22 0 from ⟨rfl, by decide⟩)))))); rw [w_uc_tag _ (by decide), w_uc_tag _ (by decide), w_uc_tag _ (by decide), w_uc_tag _ (by decide), w_uc_same, List.length_range, w_list_s] at h9; exact h9) kS_71 (g_rm.of hR (by decide) (by decide)) (by first | exact Nat.zero_le _ | (rw [hR]; decide)) (by first | exact Nat.zero_le _ | (rw [hR]; decide)) (by first | decide | (simp [Value.category])) 212 rfl ?_
              refine g_iconst hX dS_effect_212 (v := 1) (by decide) 213 rfl ?_
              refine g_isub hX dS_effect_213 214 rfl ?_
              rw [show nI (q_ne S + 1) - 1 = nI (q_ne S) from nI_pred _]
              exact g_iret hX rfl rfl dS_effect_214 ⟨rfl, (w_uA (w_uA (w_uA (w_uA A 15 (q_ne S) q) 23 0 d1) 6 (q_home S j) d2) 13 j d3), ⟨rfl, rfl, rfl⟩, w_effect hB hj (q_ef_n hle.2).1 (q_ef_n hle.2).2 hG⟩ rfl (by rw [hR]; decide) (by rw [hR]; decide)
            · exact absurd (nI_lt (b := 24) hn (by decide)) c100
          · exact absurd hp c76
        · exact absurd (c54.symm.trans (r_in_1 g7 (q_nlt_le g8))) (by decide)
    · exact absurd (c22.symm.trans (r_in_1 g3 (q_nlt_le g4))) (by decide)
set_option maxRecDepth 100000 in
set_option maxHeartbeats 4000000 in
theorem c_S_effect_0s {l : Launch} (hl : l.stackTraces = false) {E : g_E} {A : w_A} {S Sm : q_S} {h : g_H} (hW : w_W E A S Sm h) (hB : w_B S) {j : Nat} (hj : j < q_ns S) {k t w d : Int32} (g1 : ¬ k < 0) (g2 : ¬ 3 < k) (g3 : ¬ t < 0) (g4 : ¬ 2 < t) (g5 : ¬ w < 0) (g6 : ¬ 50 < w) (g7 : ¬ d < 0) (g8 : ¬ 50 < d) (hp : S.2 0 (S.1 2 j) = 2) (hn : q_ne S < 24) {e : Nat} {pre : List Nat} (hle : q_eon S (q_home S j) = pre ++ [e] ∧ e < q_ne S ∧ q_epage S e = q_home S j ∧ q_run S (q_home S j) (q_ne S) = q_run S (q_home S j) (e + 1)) : g_Ct l mS_effect 7 121 4 107 [.ref (A 0 0), .int (nI j), .int k, .int t, .int w, .int d] E h (false, fun r' h' => r' = .inr (some (.int (nI (q_ne S)))) ∧ ∃ B, w_same A B ∧ w_W E B (q_up1 (q_up2 (q_up2 (q_up2 (q_up2 (q_up2 (q_up1 S 5 (q_ne S) j) 7 (q_ne S) k) 8 (q_ne S) t) 9 (q_ne S) w) 10 (q_ne S) d) 11 (q_ne S) 0) 0 2 (q_ne S + 1)) Sm h') := by
  refine g_Ct.of hl (by decide) (by first | rfl | simp [g_rfc, Value.category]) (Nat.le_of_ble_eq_true rfl) ?_
  intro X hX hXl hR
  obtain ⟨hnp, hns, hne, hpar, hhome, hact⟩ := id hB
  show g_Go E X _ h true 0 0 0 [some (.ref (A 0 0)), some (.int (nI j)), some (.int k), some (.int t), some (.int w), some (.int d), none, none, none, none, none] []
  refine g_aload_n hX dS_effect_0 rfl rfl (by first | rfl | exact g_rfr _) 1 rfl ?_
  refine g_iload_n hX dS_effect_1 rfl rfl 2 rfl ?_
  refine g_cV1r (wt := 0) hX (c_S_findShape hX.tr hW hB hj) dS_effect_2 (w_s hW) kS_123 (g_rm.of hR (by decide) (by decide)) (by first | exact Nat.zero_le _ | (rw [hR]; decide)) (by first | exact Nat.zero_le _ | (rw [hR]; decide)) (by first | decide | (simp [Value.category])) 5 rfl ?_
  refine g_astore hX (L' := [_, _, _, _, _, _, _, _, _, _, _]) dS_effect_5 (by decide) (by first | rfl | exact g_rfr _) rfl 7 rfl ?_
  refine g_iload_n hX dS_effect_7 rfl rfl 8 rfl ?_
  refine g_iconst hX dS_effect_8 (v := 0) (by decide) 9 rfl ?_
  refine g_iconst hX dS_effect_9 (v := 3) (by decide) 10 rfl ?_
  refine g_cS3r (wt := 0) hX (c_S_isWithin hX.tr E h _ _ _) dS_effect_10 kS_47 (g_rm.of hR (by decide) (by decide)) (by first | exact Nat.zero_le _ | (rw [hR]; decide)) (by first | exact Nat.zero_le _ | (rw [hR]; decide)) (by first | decide | (simp [Value.category])) 13 rfl ?_
  refine g_if_eq hX dS_effect_13 25 16 (by decide) rfl (fun c13 => ?_) (fun c13 => ?_)
  · exact absurd (c13.symm.trans (r_in_1 g1 (q_nlt_le g2))) (by decide)
  · refine g_iload_n hX dS_effect_16 rfl rfl 17 rfl ?_
    refine g_iconst hX dS_effect_17 (v := 0) (by decide) 18 rfl ?_
    refine g_iconst hX dS_effect_18 (v := 2) (by decide) 19 rfl ?_
    refine g_cS3r (wt := 0) hX (c_S_isWithin hX.tr E h _ _ _) dS_effect_19 kS_47 (g_rm.of hR (by decide) (by decide)) (by first | exact Nat.zero_le _ | (rw [hR]; decide)) (by first | exact Nat.zero_le _ | (rw [hR]; decide)) (by first | decide | (simp [Value.category])) 22 rfl ?_
    refine g_if_ne hX dS_effect_22 35 25 (by decide) rfl (fun c22 => ?_) (fun c22 => ?_)
    · refine g_iload hX dS_effect_35 rfl 37 rfl ?_
      refine g_iconst hX dS_effect_37 (v := 0) (by decide) 38 rfl ?_
      refine g_bipush hX dS_effect_38 (v := 50) (by decide) 40 rfl ?_
      refine g_cS3r (wt := 0) hX (c_S_isWithin hX.tr E h _ _ _) dS_effect_40 kS_47 (g_rm.of hR (by decide) (by decide)) (by first | exact Nat.zero_le _ | (rw [hR]; decide)) (by first | exact Nat.zero_le _ | (rw [hR]; decide)) (by first | decide | (simp [Value.category])) 43 rfl ?_
      refine g_if_eq hX dS_effect_43 57 46 (by decide) rfl (fun c43 => ?_) (fun c43 => ?_)
      · exact absurd (c43.symm.trans (r_in_1 g5 (q_nlt_le g6))) (by decide)
      · refine g_iload hX dS_effect_46 rfl 48 rfl ?_
        refine g_iconst hX dS_effect_48 (v := 0) (by decide) 49 rfl ?_
        refine g_bipush hX dS_effect_49 (v := 50) (by decide) 51 rfl ?_
        refine g_cS3r (wt := 0) hX (c_S_isWithin hX.tr E h _ _ _) dS_effect_51 kS_47 (g_rm.of hR (by decide) (by decide)) (by first | exact Nat.zero_le _ | (rw [hR]; decide)) (by first | exact Nat.zero_le _ | (rw [hR]; decide)) (by first | decide | (simp [Value.category])) 54 rfl ?_
        refine g_if_ne hX dS_effect_54 67 57 (by decide) rfl (fun c54 => ?_) (fun c54 => ?_)
        · refine g_aload hX dS_effect_67 rfl (by first | rfl | exact g_rfr _) 69 rfl ?_
          refine g_get hX dS_effect_69 fS_150 (w_c hW 7 j (by decide) hj) rfl 72 rfl ?_
          refine g_get hX dS_effect_72 fS_206 (w_c hW 2 (q_home S j) (by decide) (hhome j hj).1) rfl 75 rfl ?_
          refine g_iconst hX dS_effect_75 (v := 2) (by decide) 76 rfl ?_
          refine g_icmp_eq hX dS_effect_76 89 79 (by decide) rfl (fun c76 => ?_) (fun c76 => ?_)
          · refine g_aload_n hX dS_effect_89 rfl rfl (by first | rfl | exact g_rfr _) 90 rfl ?_
            refine g_get hX dS_effect_90 fS_27 (w_s hW) rfl 93 rfl ?_
            refine g_cF0r (wt := 0) hX ((show g_Rd X.l mA_size 0 0 [.ref (A 22 0)] E h (some (.int (nI (q_ne S)))) by have h9 := c_size hX.tr (w_l22 hW hB); rw [List.length_range] at h9; exact h9)) dS_effect_93 (w_l22 hW hB).1 kS_71 (g_rm.of hR (by decide) (by decide)) (by first | exact Nat.zero_le _ | (rw [hR]; decide)) (by first | exact Nat.zero_le _ | (rw [hR]; decide)) (by first | decide | (simp [Value.category])) 98 rfl ?_
            refine g_bipush hX dS_effect_98 (v := 24) (by decide) 100 rfl ?_
            refine g_icmp_lt hX dS_effect_100 113 103 (by decide) rfl (fun c100 => ?_) (fun c100 => ?_)
            · refine g_aload hX dS_effect_113 rfl (by first | rfl | exact g_rfr _) 115 rfl ?_
              refine g_get hX dS_effect_115 fS_150 (w_c hW 7 j (by decide) hj) rfl 118 rfl ?_
              refine g_cS1r (wt := 0) hX (c_S_lastEffect hX.tr hW hB (hhome j hj).1 hle.1) dS_effect_118 kS_213 (g_rm.of hR (by decide) (by decide)) (by first | exact Nat.zero_le _ | (rw [hR]; decide)) (by first | exact Nat.zero_le _ | (rw [hR]; decide)) (by first | decide | (simp [Value.category])) 121 rfl ?_
              refine g_astore hX (L' := [_, _, _, _, _, _, _, _, _, _, _]) dS_effect_121 (by decide) (by first | rfl | exact g_rfr _) rfl 123 rfl ?_
              refine g_aload hX dS_effect_123 rfl (by first | rfl | exact g_rfr _) 125 rfl ?_
              refine g_iload_n hX dS_effect_125 rfl rfl 126 rfl ?_
              refine g_cS2r (wt := 0) hX (c_S_bb_s hX.tr hW hB hle.2.1 _) dS_effect_126 kS_217 (g_rm.of hR (by decide) (by decide)) (by first | exact Nat.zero_le _ | (rw [hR]; decide)) (by first | exact Nat.zero_le _ | (rw [hR]; decide)) (by first | decide | (simp [Value.category])) 129 rfl ?_
              refine g_istore hX (L' := [_, _, _, _, _, _, _, _, _, _, _]) dS_effect_129 (by decide) rfl 131 rfl ?_
              refine g_aload hX dS_effect_131 rfl (by first | rfl | exact g_rfr _) 133 rfl ?_
              refine g_iload_n hX dS_effect_133 rfl rfl 134 rfl ?_
              refine g_cS2r (wt := 0) hX (c_S_ba_s hX.tr hW hB hle.2.1 _) dS_effect_134 kS_221 (g_rm.of hR (by decide) (by decide)) (by first | exact Nat.zero_le _ | (rw [hR]; decide)) (by first | exact Nat.zero_le _ | (rw [hR]; decide)) (by first | decide | (simp [Value.category])) 137 rfl ?_
              refine g_istore hX (L' := [_, _, _, _, _, _, _, _, _, _, _]) dS_effect_137 (by decide) rfl 139 rfl ?_
              refine g_new hX dS_effect_139 nS_224 (by rw [hR]; decide) (by rw [hR]; decide) 142 rfl (fun q hq zq => ?_)
              have hG := hW.g.new 15 (q_ne S) (.inr (4, [.null, .int 0, .int 0, .int 0, .int 0, .int 0, .int 0, .int 0])) hq zq
              revert hG
              generalize g_set h q _ = h1
              intro hG
              refine g_dup hX dS_effect_142 rfl 143 rfl ?_
              refine g_aload hX dS_effect_143 rfl (by first | rfl | exact g_rfr _) 145 rfl ?_
              refine g_get hX dS_effect_145 fS_150 (show h1 (A 7 j) = some (w_cell E A S 7 j) from hG.1 7 j (Or.inr ((show w_lv S Sm 7 j from hj)))) rfl 148 rfl ?_
              refine g_iload_n hX dS_effect_148 rfl rfl 149 rfl ?_
              refine g_iload hX dS_effect_149 rfl 151 rfl ?_
              refine g_iload hX dS_effect_151 rfl 153 rfl ?_
              refine g_iload hX dS_effect_153 rfl 155 rfl ?_
              refine g_iload hX dS_effect_155 rfl 157 rfl ?_
              refine g_cI6 (wt := 1) hX (c_F_initW hX.tr hG (w_uA_same _ _ _ _) (Or.inl ⟨rfl, rfl⟩) (w_uc_same _ _ _ _)) dS_effect_157 kS_226 (g_rm.of hR (by decide) (by decide)) (by first | exact Nat.zero_le _ | (rw [hR]; decide)) (by first | exact Nat.zero_le _ | (rw [hR]; decide)) (by first | decide | (simp [Value.category])) (fun q => by cases q) 160 rfl (fun v h hP => ?_) (fun k h hP => by cases hP.1)
              obtain ⟨hv, hG⟩ := hP
              cases hv
              show g_Go E X _ h false _ _ 160 _ [.ref q]
              refine g_astore hX (L' := [_, _, _, _, _, _, _, _, _, _, _]) dS_effect_160 (by decide) (by first | rfl | exact g_rfr _) rfl 162 rfl ?_
              refine g_aload_n hX dS_effect_162 rfl rfl (by first | rfl | exact g_rfr _) 163 rfl ?_
              refine g_get hX dS_effect_163 fS_27 (show h (A 0 0) = some (w_cell E A S 0 0) from hG.1 0 0 (Or.inr ((show w_lv S Sm 0 0 from ⟨rfl, by decide⟩)))) rfl 166 rfl ?_
              refine g_aload hX dS_effect_166 rfl (by first | rfl | exact g_rfr _) 168 rfl ?_
              refine g_cF1 (wt := 0) hX (c_addWb (k := 22) (i := 0) (t := 15) (x0 := q_ne S) (xs := List.range (q_ne S)) hX.tr hG rfl (by rw [w_uA_same]) (Or.inr ((show w_lv S Sm 22 0 from ⟨rfl, by decide⟩))) rfl (fun hn9 => ⟨Or.inr ((show w_lv S Sm 23 0 from ⟨rfl, fun (e9 : q_ne S = 0) => hn9 (by rw [e9]; rfl)⟩)), w_data_c (fun x hx => by rw [w_uA_ix _ (show ¬ x = q_ne S from fun e9 => by have : x < q_ne S := List.mem_range.mp hx; omega)])⟩) (fun x hx => ⟨Or.inr ((show w_lv S Sm 15 x from (List.mem_range.mp hx))), _, by rw [w_uc_ix _ (show ¬ x = q_ne S from fun e9 => by have : x < q_ne S := List.mem_range.mp hx; omega), w_uc_ix _ (show ¬ x = q_ne S from fun e9 => by have : x < q_ne S := List.mem_range.mp hx; omega)]; rfl⟩) ⟨Or.inl ⟨rfl, rfl⟩, _, by rw [w_uc_same]⟩ (by rw [List.length_range]; omega) (ct := 4) rfl (g_in 1120 (by decide +kernel) (by decide +kernel)) (by decide)) dS_effect_168 (show h (A 22 0) = some (w_cell E A S 22 0) from hG.1 22 0 (Or.inr ((show w_lv S Sm 22 0 from ⟨rfl, by decide⟩)))) kS_87 (g_rm.of hR (by decide) (by decide)) (by first | exact Nat.zero_le _ | (rw [hR]; decide)) (by first | exact Nat.zero_le _ | (rw [hR]; decide)) (by first | decide | (simp [Value.category])) (fun q => by cases q) 173 rfl (fun v h hP => ?_) (fun k h hP => by cases hP.1)
              obtain ⟨hv, d1, hG⟩ := hP
              cases hv
              show g_Go E X _ h false _ _ 173 _ [.int 1]
              refine g_pop hX dS_effect_173 rfl 174 rfl ?_
              refine g_aload hX dS_effect_174 rfl (by first | rfl | exact g_rfr _) 176 rfl ?_
              refine g_get hX dS_effect_176 fS_150 (show h (A 7 j) = some (w_cell E A S 7 j) from hG.1 7 j (Or.inr (Or.inr ((show w_lv S Sm 7 j from hj))))) rfl 179 rfl ?_
              refine g_get hX dS_effect_179 fS_229 (show h (A 2 (q_home S j)) = some (w_cell E A S 2 (q_home S j)) from hG.1 2 (q_home S j) (Or.inr (Or.inr ((show w_lv S Sm 2 (q_home S j) from (hhome j hj).1))))) rfl 182 rfl ?_
              refine g_aload hX dS_effect_182 rfl (by first | rfl | exact g_rfr _) 184 rfl ?_
              refine g_cF1 (wt := 0) hX (c_addWb (k := 5) (i := (q_home S j)) (t := 15) (x0 := q_ne S) (xs := q_eon S (q_home S j)) hX.tr hG rfl (by rw [w_uA_tag _ (by decide), w_uA_same]) (Or.inr (Or.inr ((show w_lv S Sm 5 (q_home S j) from (hhome j hj).1)))) rfl (fun hn9 => ⟨Or.inr (Or.inr ((show w_lv S Sm 6 (q_home S j) from ⟨(hhome j hj).1, hn9⟩))), w_data_c (fun x hx => by rw [w_uA_tag _ (by decide), w_uA_ix _ (show ¬ x = q_ne S from fun e9 => by have : x < q_ne S := q_eon_lt hx; omega)])⟩) (fun x hx => ⟨Or.inr (Or.inr ((show w_lv S Sm 15 x from (q_eon_lt hx)))), _, by rw [w_uc_tag _ (by decide), w_uc_tag _ (by decide), w_uc_ix _ (show ¬ x = q_ne S from fun e9 => by have : x < q_ne S := q_eon_lt hx; omega), w_uc_ix _ (show ¬ x = q_ne S from fun e9 => by have : x < q_ne S := q_eon_lt hx; omega)]; rfl⟩) ⟨Or.inr (Or.inl ⟨rfl, rfl⟩), _, by rw [w_uc_tag _ (by decide), w_uc_tag _ (by decide), w_uc_same]⟩ (by have := q_eon_len S (q_home S j); omega) (ct := 4) rfl (g_in 1120 (by decide +kernel) (by decide +kernel)) (by decide)) dS_effect_184 (show h (A 5 (q_home S j)) = some (w_cell E A S 5 (q_home S j)) from hG.1 5 (q_home S j) (Or.inr (Or.inr ((show w_lv S Sm 5 (q_home S j) from (hhome j hj).1))))) kS_87 (g_rm.of hR (by decide) (by decide)) (by first | exact Nat.zero_le _ | (rw [hR]; decide)) (by first | exact Nat.zero_le _ | (rw [hR]; decide)) (by first | decide | (simp [Value.category])) (fun q => by cases q) 189 rfl (fun v h hP => ?_) (fun k h hP => by cases hP.1)
              obtain ⟨hv, d2, hG⟩ := hP
              cases hv
              show g_Go E X _ h false _ _ 189 _ [.int 1]
              refine g_pop hX dS_effect_189 rfl 190 rfl ?_
              refine g_aload hX dS_effect_190 rfl (by first | rfl | exact g_rfr _) 192 rfl ?_
              refine g_get hX dS_effect_192 fS_230 (show h (A 7 j) = some (w_cell E A S 7 j) from hG.1 7 j (Or.inr (Or.inr (Or.inr ((show w_lv S Sm 7 j from hj)))))) rfl 195 rfl ?_
              refine g_aload hX dS_effect_195 rfl (by first | rfl | exact g_rfr _) 197 rfl ?_
              refine g_cF1 (wt := 0) hX (c_addWb (k := 12) (i := j) (t := 15) (x0 := q_ne S) (xs := q_eof S j) hX.tr hG rfl (by rw [w_uA_tag _ (by decide), w_uA_tag _ (by decide), w_uA_same]) (Or.inr (Or.inr (Or.inr ((show w_lv S Sm 12 j from hj))))) rfl (fun hn9 => ⟨Or.inr (Or.inr (Or.inr ((show w_lv S Sm 13 j from ⟨hj, hn9⟩)))), w_data_c (fun x hx => by rw [w_uA_tag _ (by decide), w_uA_tag _ (by decide), w_uA_ix _ (show ¬ x = q_ne S from fun e9 => by have : x < q_ne S := q_eof_lt hx; omega)])⟩) (fun x hx => ⟨Or.inr (Or.inr (Or.inr ((show w_lv S Sm 15 x from (q_eof_lt hx))))), _, by rw [w_uc_tag _ (by decide), w_uc_tag _ (by decide), w_uc_tag _ (by decide), w_uc_tag _ (by decide), w_uc_ix _ (show ¬ x = q_ne S from fun e9 => by have : x < q_ne S := q_eof_lt hx; omega), w_uc_ix _ (show ¬ x = q_ne S from fun e9 => by have : x < q_ne S := q_eof_lt hx; omega)]; rfl⟩) ⟨Or.inr (Or.inr (Or.inl ⟨rfl, rfl⟩)), _, by rw [w_uc_tag _ (by decide), w_uc_tag _ (by decide), w_uc_tag _ (by decide), w_uc_tag _ (by decide), w_uc_same]⟩ (by have := q_eof_len S j; omega) (ct := 4) rfl (g_in 1120 (by decide +kernel) (by decide +kernel)) (by decide)) dS_effect_197 (show h (A 12 j) = some (w_cell E A S 12 j) from hG.1 12 j (Or.inr (Or.inr (Or.inr ((show w_lv S Sm 12 j from hj)))))) kS_87 (g_rm.of hR (by decide) (by decide)) (by first | exact Nat.zero_le _ | (rw [hR]; decide)) (by first | exact Nat.zero_le _ | (rw [hR]; decide)) (by first | decide | (simp [Value.category])) (fun q => by cases q) 202 rfl (fun v h hP => ?_) (fun k h hP => by cases hP.1)
              obtain ⟨hv, d3, hG⟩ := hP
              cases hv
              show g_Go E X _ h false _ _ 202 _ [.int 1]
              refine g_pop hX dS_effect_202 rfl 203 rfl ?_
              refine g_aload_n hX dS_effect_203 rfl rfl (by first | rfl | exact g_rfr _) 204 rfl ?_
              refine g_get hX dS_effect_204 fS_27 (show h (A 0 0) = some (w_cell E A S 0 0) from hG.1 0 0 (Or.inr (Or.inr (Or.inr (Or.inr ((show w_lv S Sm 0 0 from ⟨rfl, by decide⟩))))))) rfl 207 rfl ?_
              refine g_cF0r (wt := 0) hX ((show g_Rd X.l mA_size 0 0 [.ref (A 22 0)] E h (some (.int (nI (q_ne S + 1)))) from c_A_size hX.tr E h (show h (A 22 0) = some (.inr (6, [.ref d1, .int (nI (q_ne S + 1)), .int (nI (q_ne S + 1))])) by have h9 := hG.1 22 0 (Or.inr (Or.inr (Or.inr (Or.inr ((show w_lv S Sm 22 0 from ⟨rfl, by decide⟩)))))); rw [w_uc_tag _ (by decide), w_uc_tag _ (by decide), w_uc_tag _ (by decide), w_uc_tag _ (by decide), w_uc_same, List.length_range, w_list_s] at h9; exact h9))) dS_effect_207 (show h (A 22 0) = some (.inr (6, [.ref d1, .int (nI (q_ne S + 1)), .int (nI (q_ne S + 1))])) by have h9 := hG.1 22 0 (Or.inr (Or.inr (Or.inr (Or.inr ((show w_lv S Sm 22 0 from ⟨rfl, by decide⟩)))))); rw [w_uc_tag _ (by decide), w_uc_tag _ (by decide), w_uc_tag _ (by decide), w_uc_tag _ (by decide), w_uc_same, List.length_range, w_list_s] at h9; exact h9) kS_71 (g_rm.of hR (by decide) (by decide)) (by first | exact Nat.zero_le _ | (rw [hR]; decide)) (by first | exact Nat.zero_le _ | (rw [hR]; decide)) (by first | decide | (simp [Value.category])) 212 rfl ?_
              refine g_iconst hX dS_effect_212 (v := 1) (by decide) 213 rfl ?_
              refine g_isub hX dS_effect_213 214 rfl ?_
              rw [show nI (q_ne S + 1) - 1 = nI (q_ne S) from nI_pred _]
              exact g_iret hX rfl rfl dS_effect_214 ⟨rfl, (w_uA (w_uA (w_uA (w_uA A 15 (q_ne S) q) 23 0 d1) 6 (q_home S j) d2) 13 j d3), ⟨rfl, rfl, rfl⟩, w_effect hB hj (q_ef_s hle.2.2.1 hle.2.2.2).1 (q_ef_s hle.2.2.1 hle.2.2.2).2 hG⟩ rfl (by rw [hR]; decide) (by rw [hR]; decide)
            · exact absurd (nI_lt (b := 24) hn (by decide)) c100
          · exact absurd hp c76
        · exact absurd (c54.symm.trans (r_in_1 g7 (q_nlt_le g8))) (by decide)
    · exact absurd (c22.symm.trans (r_in_1 g3 (q_nlt_le g4))) (by decide)
theorem c_S_effect_0 {l : Launch} (hl : l.stackTraces = false) {E : g_E} {A : w_A} {S Sm : q_S} {h : g_H} (hW : w_W E A S Sm h) (hB : w_B S) {j : Nat} (hj : j < q_ns S) {k t w d : Int32} (g1 : ¬ k < 0) (g2 : ¬ 3 < k) (g3 : ¬ t < 0) (g4 : ¬ 2 < t) (g5 : ¬ w < 0) (g6 : ¬ 50 < w) (g7 : ¬ d < 0) (g8 : ¬ 50 < d) (hp : S.2 0 (S.1 2 j) = 2) (hn : q_ne S < 24) : g_Ct l mS_effect 7 121 4 107 [.ref (A 0 0), .int (nI j), .int k, .int t, .int w, .int d] E h (false, fun r' h' => r' = .inr (some (.int (nI (q_ne S)))) ∧ ∃ B, w_same A B ∧ w_W E B (q_up1 (q_up2 (q_up2 (q_up2 (q_up2 (q_up2 (q_up1 S 5 (q_ne S) j) 7 (q_ne S) k) 8 (q_ne S) t) 9 (q_ne S) w) 10 (q_ne S) d) 11 (q_ne S) 0) 0 2 (q_ne S + 1)) Sm h') := by
  rcases q_eon_last S (q_home S j) with h9 | ⟨e, pre, h9⟩
  · exact c_S_effect_0n hl hW hB hj g1 g2 g3 g4 g5 g6 g7 g8 hp hn h9
  · exact c_S_effect_0s hl hW hB hj g1 g2 g3 g4 g5 g6 g7 g8 hp hn h9
