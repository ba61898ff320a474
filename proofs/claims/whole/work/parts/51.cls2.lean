theorem q_dpos {a : Int32} (h : ¬ a < 0) (h0 : ¬ a = 0) : ¬ a ≤ 0 := fun q => h0 (by
  rw [Int32.lt_iff_toInt_lt] at h
  rw [Int32.le_iff_toInt_le] at q
  exact Int32.toInt_inj.mp (by omega))
set_option maxRecDepth 100000 in
set_option maxHeartbeats 4000000 in
theorem c_S_lastEffect_n {l : Launch} (hl : l.stackTraces = false) {E : g_E} {A : w_A} {S Sm : q_S} {h : g_H} (hW : w_W E A S Sm h) (hB : w_B S)   : g_Rd l mS_lastEffect 3 40 [.null] E h (some .null) := by
  refine g_Rd.of hl (by decide) (by first | rfl | simp [g_rfc, Value.category]) (Nat.le_of_ble_eq_true rfl) ?_
  intro X hX hXl hR
  obtain ⟨hnp, hns, hne, hpar, hhome, hact⟩ := id hB
  show g_Go E X _ h true 0 0 0 [some (.null)] []
  refine g_aload_n hX dS_lastEffect_0 rfl rfl (by first | rfl | exact g_rfr _) 1 rfl ?_
  refine g_ifnull (r := none) hX dS_lastEffect_1 16 4 (by decide) rfl (fun _ => ?_) (fun a q => by cases q)
  refine g_null hX dS_lastEffect_16 17 rfl ?_
  exact g_aret hX rfl (Or.inl ⟨_, rfl⟩) (by first | rfl | exact g_rfr _) dS_lastEffect_17 ⟨rfl, rfl⟩ rfl (Nat.zero_le _) (Nat.zero_le _)
set_option maxRecDepth 100000 in
set_option maxHeartbeats 4000000 in
theorem c_S_lastEffect_0 {l : Launch} (hl : l.stackTraces = false) {E : g_E} {A : w_A} {S Sm : q_S} {h : g_H} (hW : w_W E A S Sm h) (hB : w_B S) {p : Nat} (hp : p < q_np S) (hn : q_eon S p = []) : g_Rd l mS_lastEffect 3 40 [.ref (A 2 p)] E h (some .null) := by
  refine g_Rd.of hl (by decide) (by first | rfl | simp [g_rfc, Value.category]) (Nat.le_of_ble_eq_true rfl) ?_
  intro X hX hXl hR
  obtain ⟨hnp, hns, hne, hpar, hhome, hact⟩ := id hB
  show g_Go E X _ h true 0 0 0 [some (.ref (A 2 p))] []
  refine g_aload_n hX dS_lastEffect_0 rfl rfl (by first | rfl | exact g_rfr _) 1 rfl ?_
  refine g_ifnull (r := some (A 2 p)) hX dS_lastEffect_1 16 4 (by decide) rfl (fun q => by cases q) (fun _ _ => ?_)
  refine g_aload_n hX dS_lastEffect_4 rfl rfl (by first | rfl | exact g_rfr _) 5 rfl ?_
  refine g_get hX dS_lastEffect_5 fS_229 (w_c hW 2 p (by decide) hp) rfl 8 rfl ?_
  refine g_cF0r (wt := 0) hX (c_isE hX.tr (w_l5 hW hB hp)) dS_lastEffect_8 (w_l5 hW hB hp).1 kS_322 (g_rm.of hR (by decide) (by decide)) (by first | exact Nat.zero_le _ | (rw [hR]; decide)) (by first | exact Nat.zero_le _ | (rw [hR]; decide)) (by first | decide | (simp [Value.category])) 13 rfl ?_
  refine g_if_eq hX dS_lastEffect_13 18 16 (by decide) rfl (fun c13 => ?_) (fun c13 => ?_)
  · exact absurd c13 (by rw [hn]; decide)
  · refine g_null hX dS_lastEffect_16 17 rfl ?_
    exact g_aret hX rfl (Or.inl ⟨_, rfl⟩) (by first | rfl | exact g_rfr _) dS_lastEffect_17 ⟨rfl, rfl⟩ rfl (Nat.zero_le _) (Nat.zero_le _)
set_option maxRecDepth 100000 in
set_option maxHeartbeats 4000000 in
theorem c_S_lastEffect {l : Launch} (hl : l.stackTraces = false) {E : g_E} {A : w_A} {S Sm : q_S} {h : g_H} (hW : w_W E A S Sm h) (hB : w_B S) {p : Nat} (hp : p < q_np S) {e : Nat} {pre : List Nat} (hn : q_eon S p = pre ++ [e]) : g_Rd l mS_lastEffect 3 40 [.ref (A 2 p)] E h (some (.ref (A 15 e))) := by
  refine g_Rd.of hl (by decide) (by first | rfl | simp [g_rfc, Value.category]) (Nat.le_of_ble_eq_true rfl) ?_
  intro X hX hXl hR
  obtain ⟨hnp, hns, hne, hpar, hhome, hact⟩ := id hB
  have he : e < q_ne S := (q_mem_eon (p := p) (by rw [hn]; simp)).1
  have hln := q_eon_len S p
  have hl0 : (q_eon S p).length = pre.length + 1 := by rw [hn]; simp
  have hl1 : nI (q_eon S p).length - 1 = nI pre.length := by rw [hl0]; exact nI_pred _
  have hl2 : ¬ nI (q_eon S p).length = 0 := by rw [hl0]; exact nI_ne0 (by omega) (by omega)
  show g_Go E X _ h true 0 0 0 [some (.ref (A 2 p))] []
  refine g_aload_n hX dS_lastEffect_0 rfl rfl (by first | rfl | exact g_rfr _) 1 rfl ?_
  refine g_ifnull (r := some (A 2 p)) hX dS_lastEffect_1 16 4 (by decide) rfl (fun q => by cases q) (fun _ _ => ?_)
  refine g_aload_n hX dS_lastEffect_4 rfl rfl (by first | rfl | exact g_rfr _) 5 rfl ?_
  refine g_get hX dS_lastEffect_5 fS_229 (w_c hW 2 p (by decide) hp) rfl 8 rfl ?_
  refine g_cF0r (wt := 0) hX (c_isE hX.tr (w_l5 hW hB hp)) dS_lastEffect_8 (w_l5 hW hB hp).1 kS_322 (g_rm.of hR (by decide) (by decide)) (by first | exact Nat.zero_le _ | (rw [hR]; decide)) (by first | exact Nat.zero_le _ | (rw [hR]; decide)) (by first | decide | (simp [Value.category])) 13 rfl ?_
  refine g_if_eq hX dS_lastEffect_13 18 16 (by decide) rfl (fun c13 => ?_) (fun c13 => ?_)
  · refine g_aload_n hX dS_lastEffect_18 rfl rfl (by first | rfl | exact g_rfr _) 19 rfl ?_
    refine g_get hX dS_lastEffect_19 fS_229 (w_c hW 2 p (by decide) hp) rfl 22 rfl ?_
    refine g_aload_n hX dS_lastEffect_22 rfl rfl (by first | rfl | exact g_rfr _) 23 rfl ?_
    refine g_get hX dS_lastEffect_23 fS_229 (w_c hW 2 p (by decide) hp) rfl 26 rfl ?_
    refine g_cF0r (wt := 1) hX (c_size hX.tr (w_l5 hW hB hp)) dS_lastEffect_26 (w_l5 hW hB hp).1 kS_71 (g_rm.of hR (by decide) (by decide)) (by first | exact Nat.zero_le _ | (rw [hR]; decide)) (by first | exact Nat.zero_le _ | (rw [hR]; decide)) (by first | decide | (simp [Value.category])) 31 rfl ?_
    refine g_iconst hX dS_lastEffect_31 (v := 1) (by decide) 32 rfl ?_
    refine g_isub hX dS_lastEffect_32 33 rfl ?_
    rw [hl1]
    refine g_cF1r (wt := 0) hX (c_get hX.tr (w_l5 hW hB hp) hn) dS_lastEffect_33 (w_l5 hW hB hp).1 kS_195 (g_rm.of hR (by decide) (by decide)) (by first | exact Nat.zero_le _ | (rw [hR]; decide)) (by first | exact Nat.zero_le _ | (rw [hR]; decide)) (by first | decide | (simp [Value.category])) 38 rfl ?_
    refine g_cast (ci := 4) hX dS_lastEffect_38 rfl cS_224 (w_c hW 15 e (by decide) he) 41 rfl ?_
    exact g_aret hX rfl (Or.inl ⟨_, rfl⟩) (by first | rfl | exact g_rfr _) dS_lastEffect_41 ⟨rfl, rfl⟩ rfl (Nat.zero_le _) (Nat.zero_le _)
  · exact absurd (if_neg hl2) c13
set_option maxRecDepth 100000 in
set_option maxHeartbeats 4000000 in
theorem c_S_lastBuild_n {l : Launch} (hl : l.stackTraces = false) {E : g_E} {A : w_A} {S Sm : q_S} {h : g_H} (hW : w_W E A S Sm h) (hB : w_B S)   : g_Rd l mS_lastBuild 4 52 [.null] E h (some (.int 0)) := by
  refine g_Rd.of hl (by decide) (by first | rfl | simp [g_rfc, Value.category]) (Nat.le_of_ble_eq_true rfl) ?_
  intro X hX hXl hR
  obtain ⟨hnp, hns, hne, hpar, hhome, hact⟩ := id hB
  show g_Go E X _ h true 0 0 0 [some (.null), none] []
  refine g_aload_n hX dS_lastBuild_0 rfl rfl (by first | rfl | exact g_rfr _) 1 rfl ?_
  refine g_cS1r (wt := 0) hX (c_S_lastEffect_n hX.tr hW hB) dS_lastBuild_1 kS_213 (g_rm.of hR (by decide) (by decide)) (by first | exact Nat.zero_le _ | (rw [hR]; decide)) (by first | exact Nat.zero_le _ | (rw [hR]; decide)) (by first | decide | (simp [Value.category])) 4 rfl ?_
  refine g_astore_n hX (L' := [_, _]) dS_lastBuild_4 rfl (by decide) (by first | rfl | exact g_rfr _) rfl 5 rfl ?_
  refine g_aload_n hX dS_lastBuild_5 rfl rfl (by first | rfl | exact g_rfr _) 6 rfl ?_
  refine g_ifnonnull (r := none) hX dS_lastBuild_6 13 9 (by decide) rfl (fun a q => by cases q) (fun _ => ?_)
  refine g_iconst hX dS_lastBuild_9 (v := 0) (by decide) 10 rfl ?_
  refine g_goto hX dS_lastBuild_10 17 (by decide) ?_
  exact g_iret hX rfl rfl dS_lastBuild_17 ⟨rfl, rfl⟩ rfl (Nat.zero_le _) (Nat.zero_le _)
set_option maxRecDepth 100000 in
set_option maxHeartbeats 4000000 in
theorem c_S_lastBuild_0 {l : Launch} (hl : l.stackTraces = false) {E : g_E} {A : w_A} {S Sm : q_S} {h : g_H} (hW : w_W E A S Sm h) (hB : w_B S) {p : Nat} (hp : p < q_np S) (hn : q_eon S p = []) : g_Rd l mS_lastBuild 4 52 [.ref (A 2 p)] E h (some (.int 0)) := by
  refine g_Rd.of hl (by decide) (by first | rfl | simp [g_rfc, Value.category]) (Nat.le_of_ble_eq_true rfl) ?_
  intro X hX hXl hR
  obtain ⟨hnp, hns, hne, hpar, hhome, hact⟩ := id hB
  show g_Go E X _ h true 0 0 0 [some (.ref (A 2 p)), none] []
  refine g_aload_n hX dS_lastBuild_0 rfl rfl (by first | rfl | exact g_rfr _) 1 rfl ?_
  refine g_cS1r (wt := 0) hX (c_S_lastEffect_0 hX.tr hW hB hp hn) dS_lastBuild_1 kS_213 (g_rm.of hR (by decide) (by decide)) (by first | exact Nat.zero_le _ | (rw [hR]; decide)) (by first | exact Nat.zero_le _ | (rw [hR]; decide)) (by first | decide | (simp [Value.category])) 4 rfl ?_
  refine g_astore_n hX (L' := [_, _]) dS_lastBuild_4 rfl (by decide) (by first | rfl | exact g_rfr _) rfl 5 rfl ?_
  refine g_aload_n hX dS_lastBuild_5 rfl rfl (by first | rfl | exact g_rfr _) 6 rfl ?_
  refine g_ifnonnull (r := none) hX dS_lastBuild_6 13 9 (by decide) rfl (fun a q => by cases q) (fun _ => ?_)
  refine g_iconst hX dS_lastBuild_9 (v := 0) (by decide) 10 rfl ?_
  refine g_goto hX dS_lastBuild_10 17 (by decide) ?_
  exact g_iret hX rfl rfl dS_lastBuild_17 ⟨rfl, rfl⟩ rfl (Nat.zero_le _) (Nat.zero_le _)
set_option maxRecDepth 100000 in
set_option maxHeartbeats 4000000 in
theorem c_S_lastBuild_1 {l : Launch} (hl : l.stackTraces = false) {E : g_E} {A : w_A} {S Sm : q_S} {h : g_H} (hW : w_W E A S Sm h) (hB : w_B S) {p : Nat} (hp : p < q_np S) {e : Nat} {pre : List Nat} (hn : q_eon S p = pre ++ [e]) : g_Rd l mS_lastBuild 4 52 [.ref (A 2 p)] E h (some (.int (nI (q_build S e)))) := by
  refine g_Rd.of hl (by decide) (by first | rfl | simp [g_rfc, Value.category]) (Nat.le_of_ble_eq_true rfl) ?_
  intro X hX hXl hR
  obtain ⟨hnp, hns, hne, hpar, hhome, hact⟩ := id hB
  have he : e < q_ne S := (q_mem_eon (p := p) (by rw [hn]; simp)).1
  show g_Go E X _ h true 0 0 0 [some (.ref (A 2 p)), none] []
  refine g_aload_n hX dS_lastBuild_0 rfl rfl (by first | rfl | exact g_rfr _) 1 rfl ?_
  refine g_cS1r (wt := 0) hX (c_S_lastEffect hX.tr hW hB hp hn) dS_lastBuild_1 kS_213 (g_rm.of hR (by decide) (by decide)) (by first | exact Nat.zero_le _ | (rw [hR]; decide)) (by first | exact Nat.zero_le _ | (rw [hR]; decide)) (by first | decide | (simp [Value.category])) 4 rfl ?_
  refine g_astore_n hX (L' := [_, _]) dS_lastBuild_4 rfl (by decide) (by first | rfl | exact g_rfr _) rfl 5 rfl ?_
  refine g_aload_n hX dS_lastBuild_5 rfl rfl (by first | rfl | exact g_rfr _) 6 rfl ?_
  refine g_ifnonnull (r := some (A 15 e)) hX dS_lastBuild_6 13 9 (by decide) rfl (fun _ _ => ?_) (fun q => by cases q)
  refine g_aload_n hX dS_lastBuild_13 rfl rfl (by first | rfl | exact g_rfr _) 14 rfl ?_
  refine g_get hX dS_lastBuild_14 fS_246 (w_c hW 15 e (by decide) he) rfl 17 rfl ?_
  exact g_iret hX rfl rfl dS_lastBuild_17 ⟨rfl, rfl⟩ rfl (Nat.zero_le _) (Nat.zero_le _)
theorem c_S_lastBuild {l : Launch} (hl : l.stackTraces = false) {E : g_E} {A : w_A} {S Sm : q_S} {h : g_H} (hW : w_W E A S Sm h) (hB : w_B S) {p : Nat} (hp : p < q_np S) : g_Rd l mS_lastBuild 4 52 [.ref (A 2 p)] E h (some (.int (nI (q_last S p)))) := by
  rcases q_eon_last S p with ⟨h1, h2⟩ | ⟨e, pre, h1, h2, h3, h4⟩
  · unfold q_last
    rw [h2]
    exact c_S_lastBuild_0 hl hW hB hp h1
  · unfold q_last
    rw [h4, show (q_run S p (e + 1)).2.2.2 = q_build S e by unfold q_build; rw [h3]]
    exact c_S_lastBuild_1 hl hW hB hp h1
set_option maxRecDepth 100000 in
set_option maxHeartbeats 4000000 in
theorem lp_S_lob {E : g_E} {A : w_A} {S Sm : q_S} {h : g_H} (hW : w_W E A S Sm h) (hB : w_B S) {X : g_X} (hX : g_ok E X mS_lengthOfBuild) (hR : X.R = { frames := 3, cells := 0, slots := 0, locals := 40 }) {p : Nat} (hp : p < q_np S) {b : Int32} : ∀ (rest pre : List Nat) (n : Int32), q_eon S p = pre ++ rest →
    g_Go E X (true, fun r' h' => r' = .inr (some (.int (rest.foldl (fun a e => if nI (q_build S e) = b then q_mx a (q_end S e) else a) n))) ∧ h' = h) h true 0 0 10 [some (.ref (A 2 p)), some (.int b), some (.int n), some (.int (nI pre.length)), none] [] := by
  obtain ⟨hnp, hns, hne, hpar, hhome, hact⟩ := id hB
  have hln := q_eon_len S p
  intro rest
  induction rest with
  | nil =>
    intro pre n hxs
    have hl1 : (q_eon S p).length = pre.length := by rw [hxs, List.append_nil]
    refine g_iload_n hX dS_lengthOfBuild_10 rfl rfl 11 rfl ?_
    refine g_aload_n hX dS_lengthOfBuild_11 rfl rfl (by first | rfl | exact g_rfr _) 12 rfl ?_
    refine g_get hX dS_lengthOfBuild_12 fS_229 (w_c hW 2 p (by decide) hp) rfl 15 rfl ?_
    refine g_cF0r (wt := 1) hX (c_size hX.tr (w_l5 hW hB hp)) dS_lengthOfBuild_15 (w_l5 hW hB hp).1 kS_71 (g_rm.of hR (by decide) (by decide)) (by first | exact Nat.zero_le _ | (rw [hR]; decide)) (by first | exact Nat.zero_le _ | (rw [hR]; decide)) (by first | decide | (simp [Value.category])) 20 rfl ?_
    refine g_icmp_ge hX dS_lengthOfBuild_20 63 23 (by decide) rfl (fun c20 => ?_) (fun c20 => ?_)
    · refine g_iload_n hX dS_lengthOfBuild_63 rfl rfl 64 rfl ?_
      exact g_iret hX rfl rfl dS_lengthOfBuild_64 ⟨rfl, rfl⟩ rfl (Nat.zero_le _) (Nat.zero_le _)
    · exact absurd (show nI (q_eon S p).length ≤ nI pre.length by rw [hl1]; exact nI_le (Nat.le_refl _) (by omega)) c20
  | cons x rest ih =>
    intro pre n hxs
    have hx : x < q_ne S := (q_mem_eon (p := p) (by rw [hxs]; simp)).1
    have hl1 : pre.length < (q_eon S p).length := by rw [hxs]; simp
    have h5 := fun n => ih (pre ++ [x]) n (by rw [hxs]; simp)
    rw [q_snoc] at h5
    rw [List.foldl_cons]
    refine g_iload_n hX dS_lengthOfBuild_10 rfl rfl 11 rfl ?_
    refine g_aload_n hX dS_lengthOfBuild_11 rfl rfl (by first | rfl | exact g_rfr _) 12 rfl ?_
    refine g_get hX dS_lengthOfBuild_12 fS_229 (w_c hW 2 p (by decide) hp) rfl 15 rfl ?_
    refine g_cF0r (wt := 1) hX (c_size hX.tr (w_l5 hW hB hp)) dS_lengthOfBuild_15 (w_l5 hW hB hp).1 kS_71 (g_rm.of hR (by decide) (by decide)) (by first | exact Nat.zero_le _ | (rw [hR]; decide)) (by first | exact Nat.zero_le _ | (rw [hR]; decide)) (by first | decide | (simp [Value.category])) 20 rfl ?_
    refine g_icmp_ge hX dS_lengthOfBuild_20 63 23 (by decide) rfl (fun c20 => ?_) (fun c20 => ?_)
    · exact absurd c20 (nI_ge hl1 (by omega))
    · refine g_aload_n hX dS_lengthOfBuild_23 rfl rfl (by first | rfl | exact g_rfr _) 24 rfl ?_
      refine g_get hX dS_lengthOfBuild_24 fS_229 (w_c hW 2 p (by decide) hp) rfl 27 rfl ?_
      refine g_iload_n hX dS_lengthOfBuild_27 rfl rfl 28 rfl ?_
      refine g_cF1r (wt := 0) hX (c_get hX.tr (w_l5 hW hB hp) hxs) dS_lengthOfBuild_28 (w_l5 hW hB hp).1 kS_195 (g_rm.of hR (by decide) (by decide)) (by first | exact Nat.zero_le _ | (rw [hR]; decide)) (by first | exact Nat.zero_le _ | (rw [hR]; decide)) (by first | decide | (simp [Value.category])) 33 rfl ?_
      refine g_cast (ci := 4) hX dS_lengthOfBuild_33 rfl cS_224 (w_c hW 15 x (by decide) hx) 36 rfl ?_
      refine g_astore hX (L' := [_, _, _, _, _]) dS_lengthOfBuild_36 (by decide) (by first | rfl | exact g_rfr _) rfl 38 rfl ?_
      refine g_aload hX dS_lengthOfBuild_38 rfl (by first | rfl | exact g_rfr _) 40 rfl ?_
      refine g_get hX dS_lengthOfBuild_40 fS_246 (w_c hW 15 x (by decide) hx) rfl 43 rfl ?_
      refine g_iload_n hX dS_lengthOfBuild_43 rfl rfl 44 rfl ?_
      refine g_icmp_ne hX dS_lengthOfBuild_44 57 47 (by decide) rfl (fun c44 => ?_) (fun c44 => ?_)
      · refine g_iinc hX (L' := [_, _, _, _, _]) dS_lengthOfBuild_57 rfl (q_inc _) rfl 60 rfl ?_
        refine g_goto hX dS_lengthOfBuild_60 10 (by decide) ?_
        rw [if_neg (show ¬ nI (q_build S x) = b from c44)]
        refine g_drop (L' := [_, _, _, _, none]) 4 rfl ?_
        exact h5 _
      · refine g_iload_n hX dS_lengthOfBuild_47 rfl rfl 48 rfl ?_
        refine g_aload hX dS_lengthOfBuild_48 rfl (by first | rfl | exact g_rfr _) 50 rfl ?_
        refine g_get hX dS_lengthOfBuild_50 fS_243 (w_c hW 15 x (by decide) hx) rfl 53 rfl ?_
        refine g_mmax (wt := 0) hX dS_lengthOfBuild_53 kS_329 (by rw [hR]; decide) (by decide) (by rw [hR]; decide) (Nat.zero_le _) (Nat.zero_le _) 56 rfl ?_
        refine g_istore_n hX (L' := [_, _, _, _, _]) dS_lengthOfBuild_56 rfl (by decide) rfl 57 rfl ?_
        refine g_iinc hX (L' := [_, _, _, _, _]) dS_lengthOfBuild_57 rfl (q_inc _) rfl 60 rfl ?_
        refine g_goto hX dS_lengthOfBuild_60 10 (by decide) ?_
        rw [if_pos (show nI (q_build S x) = b from c44)]
        refine g_drop (L' := [_, _, _, _, none]) 4 rfl ?_
        exact h5 _
set_option maxRecDepth 100000 in
set_option maxHeartbeats 4000000 in
theorem c_S_lob_n {l : Launch} (hl : l.stackTraces = false) {E : g_E} {A : w_A} {S Sm : q_S} {h : g_H} (hW : w_W E A S Sm h) (hB : w_B S) (b : Int32)  : g_Rd l mS_lengthOfBuild 3 40 [.null, .int b] E h (some (.int 0)) := by
  refine g_Rd.of hl (by decide) (by first | rfl | simp [g_rfc, Value.category]) (Nat.le_of_ble_eq_true rfl) ?_
  intro X hX hXl hR
  obtain ⟨hnp, hns, hne, hpar, hhome, hact⟩ := id hB
  show g_Go E X _ h true 0 0 0 [some (.null), some (.int b), none, none, none] []
  refine g_aload_n hX dS_lengthOfBuild_0 rfl rfl (by first | rfl | exact g_rfr _) 1 rfl ?_
  refine g_ifnonnull (r := none) hX dS_lengthOfBuild_1 6 4 (by decide) rfl (fun a q => by cases q) (fun _ => ?_)
  refine g_iconst hX dS_lengthOfBuild_4 (v := 0) (by decide) 5 rfl ?_
  exact g_iret hX rfl rfl dS_lengthOfBuild_5 ⟨rfl, rfl⟩ rfl (Nat.zero_le _) (Nat.zero_le _)
set_option maxRecDepth 100000 in
set_option maxHeartbeats 4000000 in
theorem c_S_lob {l : Launch} (hl : l.stackTraces = false) {E : g_E} {A : w_A} {S Sm : q_S} {h : g_H} (hW : w_W E A S Sm h) (hB : w_B S) {p : Nat} (hp : p < q_np S) (b : Int32)  : g_Rd l mS_lengthOfBuild 3 40 [.ref (A 2 p), .int b] E h (some (.int (q_len S p b (q_ne S)))) := by
  refine g_Rd.of hl (by decide) (by first | rfl | simp [g_rfc, Value.category]) (Nat.le_of_ble_eq_true rfl) ?_
  intro X hX hXl hR
  obtain ⟨hnp, hns, hne, hpar, hhome, hact⟩ := id hB
  show g_Go E X _ h true 0 0 0 [some (.ref (A 2 p)), some (.int b), none, none, none] []
  refine g_aload_n hX dS_lengthOfBuild_0 rfl rfl (by first | rfl | exact g_rfr _) 1 rfl ?_
  refine g_ifnonnull (r := some (A 2 p)) hX dS_lengthOfBuild_1 6 4 (by decide) rfl (fun _ _ => ?_) (fun q => by cases q)
  refine g_iconst hX dS_lengthOfBuild_6 (v := 0) (by decide) 7 rfl ?_
  refine g_istore_n hX (L' := [_, _, _, _, _]) dS_lengthOfBuild_7 rfl (by decide) rfl 8 rfl ?_
  refine g_iconst hX dS_lengthOfBuild_8 (v := 0) (by decide) 9 rfl ?_
  refine g_istore_n hX (L' := [_, _, _, _, _]) dS_lengthOfBuild_9 rfl (by decide) rfl 10 rfl ?_
  rw [q_len_fold]
  exact lp_S_lob hW hB hX hR hp (q_eon S p) [] 0 rfl
set_option maxRecDepth 100000 in
set_option maxHeartbeats 4000000 in
theorem c_S_findSlide_n {l : Launch} (hl : l.stackTraces = false) {E : g_E} {A : w_A} {S Sm : q_S} {h : g_H} (hW : w_W E A S Sm h) (hB : w_B S) {k : Int32} (hk : k < 0 ∨ nI (q_sl S).length ≤ k) : g_Rd l mS_findSlide 3 40 [.ref (A 0 0), .int k] E h (some .null) := by
  refine g_Rd.of hl (by decide) (by first | rfl | simp [g_rfc, Value.category]) (Nat.le_of_ble_eq_true rfl) ?_
  intro X hX hXl hR
  obtain ⟨hnp, hns, hne, hpar, hhome, hact⟩ := id hB
  show g_Go E X _ h true 0 0 0 [some (.ref (A 0 0)), some (.int k)] []
  refine g_iload_n hX dS_findSlide_0 rfl rfl 1 rfl ?_
  refine g_if_lt hX dS_findSlide_1 33 4 (by decide) rfl (fun c1 => ?_) (fun c1 => ?_)
  · refine g_null hX dS_findSlide_33 34 rfl ?_
    exact g_aret hX rfl (Or.inl ⟨_, rfl⟩) (by first | rfl | exact g_rfr _) dS_findSlide_34 ⟨rfl, rfl⟩ rfl (Nat.zero_le _) (Nat.zero_le _)
  · refine g_iload_n hX dS_findSlide_4 rfl rfl 5 rfl ?_
    refine g_aload_n hX dS_findSlide_5 rfl rfl (by first | rfl | exact g_rfr _) 6 rfl ?_
    refine g_get hX dS_findSlide_6 fS_21 (w_s hW) rfl 9 rfl ?_
    refine g_cF0r (wt := 1) hX (c_size hX.tr (w_l18 hW hB)) dS_findSlide_9 (w_l18 hW hB).1 kS_71 (g_rm.of hR (by decide) (by decide)) (by first | exact Nat.zero_le _ | (rw [hR]; decide)) (by first | exact Nat.zero_le _ | (rw [hR]; decide)) (by first | decide | (simp [Value.category])) 14 rfl ?_
    refine g_icmp_ge hX dS_findSlide_14 33 17 (by decide) rfl (fun c14 => ?_) (fun c14 => ?_)
    · refine g_null hX dS_findSlide_33 34 rfl ?_
      exact g_aret hX rfl (Or.inl ⟨_, rfl⟩) (by first | rfl | exact g_rfr _) dS_findSlide_34 ⟨rfl, rfl⟩ rfl (Nat.zero_le _) (Nat.zero_le _)
    · exact absurd hk (fun q => q.elim c1 (fun q => c14 q))
set_option maxRecDepth 100000 in
set_option maxHeartbeats 4000000 in
theorem c_S_findSlide_s {l : Launch} (hl : l.stackTraces = false) {E : g_E} {A : w_A} {S Sm : q_S} {h : g_H} (hW : w_W E A S Sm h) (hB : w_B S) {pre r : List Nat} {x : Nat} (hk : q_sl S = pre ++ x :: r) : g_Rd l mS_findSlide 3 40 [.ref (A 0 0), .int (nI pre.length)] E h (some (.ref (A 2 x))) := by
  refine g_Rd.of hl (by decide) (by first | rfl | simp [g_rfc, Value.category]) (Nat.le_of_ble_eq_true rfl) ?_
  intro X hX hXl hR
  obtain ⟨hnp, hns, hne, hpar, hhome, hact⟩ := id hB
  have hx : x < q_np S := (q_mem_sl (by rw [hk]; simp)).1
  have hl0 := q_sl_len S
  have hl1 : pre.length < (q_sl S).length := by rw [hk]; simp
  show g_Go E X _ h true 0 0 0 [some (.ref (A 0 0)), some (.int (nI pre.length))] []
  refine g_iload_n hX dS_findSlide_0 rfl rfl 1 rfl ?_
  refine g_if_lt hX dS_findSlide_1 33 4 (by decide) rfl (fun c1 => ?_) (fun c1 => ?_)
  · exact absurd c1 (nI_pos (by omega))
  · refine g_iload_n hX dS_findSlide_4 rfl rfl 5 rfl ?_
    refine g_aload_n hX dS_findSlide_5 rfl rfl (by first | rfl | exact g_rfr _) 6 rfl ?_
    refine g_get hX dS_findSlide_6 fS_21 (w_s hW) rfl 9 rfl ?_
    refine g_cF0r (wt := 1) hX (c_size hX.tr (w_l18 hW hB)) dS_findSlide_9 (w_l18 hW hB).1 kS_71 (g_rm.of hR (by decide) (by decide)) (by first | exact Nat.zero_le _ | (rw [hR]; decide)) (by first | exact Nat.zero_le _ | (rw [hR]; decide)) (by first | decide | (simp [Value.category])) 14 rfl ?_
    refine g_icmp_ge hX dS_findSlide_14 33 17 (by decide) rfl (fun c14 => ?_) (fun c14 => ?_)
    · exact absurd c14 (nI_ge hl1 (by omega))
    · refine g_aload_n hX dS_findSlide_17 rfl rfl (by first | rfl | exact g_rfr _) 18 rfl ?_
      refine g_get hX dS_findSlide_18 fS_21 (w_s hW) rfl 21 rfl ?_
      refine g_iload_n hX dS_findSlide_21 rfl rfl 22 rfl ?_
      refine g_cF1r (wt := 0) hX (c_get hX.tr (w_l18 hW hB) hk) dS_findSlide_22 (w_l18 hW hB).1 kS_195 (g_rm.of hR (by decide) (by decide)) (by first | exact Nat.zero_le _ | (rw [hR]; decide)) (by first | exact Nat.zero_le _ | (rw [hR]; decide)) (by first | decide | (simp [Value.category])) 27 rfl ?_
      refine g_cast (ci := 1) hX dS_findSlide_27 rfl cS_82 (w_c hW 2 x (by decide) hx) 30 rfl ?_
      refine g_goto hX dS_findSlide_30 34 (by decide) ?_
      exact g_aret hX rfl (Or.inl ⟨_, rfl⟩) (by first | rfl | exact g_rfr _) dS_findSlide_34 ⟨rfl, rfl⟩ rfl (Nat.zero_le _) (Nat.zero_le _)
theorem q_split {xs : List Nat} {k x : Nat} (h : xs[k]? = some x) : ∃ pre r, xs = pre ++ x :: r ∧ pre.length = k := by
  obtain ⟨hk, he⟩ := List.getElem?_eq_some_iff.mp h
  refine ⟨xs.take k, xs.drop (k + 1), ?_, by rw [List.length_take]; omega⟩
  rw [← he, List.getElem_cons_drop, List.take_append_drop]
theorem c_S_findSlide {l : Launch} (hl : l.stackTraces = false) {E : g_E} {A : w_A} {S Sm : q_S} {h : g_H} (hW : w_W E A S Sm h) (hB : w_B S) (k : Int32) : g_Rd l mS_findSlide 3 40 [.ref (A 0 0), .int k] E h (some (va_rf ((q_slide S k).map (A 2)))) := by
  have hl0 := q_sl_len S
  have hnp := hB.1
  by_cases h0 : k < 0
  · rw [q_slide_neg hB h0]
    exact c_S_findSlide_n hl hW hB (Or.inl h0)
  · obtain ⟨m, hm, rfl⟩ := nI_of h0
    rw [q_slide_sl hB hm]
    cases hx : (q_sl S)[m]? with
    | none =>
      have h1 : (q_sl S).length ≤ m := List.getElem?_eq_none_iff.mp hx
      exact c_S_findSlide_n hl hW hB (Or.inr (nI_le h1 hm))
    | some x =>
      obtain ⟨pre, r, h1, rfl⟩ := q_split hx
      exact c_S_findSlide_s hl hW hB h1
set_option maxRecDepth 100000 in
set_option maxHeartbeats 4000000 in
theorem c_S_slideShown {l : Launch} (hl : l.stackTraces = false) {E : g_E} {A : w_A} {S Sm : q_S} {h : g_H} (hW : w_W E A S Sm h) (hB : w_B S)  (hC : w_C S) : g_Rd l mS_slideShown 4 53 [.ref (A 0 0)] E h (some (va_rf ((q_slide S (nI (q_at S))).map (A 2)))) := by
  refine g_Rd.of hl (by decide) (by first | rfl | simp [g_rfc, Value.category]) (Nat.le_of_ble_eq_true rfl) ?_
  intro X hX hXl hR
  obtain ⟨hnp, hns, hne, hpar, hhome, hact⟩ := id hB
  have hsa : q_slide S (w_slideAt S) = q_slide S (nI (q_at S)) := by
    unfold w_slideAt
    split
    · rename_i h9
      rw [q_slide_neg hB (by decide)]
      rcases hC.2.2.2.2.2 with h8 | h8
      · rw [q_slide_sl hB (by rw [h8.2.1]; decide), h9]
        rfl
      · rw [h9] at h8
        exact absurd h8 (Nat.not_lt_zero _)
    · rfl
  show g_Go E X _ h true 0 0 0 [some (.ref (A 0 0))] []
  refine g_aload_n hX dS_slideShown_0 rfl rfl (by first | rfl | exact g_rfr _) 1 rfl ?_
  refine g_aload_n hX dS_slideShown_1 rfl rfl (by first | rfl | exact g_rfr _) 2 rfl ?_
  refine g_get hX dS_slideShown_2 fS_37 (w_s hW) rfl 5 rfl ?_
  refine g_cV1r (wt := 0) hX (c_S_findSlide hX.tr hW hB _) dS_slideShown_5 (w_s hW) kS_268 (g_rm.of hR (by decide) (by decide)) (by first | exact Nat.zero_le _ | (rw [hR]; decide)) (by first | exact Nat.zero_le _ | (rw [hR]; decide)) (by first | decide | (simp [Value.category])) 8 rfl ?_
  exact g_aret hX rfl (Or.inl ⟨_, rfl⟩) (by first | rfl | exact g_rfr _) dS_slideShown_8 ⟨by rw [hsa], rfl⟩ rfl (Nat.zero_le _) (Nat.zero_le _)
theorem q_le_nlt {a b : Int32} (h : ¬ b < a) : ¬ b < a := h
set_option maxRecDepth 100000 in
set_option maxHeartbeats 4000000 in
theorem c_S_progress {l : Launch} (hl : l.stackTraces = false) {E : g_E} {A : w_A} {S Sm : q_S} {h : g_H} (hW : w_W E A S Sm h) (hB : w_B S) {e : Nat} (he : e < q_ne S)  : g_Rd l mS_progress 0 0 [.ref (A 0 0), .ref (A 15 e)] E h (some (.int (q_stage S e))) := by
  refine g_Rd.of hl (by decide) (by first | rfl | simp [g_rfc, Value.category]) (Nat.le_of_ble_eq_true rfl) ?_
  intro X hX hXl hR
  obtain ⟨hnp, hns, hne, hpar, hhome, hact⟩ := id hB
  show g_Go E X _ h true 0 0 0 [some (.ref (A 0 0)), some (.ref (A 15 e))] []
  refine g_aload_n hX dS_progress_0 rfl rfl (by first | rfl | exact g_rfr _) 1 rfl ?_
  refine g_get hX dS_progress_1 fS_246 (w_c hW 15 e (by decide) he) rfl 4 rfl ?_
  refine g_aload_n hX dS_progress_4 rfl rfl (by first | rfl | exact g_rfr _) 5 rfl ?_
  refine g_get hX dS_progress_5 fS_41 (w_s hW) rfl 8 rfl ?_
  refine g_icmp_lt hX dS_progress_8 33 11 (by decide) rfl (fun c8 => ?_) (fun c8 => ?_)
  · refine g_iconst hX dS_progress_33 (v := 2) (by decide) 34 rfl ?_
    exact g_iret hX rfl rfl dS_progress_34 ⟨by unfold q_stage; rw [if_pos (show nI (q_build S e) < nI (q_clicks S) from c8)], rfl⟩ rfl (Nat.zero_le _) (Nat.zero_le _)
  · refine g_aload_n hX dS_progress_11 rfl rfl (by first | rfl | exact g_rfr _) 12 rfl ?_
    refine g_get hX dS_progress_12 fS_246 (w_c hW 15 e (by decide) he) rfl 15 rfl ?_
    refine g_aload_n hX dS_progress_15 rfl rfl (by first | rfl | exact g_rfr _) 16 rfl ?_
    refine g_get hX dS_progress_16 fS_41 (w_s hW) rfl 19 rfl ?_
    refine g_icmp_ne hX dS_progress_19 35 22 (by decide) rfl (fun c19 => ?_) (fun c19 => ?_)
    · refine g_aload_n hX dS_progress_35 rfl rfl (by first | rfl | exact g_rfr _) 36 rfl ?_
      refine g_get hX dS_progress_36 fS_246 (w_c hW 15 e (by decide) he) rfl 39 rfl ?_
      refine g_aload_n hX dS_progress_39 rfl rfl (by first | rfl | exact g_rfr _) 40 rfl ?_
      refine g_get hX dS_progress_40 fS_41 (w_s hW) rfl 43 rfl ?_
      refine g_icmp_ne hX dS_progress_43 61 46 (by decide) rfl (fun c43 => ?_) (fun c43 => ?_)
      · refine g_iconst hX dS_progress_61 (v := 0) (by decide) 62 rfl ?_
        exact g_iret hX rfl rfl dS_progress_62 ⟨by unfold q_stage; rw [if_neg (show ¬ nI (q_build S e) < nI (q_clicks S) from c8), if_neg (fun q => c19 q.1), if_neg (fun q => c43 q.1)], rfl⟩ rfl (Nat.zero_le _) (Nat.zero_le _)
      · refine g_aload_n hX dS_progress_46 rfl rfl (by first | rfl | exact g_rfr _) 47 rfl ?_
        refine g_get hX dS_progress_47 fS_240 (w_c hW 15 e (by decide) he) rfl 50 rfl ?_
        refine g_aload_n hX dS_progress_50 rfl rfl (by first | rfl | exact g_rfr _) 51 rfl ?_
        refine g_get hX dS_progress_51 fS_44 (w_s hW) rfl 54 rfl ?_
        refine g_icmp_gt hX dS_progress_54 61 57 (by decide) rfl (fun c54 => ?_) (fun c54 => ?_)
        · refine g_iconst hX dS_progress_61 (v := 0) (by decide) 62 rfl ?_
          exact g_iret hX rfl rfl dS_progress_62 ⟨by unfold q_stage; rw [if_neg (show ¬ nI (q_build S e) < nI (q_clicks S) from c8), if_neg (fun q => c19 q.1), if_neg (fun q => q.2 c54)], rfl⟩ rfl (Nat.zero_le _) (Nat.zero_le _)
        · refine g_iconst hX dS_progress_57 (v := 1) (by decide) 58 rfl ?_
          refine g_goto hX dS_progress_58 62 (by decide) ?_
          exact g_iret hX rfl rfl dS_progress_62 ⟨by unfold q_stage; rw [if_neg (show ¬ nI (q_build S e) < nI (q_clicks S) from c8), if_neg (fun q => c19 q.1), if_pos ⟨show nI (q_build S e) = nI (q_clicks S) from c43, q_le_nlt c54⟩], rfl⟩ rfl (Nat.zero_le _) (Nat.zero_le _)
    · refine g_aload_n hX dS_progress_22 rfl rfl (by first | rfl | exact g_rfr _) 23 rfl ?_
      refine g_get hX dS_progress_23 fS_243 (w_c hW 15 e (by decide) he) rfl 26 rfl ?_
      refine g_aload_n hX dS_progress_26 rfl rfl (by first | rfl | exact g_rfr _) 27 rfl ?_
      refine g_get hX dS_progress_27 fS_44 (w_s hW) rfl 30 rfl ?_
      refine g_icmp_gt hX dS_progress_30 35 33 (by decide) rfl (fun c30 => ?_) (fun c30 => ?_)
      · refine g_aload_n hX dS_progress_35 rfl rfl (by first | rfl | exact g_rfr _) 36 rfl ?_
        refine g_get hX dS_progress_36 fS_246 (w_c hW 15 e (by decide) he) rfl 39 rfl ?_
        refine g_aload_n hX dS_progress_39 rfl rfl (by first | rfl | exact g_rfr _) 40 rfl ?_
        refine g_get hX dS_progress_40 fS_41 (w_s hW) rfl 43 rfl ?_
        refine g_icmp_ne hX dS_progress_43 61 46 (by decide) rfl (fun c43 => ?_) (fun c43 => ?_)
        · refine g_iconst hX dS_progress_61 (v := 0) (by decide) 62 rfl ?_
          exact g_iret hX rfl rfl dS_progress_62 ⟨by unfold q_stage; rw [if_neg (show ¬ nI (q_build S e) < nI (q_clicks S) from c8), if_neg (fun q => q.2 c30), if_neg (fun q => c43 q.1)], rfl⟩ rfl (Nat.zero_le _) (Nat.zero_le _)
        · refine g_aload_n hX dS_progress_46 rfl rfl (by first | rfl | exact g_rfr _) 47 rfl ?_
          refine g_get hX dS_progress_47 fS_240 (w_c hW 15 e (by decide) he) rfl 50 rfl ?_
          refine g_aload_n hX dS_progress_50 rfl rfl (by first | rfl | exact g_rfr _) 51 rfl ?_
          refine g_get hX dS_progress_51 fS_44 (w_s hW) rfl 54 rfl ?_
          refine g_icmp_gt hX dS_progress_54 61 57 (by decide) rfl (fun c54 => ?_) (fun c54 => ?_)
          · refine g_iconst hX dS_progress_61 (v := 0) (by decide) 62 rfl ?_
            exact g_iret hX rfl rfl dS_progress_62 ⟨by unfold q_stage; rw [if_neg (show ¬ nI (q_build S e) < nI (q_clicks S) from c8), if_neg (fun q => q.2 c30), if_neg (fun q => q.2 c54)], rfl⟩ rfl (Nat.zero_le _) (Nat.zero_le _)
          · refine g_iconst hX dS_progress_57 (v := 1) (by decide) 58 rfl ?_
            refine g_goto hX dS_progress_58 62 (by decide) ?_
            exact g_iret hX rfl rfl dS_progress_62 ⟨by unfold q_stage; rw [if_neg (show ¬ nI (q_build S e) < nI (q_clicks S) from c8), if_neg (fun q => q.2 c30), if_pos ⟨show nI (q_build S e) = nI (q_clicks S) from c43, q_le_nlt c54⟩], rfl⟩ rfl (Nat.zero_le _) (Nat.zero_le _)
      · refine g_iconst hX dS_progress_33 (v := 2) (by decide) 34 rfl ?_
        exact g_iret hX rfl rfl dS_progress_34 ⟨by unfold q_stage; rw [if_neg (show ¬ nI (q_build S e) < nI (q_clicks S) from c8), if_pos ⟨show nI (q_build S e) = nI (q_clicks S) from c19, q_le_nlt c30⟩], rfl⟩ rfl (Nat.zero_le _) (Nat.zero_le _)
set_option maxRecDepth 100000 in
set_option maxHeartbeats 4000000 in
theorem c_S_part {l : Launch} (hl : l.stackTraces = false) {E : g_E} {A : w_A} {S Sm : q_S} {h : g_H} (hW : w_W E A S Sm h) (hB : w_B S) {e : Nat} (he : e < q_ne S) (w : Int32) (hC : w_C S) : g_Rd l mS_part 1 13 [.ref (A 0 0), .ref (A 15 e), .int w] E h (some (.int (q_cp S w e))) := by
  refine g_Rd.of hl (by decide) (by first | rfl | simp [g_rfc, Value.category]) (Nat.le_of_ble_eq_true rfl) ?_
  intro X hX hXl hR
  obtain ⟨hnp, hns, hne, hpar, hhome, hact⟩ := id hB
  show g_Go E X _ h true 0 0 0 [some (.ref (A 0 0)), some (.ref (A 15 e)), some (.int w), none] []
  refine g_aload_n hX dS_part_0 rfl rfl (by first | rfl | exact g_rfr _) 1 rfl ?_
  refine g_aload_n hX dS_part_1 rfl rfl (by first | rfl | exact g_rfr _) 2 rfl ?_
  refine g_cV1r (wt := 0) hX (c_S_progress hX.tr hW hB he) dS_part_2 (w_s hW) kS_256 (g_rm.of hR (by decide) (by decide)) (by first | exact Nat.zero_le _ | (rw [hR]; decide)) (by first | exact Nat.zero_le _ | (rw [hR]; decide)) (by first | decide | (simp [Value.category])) 5 rfl ?_
  refine g_istore_n hX (L' := [_, _, _, _]) dS_part_5 rfl (by decide) rfl 6 rfl ?_
  refine g_iload_n hX dS_part_6 rfl rfl 7 rfl ?_
  refine g_iconst hX dS_part_7 (v := 1) (by decide) 8 rfl ?_
  refine g_icmp_ne hX dS_part_8 35 11 (by decide) rfl (fun c8 => ?_) (fun c8 => ?_)
  · refine g_iload_n hX dS_part_35 rfl rfl 36 rfl ?_
    refine g_iconst hX dS_part_36 (v := 2) (by decide) 37 rfl ?_
    refine g_icmp_ne hX dS_part_37 44 40 (by decide) rfl (fun c37 => ?_) (fun c37 => ?_)
    · refine g_iconst hX dS_part_44 (v := 0) (by decide) 45 rfl ?_
      exact g_iret hX rfl rfl dS_part_45 ⟨by unfold q_cp; rw [if_neg (show ¬ q_stage S e = 1 from c8), if_neg (show ¬ q_stage S e = 2 from c37)], rfl⟩ rfl (Nat.zero_le _) (Nat.zero_le _)
    · refine g_iload_n hX dS_part_40 rfl rfl 41 rfl ?_
      refine g_goto hX dS_part_41 45 (by decide) ?_
      exact g_iret hX rfl rfl dS_part_45 ⟨by unfold q_cp; rw [if_neg (show ¬ q_stage S e = 1 from c8), if_pos (show q_stage S e = 2 from c37)], rfl⟩ rfl (Nat.zero_le _) (Nat.zero_le _)
  · refine g_aload_n hX dS_part_11 rfl rfl (by first | rfl | exact g_rfr _) 12 rfl ?_
    refine g_get hX dS_part_12 fS_332 (w_c hW 15 e (by decide) he) rfl 15 rfl ?_
    refine g_if_le hX dS_part_15 35 18 (by decide) rfl (fun c15 => ?_) (fun c15 => ?_)
    · exact absurd c15 (q_dpos (hC.2.2.2.1 e he).2 (q_stage1 c8))
    · refine g_iload_n hX dS_part_18 rfl rfl 19 rfl ?_
      refine g_aload_n hX dS_part_19 rfl rfl (by first | rfl | exact g_rfr _) 20 rfl ?_
      refine g_get hX dS_part_20 fS_44 (w_s hW) rfl 23 rfl ?_
      refine g_aload_n hX dS_part_23 rfl rfl (by first | rfl | exact g_rfr _) 24 rfl ?_
      refine g_get hX dS_part_24 fS_240 (w_c hW 15 e (by decide) he) rfl 27 rfl ?_
      refine g_isub hX dS_part_27 28 rfl ?_
      refine g_imul hX dS_part_28 29 rfl ?_
      refine g_aload_n hX dS_part_29 rfl rfl (by first | rfl | exact g_rfr _) 30 rfl ?_
      refine g_get hX dS_part_30 fS_332 (w_c hW 15 e (by decide) he) rfl 33 rfl ?_
      refine g_idiv hX dS_part_33 (q_stage1 c8) 34 rfl ?_
      exact g_iret hX rfl rfl dS_part_34 ⟨by unfold q_cp; rw [if_pos (show q_stage S e = 1 from c8)]; rfl, rfl⟩ rfl (Nat.zero_le _) (Nat.zero_le _)
