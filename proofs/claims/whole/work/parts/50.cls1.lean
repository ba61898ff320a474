theorem c_sizen {l : Launch} (hl : l.stackTraces = false) {E : g_E} {h : g_H} {b dd n : Nat} {f : Nat → Option Nat} (ha : l_at E h b dd (List.range n).length f) : g_Rd l mA_size 0 0 [.ref b] E h (some (.int (nI n))) := by
  have h9 := c_size hl ha
  rw [List.length_range] at h9
  exact h9
theorem q_rfn (g : Nat → Nat) : va_rf ((none : Option Nat).map g) = .null := rfl
theorem q_snoc (pre : List Nat) (x : Nat) : nI (pre ++ [x]).length = nI (pre.length + 1) := by rw [List.length_append]; rfl
def r_in (v a b : Int32) : Int32 := if v < a then 0 else if b < v then 0 else 1
set_option maxRecDepth 100000 in
set_option maxHeartbeats 4000000 in
theorem c_S_isWithin {l : Launch} (hl : l.stackTraces = false) (E : g_E) (h : g_H) (v a b : Int32)  : g_Rd l mS_isWithin 0 0 [.int v, .int a, .int b] E h (some (.int (r_in v a b))) := by
  refine g_Rd.of hl (by decide) (rfl) (Nat.le_of_ble_eq_true rfl) ?_
  intro X hX hXl hR
  show g_Go E X _ h true 0 0 0 [some (.int v), some (.int a), some (.int b)] []
  refine g_iload_n hX dS_isWithin_0 rfl rfl 1 rfl ?_
  refine g_iload_n hX dS_isWithin_1 rfl rfl 2 rfl ?_
  refine g_icmp_lt hX dS_isWithin_2 14 5 (by decide) rfl (fun c2 => ?_) (fun c2 => ?_)
  · refine g_iconst hX dS_isWithin_14 (v := 0) (by decide) 15 rfl ?_
    exact g_iret hX rfl rfl dS_isWithin_15 ⟨by unfold r_in; rw [if_pos c2], rfl⟩ rfl (Nat.zero_le _) (Nat.zero_le _)
  · refine g_iload_n hX dS_isWithin_5 rfl rfl 6 rfl ?_
    refine g_iload_n hX dS_isWithin_6 rfl rfl 7 rfl ?_
    refine g_icmp_gt hX dS_isWithin_7 14 10 (by decide) rfl (fun c7 => ?_) (fun c7 => ?_)
    · refine g_iconst hX dS_isWithin_14 (v := 0) (by decide) 15 rfl ?_
      exact g_iret hX rfl rfl dS_isWithin_15 ⟨by unfold r_in; rw [if_neg c2, if_pos c7], rfl⟩ rfl (Nat.zero_le _) (Nat.zero_le _)
    · refine g_iconst hX dS_isWithin_10 (v := 1) (by decide) 11 rfl ?_
      refine g_goto hX dS_isWithin_11 15 (by decide) ?_
      exact g_iret hX rfl rfl dS_isWithin_15 ⟨by unfold r_in; rw [if_neg c2, if_neg c7], rfl⟩ rfl (Nat.zero_le _) (Nat.zero_le _)
set_option maxRecDepth 100000 in
set_option maxHeartbeats 4000000 in
theorem c_S_findPage_n {l : Launch} (hl : l.stackTraces = false) {E : g_E} {A : w_A} {S Sm : q_S} {h : g_H} (hW : w_W E A S Sm h) (hB : w_B S) {k : Int32} (hk : r_noPage S k = 1) : g_Rd l mS_findPage 3 40 [.ref (A 0 0), .int k] E h (some .null) := by
  refine g_Rd.of hl (by decide) (by first | rfl | simp [g_rfc, Value.category]) (Nat.le_of_ble_eq_true rfl) ?_
  intro X hX hXl hR
  obtain ⟨hnp, hns, hne, hpar, hhome, hact⟩ := id hB
  show g_Go E X _ h true 0 0 0 [some (.ref (A 0 0)), some (.int k)] []
  refine g_iload_n hX dS_findPage_0 rfl rfl 1 rfl ?_
  refine g_if_lt hX dS_findPage_1 33 4 (by decide) rfl (fun c1 => ?_) (fun c1 => ?_)
  · refine g_null hX dS_findPage_33 34 rfl ?_
    exact g_aret hX rfl (Or.inl ⟨_, rfl⟩) (by first | rfl | exact g_rfr _) dS_findPage_34 ⟨rfl, rfl⟩ rfl (Nat.zero_le _) (Nat.zero_le _)
  · refine g_iload_n hX dS_findPage_4 rfl rfl 5 rfl ?_
    refine g_aload_n hX dS_findPage_5 rfl rfl (by first | rfl | exact g_rfr _) 6 rfl ?_
    refine g_get hX dS_findPage_6 fS_17 (w_s hW) rfl 9 rfl ?_
    refine g_cF0r (wt := 1) hX (c_sizen hX.tr (w_l16 hW hB)) dS_findPage_9 (w_l16 hW hB).1 kS_71 (g_rm.of hR (by decide) (by decide)) (by first | exact Nat.zero_le _ | (rw [hR]; decide)) (by first | exact Nat.zero_le _ | (rw [hR]; decide)) (by first | decide | (simp [Value.category])) 14 rfl ?_
    refine g_icmp_ge hX dS_findPage_14 33 17 (by decide) rfl (fun c14 => ?_) (fun c14 => ?_)
    · refine g_null hX dS_findPage_33 34 rfl ?_
      exact g_aret hX rfl (Or.inl ⟨_, rfl⟩) (by first | rfl | exact g_rfr _) dS_findPage_34 ⟨rfl, rfl⟩ rfl (Nat.zero_le _) (Nat.zero_le _)
    · exact absurd hk (by unfold r_noPage; rw [if_neg c1, if_pos (q_nle_lt c14)]; decide)
set_option maxRecDepth 100000 in
set_option maxHeartbeats 4000000 in
theorem c_S_findPage {l : Launch} (hl : l.stackTraces = false) {E : g_E} {A : w_A} {S Sm : q_S} {h : g_H} (hW : w_W E A S Sm h) (hB : w_B S) {p : Nat} (hp : p < q_np S)  : g_Rd l mS_findPage 3 40 [.ref (A 0 0), .int (nI p)] E h (some (.ref (A 2 p))) := by
  refine g_Rd.of hl (by decide) (by first | rfl | simp [g_rfc, Value.category]) (Nat.le_of_ble_eq_true rfl) ?_
  intro X hX hXl hR
  obtain ⟨hnp, hns, hne, hpar, hhome, hact⟩ := id hB
  show g_Go E X _ h true 0 0 0 [some (.ref (A 0 0)), some (.int (nI p))] []
  refine g_iload_n hX dS_findPage_0 rfl rfl 1 rfl ?_
  refine g_if_lt hX dS_findPage_1 33 4 (by decide) rfl (fun c1 => ?_) (fun c1 => ?_)
  · exact absurd c1 (nI_pos (by omega))
  · refine g_iload_n hX dS_findPage_4 rfl rfl 5 rfl ?_
    refine g_aload_n hX dS_findPage_5 rfl rfl (by first | rfl | exact g_rfr _) 6 rfl ?_
    refine g_get hX dS_findPage_6 fS_17 (w_s hW) rfl 9 rfl ?_
    refine g_cF0r (wt := 1) hX (c_sizen hX.tr (w_l16 hW hB)) dS_findPage_9 (w_l16 hW hB).1 kS_71 (g_rm.of hR (by decide) (by decide)) (by first | exact Nat.zero_le _ | (rw [hR]; decide)) (by first | exact Nat.zero_le _ | (rw [hR]; decide)) (by first | decide | (simp [Value.category])) 14 rfl ?_
    refine g_icmp_ge hX dS_findPage_14 33 17 (by decide) rfl (fun c14 => ?_) (fun c14 => ?_)
    · exact absurd c14 (nI_ge hp (by omega))
    · refine g_aload_n hX dS_findPage_17 rfl rfl (by first | rfl | exact g_rfr _) 18 rfl ?_
      refine g_get hX dS_findPage_18 fS_17 (w_s hW) rfl 21 rfl ?_
      refine g_iload_n hX dS_findPage_21 rfl rfl 22 rfl ?_
      refine g_cF1r (wt := 0) hX (c_getn hX.tr (w_l16 hW hB) hp) dS_findPage_22 (w_l16 hW hB).1 kS_195 (g_rm.of hR (by decide) (by decide)) (by first | exact Nat.zero_le _ | (rw [hR]; decide)) (by first | exact Nat.zero_le _ | (rw [hR]; decide)) (by first | decide | (simp [Value.category])) 27 rfl ?_
      refine g_cast (ci := 1) hX dS_findPage_27 rfl cS_82 (w_c hW 2 p (by decide) hp) 30 rfl ?_
      refine g_goto hX dS_findPage_30 34 (by decide) ?_
      exact g_aret hX rfl (Or.inl ⟨_, rfl⟩) (by first | rfl | exact g_rfr _) dS_findPage_34 ⟨rfl, rfl⟩ rfl (Nat.zero_le _) (Nat.zero_le _)
set_option maxRecDepth 100000 in
set_option maxHeartbeats 4000000 in
theorem c_S_isOfKind_n {l : Launch} (hl : l.stackTraces = false) {E : g_E} {A : w_A} {S Sm : q_S} {h : g_H} (hW : w_W E A S Sm h) (hB : w_B S) (k : Int32)  : g_Rd l mS_isOfKind 0 0 [.null, .int k] E h (some (.int 0)) := by
  refine g_Rd.of hl (by decide) (by first | rfl | simp [g_rfc, Value.category]) (Nat.le_of_ble_eq_true rfl) ?_
  intro X hX hXl hR
  obtain ⟨hnp, hns, hne, hpar, hhome, hact⟩ := id hB
  show g_Go E X _ h true 0 0 0 [some (.null), some (.int k)] []
  refine g_aload_n hX dS_isOfKind_0 rfl rfl (by first | rfl | exact g_rfr _) 1 rfl ?_
  refine g_ifnull (r := none) hX dS_isOfKind_1 16 4 (by decide) rfl (fun _ => ?_) (fun a q => by cases q)
  refine g_iconst hX dS_isOfKind_16 (v := 0) (by decide) 17 rfl ?_
  exact g_iret hX rfl rfl dS_isOfKind_17 ⟨rfl, rfl⟩ rfl (Nat.zero_le _) (Nat.zero_le _)
set_option maxRecDepth 100000 in
set_option maxHeartbeats 4000000 in
theorem c_S_isOfKind {l : Launch} (hl : l.stackTraces = false) {E : g_E} {A : w_A} {S Sm : q_S} {h : g_H} (hW : w_W E A S Sm h) (hB : w_B S) {p : Nat} (hp : p < q_np S) (k : Int32)  : g_Rd l mS_isOfKind 0 0 [.ref (A 2 p), .int k] E h (some (.int (if S.2 0 p = k then 1 else 0))) := by
  refine g_Rd.of hl (by decide) (by first | rfl | simp [g_rfc, Value.category]) (Nat.le_of_ble_eq_true rfl) ?_
  intro X hX hXl hR
  obtain ⟨hnp, hns, hne, hpar, hhome, hact⟩ := id hB
  show g_Go E X _ h true 0 0 0 [some (.ref (A 2 p)), some (.int k)] []
  refine g_aload_n hX dS_isOfKind_0 rfl rfl (by first | rfl | exact g_rfr _) 1 rfl ?_
  refine g_ifnull (r := some (A 2 p)) hX dS_isOfKind_1 16 4 (by decide) rfl (fun q => by cases q) (fun _ _ => ?_)
  refine g_aload_n hX dS_isOfKind_4 rfl rfl (by first | rfl | exact g_rfr _) 5 rfl ?_
  refine g_get hX dS_isOfKind_5 fS_206 (w_c hW 2 p (by decide) hp) rfl 8 rfl ?_
  refine g_iload_n hX dS_isOfKind_8 rfl rfl 9 rfl ?_
  refine g_icmp_ne hX dS_isOfKind_9 16 12 (by decide) rfl (fun c9 => ?_) (fun c9 => ?_)
  · refine g_iconst hX dS_isOfKind_16 (v := 0) (by decide) 17 rfl ?_
    exact g_iret hX rfl rfl dS_isOfKind_17 ⟨by rw [if_neg (show ¬ S.2 0 p = k from c9)], rfl⟩ rfl (Nat.zero_le _) (Nat.zero_le _)
  · refine g_iconst hX dS_isOfKind_12 (v := 1) (by decide) 13 rfl ?_
    refine g_goto hX dS_isOfKind_13 17 (by decide) ?_
    exact g_iret hX rfl rfl dS_isOfKind_17 ⟨by rw [if_pos (show S.2 0 p = k from c9)], rfl⟩ rfl (Nat.zero_le _) (Nat.zero_le _)
set_option maxRecDepth 100000 in
set_option maxHeartbeats 4000000 in
theorem c_S_indexOf_n {l : Launch} (hl : l.stackTraces = false) {E : g_E} {A : w_A} {S Sm : q_S} {h : g_H} (hW : w_W E A S Sm h) (hB : w_B S)   : g_Rd l mS_indexOf 0 0 [.null] E h (some (.int (-1))) := by
  refine g_Rd.of hl (by decide) (by first | rfl | simp [g_rfc, Value.category]) (Nat.le_of_ble_eq_true rfl) ?_
  intro X hX hXl hR
  obtain ⟨hnp, hns, hne, hpar, hhome, hact⟩ := id hB
  show g_Go E X _ h true 0 0 0 [some (.null)] []
  refine g_aload_n hX dS_indexOf_0 rfl rfl (by first | rfl | exact g_rfr _) 1 rfl ?_
  refine g_ifnonnull (r := none) hX dS_indexOf_1 8 4 (by decide) rfl (fun a q => by cases q) (fun _ => ?_)
  refine g_iconst hX dS_indexOf_4 (v := (-1)) (by decide) 5 rfl ?_
  refine g_goto hX dS_indexOf_5 12 (by decide) ?_
  exact g_iret hX rfl rfl dS_indexOf_12 ⟨rfl, rfl⟩ rfl (Nat.zero_le _) (Nat.zero_le _)
set_option maxRecDepth 100000 in
set_option maxHeartbeats 4000000 in
theorem c_S_indexOf_s {l : Launch} (hl : l.stackTraces = false) {E : g_E} {A : w_A} {S Sm : q_S} {h : g_H} (hW : w_W E A S Sm h) (hB : w_B S) {x : Nat} (hx : x < q_ns S)  : g_Rd l mS_indexOf 0 0 [.ref (A 7 x)] E h (some (.int (nI x))) := by
  refine g_Rd.of hl (by decide) (by first | rfl | simp [g_rfc, Value.category]) (Nat.le_of_ble_eq_true rfl) ?_
  intro X hX hXl hR
  obtain ⟨hnp, hns, hne, hpar, hhome, hact⟩ := id hB
  show g_Go E X _ h true 0 0 0 [some (.ref (A 7 x))] []
  refine g_aload_n hX dS_indexOf_0 rfl rfl (by first | rfl | exact g_rfr _) 1 rfl ?_
  refine g_ifnonnull (r := some (A 7 x)) hX dS_indexOf_1 8 4 (by decide) rfl (fun _ _ => ?_) (fun q => by cases q)
  refine g_aload_n hX dS_indexOf_8 rfl rfl (by first | rfl | exact g_rfr _) 9 rfl ?_
  refine g_get hX dS_indexOf_9 fS_116 (w_c hW 7 x (by decide) hx) rfl 12 rfl ?_
  exact g_iret hX rfl rfl dS_indexOf_12 ⟨rfl, rfl⟩ rfl (Nat.zero_le _) (Nat.zero_le _)
theorem c_S_indexOf {l : Launch} (hl : l.stackTraces = false) {E : g_E} {A : w_A} {S Sm : q_S} {h : g_H} (hW : w_W E A S Sm h) (hB : w_B S) {r : Option Nat} (hr : ∀ x, r = some x → x < q_ns S) : g_Rd l mS_indexOf 0 0 [va_rf (r.map (A 7))] E h (some (.int (q_oi r))) := by
  cases r with
  | none => exact c_S_indexOf_n hl hW hB
  | some x => exact c_S_indexOf_s hl hW hB (hr x rfl)
theorem q_find_cons {f : Nat → Bool} {x : Nat} {r : List Nat} : (x :: r).find? f = if f x = true then some x else r.find? f := by rw [List.find?_cons]; cases f x <;> rfl
set_option maxRecDepth 100000 in
set_option maxHeartbeats 4000000 in
theorem lp_S_sis {E : g_E} {A : w_A} {S Sm : q_S} {h : g_H} (hW : w_W E A S Sm h) (hB : w_B S) {X : g_X} (hX : g_ok E X mS_shapeInSlot) (hR : X.R = { frames := 3, cells := 0, slots := 0, locals := 40 }) {p : Nat} (hp : p < q_np S) {s : Int32} : ∀ (rest pre : List Nat), q_on S p = pre ++ rest →
    g_Go E X (true, fun r' h' => r' = .inr (some (va_rf ((rest.find? (fun k => decide (S.2 1 k = s))).map (A 7)))) ∧ h' = h) h true 0 0 13 [some (.ref (A 2 p)), some (.int s), some (.int (nI pre.length))] [] := by
  obtain ⟨hnp, hns, hne, hpar, hhome, hact⟩ := id hB
  have hln := q_on_len S p
  intro rest
  induction rest with
  | nil =>
    intro pre hxs
    have hl1 : (q_on S p).length = pre.length := by rw [hxs, List.append_nil]
    refine g_iload_n hX dS_shapeInSlot_13 rfl rfl 14 rfl ?_
    refine g_aload_n hX dS_shapeInSlot_14 rfl rfl (by first | rfl | exact g_rfr _) 15 rfl ?_
    refine g_get hX dS_shapeInSlot_15 fS_115 (w_c hW 2 p (by decide) hp) rfl 18 rfl ?_
    refine g_cF0r (wt := 1) hX (c_size hX.tr (w_l3 hW hB hp)) dS_shapeInSlot_18 (w_l3 hW hB hp).1 kS_71 (g_rm.of hR (by decide) (by decide)) (by first | exact Nat.zero_le _ | (rw [hR]; decide)) (by first | exact Nat.zero_le _ | (rw [hR]; decide)) (by first | decide | (simp [Value.category])) 23 rfl ?_
    refine g_icmp_ge hX dS_shapeInSlot_23 66 26 (by decide) rfl (fun c23 => ?_) (fun c23 => ?_)
    · refine g_null hX dS_shapeInSlot_66 67 rfl ?_
      exact g_aret hX rfl (Or.inl ⟨_, rfl⟩) (by first | rfl | exact g_rfr _) dS_shapeInSlot_67 ⟨rfl, rfl⟩ rfl (Nat.zero_le _) (Nat.zero_le _)
    · exact absurd (show nI (q_on S p).length ≤ nI pre.length by rw [hl1]; exact nI_le (Nat.le_refl _) (by omega)) c23
  | cons x rest ih =>
    intro pre hxs
    have hx : x < q_ns S := (q_mem_on (p := p) (by rw [hxs]; simp)).1
    have hl1 : pre.length < (q_on S p).length := by rw [hxs]; simp
    have h5 := ih (pre ++ [x]) (by rw [hxs]; simp)
    rw [q_snoc] at h5
    refine g_iload_n hX dS_shapeInSlot_13 rfl rfl 14 rfl ?_
    refine g_aload_n hX dS_shapeInSlot_14 rfl rfl (by first | rfl | exact g_rfr _) 15 rfl ?_
    refine g_get hX dS_shapeInSlot_15 fS_115 (w_c hW 2 p (by decide) hp) rfl 18 rfl ?_
    refine g_cF0r (wt := 1) hX (c_size hX.tr (w_l3 hW hB hp)) dS_shapeInSlot_18 (w_l3 hW hB hp).1 kS_71 (g_rm.of hR (by decide) (by decide)) (by first | exact Nat.zero_le _ | (rw [hR]; decide)) (by first | exact Nat.zero_le _ | (rw [hR]; decide)) (by first | decide | (simp [Value.category])) 23 rfl ?_
    refine g_icmp_ge hX dS_shapeInSlot_23 66 26 (by decide) rfl (fun c23 => ?_) (fun c23 => ?_)
    · exact absurd c23 (nI_ge hl1 (by omega))
    · refine g_aload_n hX dS_shapeInSlot_26 rfl rfl (by first | rfl | exact g_rfr _) 27 rfl ?_
      refine g_get hX dS_shapeInSlot_27 fS_115 (w_c hW 2 p (by decide) hp) rfl 30 rfl ?_
      refine g_iload_n hX dS_shapeInSlot_30 rfl rfl 31 rfl ?_
      refine g_cF1r (wt := 0) hX (c_get hX.tr (w_l3 hW hB hp) hxs) dS_shapeInSlot_31 (w_l3 hW hB hp).1 kS_195 (g_rm.of hR (by decide) (by decide)) (by first | exact Nat.zero_le _ | (rw [hR]; decide)) (by first | exact Nat.zero_le _ | (rw [hR]; decide)) (by first | decide | (simp [Value.category])) 36 rfl ?_
      refine g_cast (ci := 2) hX dS_shapeInSlot_36 rfl cS_110 (w_c hW 7 x (by decide) hx) 39 rfl ?_
      refine g_get hX dS_shapeInSlot_39 fS_157 (w_c hW 7 x (by decide) hx) rfl 42 rfl ?_
      refine g_iload_n hX dS_shapeInSlot_42 rfl rfl 43 rfl ?_
      refine g_icmp_ne hX dS_shapeInSlot_43 60 46 (by decide) rfl (fun c43 => ?_) (fun c43 => ?_)
      · refine g_iinc hX (L' := [_, _, _]) dS_shapeInSlot_60 rfl (q_inc _) rfl 63 rfl ?_
        refine g_goto hX dS_shapeInSlot_63 13 (by decide) ?_
        rw [q_find_cons, if_neg (by simpa using c43)]
        exact h5
      · refine g_aload_n hX dS_shapeInSlot_46 rfl rfl (by first | rfl | exact g_rfr _) 47 rfl ?_
        refine g_get hX dS_shapeInSlot_47 fS_115 (w_c hW 2 p (by decide) hp) rfl 50 rfl ?_
        refine g_iload_n hX dS_shapeInSlot_50 rfl rfl 51 rfl ?_
        refine g_cF1r (wt := 0) hX (c_get hX.tr (w_l3 hW hB hp) hxs) dS_shapeInSlot_51 (w_l3 hW hB hp).1 kS_195 (g_rm.of hR (by decide) (by decide)) (by first | exact Nat.zero_le _ | (rw [hR]; decide)) (by first | exact Nat.zero_le _ | (rw [hR]; decide)) (by first | decide | (simp [Value.category])) 56 rfl ?_
        refine g_cast (ci := 2) hX dS_shapeInSlot_56 rfl cS_110 (w_c hW 7 x (by decide) hx) 59 rfl ?_
        exact g_aret hX rfl (Or.inl ⟨_, rfl⟩) (by first | rfl | exact g_rfr _) dS_shapeInSlot_59 ⟨by rw [q_find_cons, if_pos (decide_eq_true c43)]; rfl, rfl⟩ rfl (Nat.zero_le _) (Nat.zero_le _)
set_option maxRecDepth 100000 in
set_option maxHeartbeats 4000000 in
theorem c_S_sis_n {l : Launch} (hl : l.stackTraces = false) {E : g_E} {A : w_A} {S Sm : q_S} {h : g_H} (hW : w_W E A S Sm h) (hB : w_B S) (s : Int32)  : g_Rd l mS_shapeInSlot 3 40 [.null, .int s] E h (some .null) := by
  refine g_Rd.of hl (by decide) (by first | rfl | simp [g_rfc, Value.category]) (Nat.le_of_ble_eq_true rfl) ?_
  intro X hX hXl hR
  obtain ⟨hnp, hns, hne, hpar, hhome, hact⟩ := id hB
  show g_Go E X _ h true 0 0 0 [some (.null), some (.int s), none] []
  refine g_aload_n hX dS_shapeInSlot_0 rfl rfl (by first | rfl | exact g_rfr _) 1 rfl ?_
  refine g_ifnull (r := none) hX dS_shapeInSlot_1 9 4 (by decide) rfl (fun _ => ?_) (fun a q => by cases q)
  refine g_null hX dS_shapeInSlot_9 10 rfl ?_
  exact g_aret hX rfl (Or.inl ⟨_, rfl⟩) (by first | rfl | exact g_rfr _) dS_shapeInSlot_10 ⟨rfl, rfl⟩ rfl (Nat.zero_le _) (Nat.zero_le _)
set_option maxRecDepth 100000 in
set_option maxHeartbeats 4000000 in
theorem c_S_sis_m {l : Launch} (hl : l.stackTraces = false) {E : g_E} {A : w_A} {S Sm : q_S} {h : g_H} (hW : w_W E A S Sm h) (hB : w_B S) {p : Nat} (hp : p < q_np S)  : g_Rd l mS_shapeInSlot 3 40 [.ref (A 2 p), .int (-1)] E h (some .null) := by
  refine g_Rd.of hl (by decide) (by first | rfl | simp [g_rfc, Value.category]) (Nat.le_of_ble_eq_true rfl) ?_
  intro X hX hXl hR
  obtain ⟨hnp, hns, hne, hpar, hhome, hact⟩ := id hB
  show g_Go E X _ h true 0 0 0 [some (.ref (A 2 p)), some (.int (-1)), none] []
  refine g_aload_n hX dS_shapeInSlot_0 rfl rfl (by first | rfl | exact g_rfr _) 1 rfl ?_
  refine g_ifnull (r := some (A 2 p)) hX dS_shapeInSlot_1 9 4 (by decide) rfl (fun q => by cases q) (fun _ _ => ?_)
  refine g_iload_n hX dS_shapeInSlot_4 rfl rfl 5 rfl ?_
  refine g_iconst hX dS_shapeInSlot_5 (v := (-1)) (by decide) 6 rfl ?_
  refine g_icmp_ne hX dS_shapeInSlot_6 11 9 (by decide) rfl (fun c6 => ?_) (fun c6 => ?_)
  · exact absurd rfl c6
  · refine g_null hX dS_shapeInSlot_9 10 rfl ?_
    exact g_aret hX rfl (Or.inl ⟨_, rfl⟩) (by first | rfl | exact g_rfr _) dS_shapeInSlot_10 ⟨rfl, rfl⟩ rfl (Nat.zero_le _) (Nat.zero_le _)
set_option maxRecDepth 100000 in
set_option maxHeartbeats 4000000 in
theorem c_S_sis {l : Launch} (hl : l.stackTraces = false) {E : g_E} {A : w_A} {S Sm : q_S} {h : g_H} (hW : w_W E A S Sm h) (hB : w_B S) {p : Nat} (hp : p < q_np S) {s : Int32} (hs : ¬ s = -1) : g_Rd l mS_shapeInSlot 3 40 [.ref (A 2 p), .int s] E h (some (va_rf ((q_slotted S p s).map (A 7)))) := by
  refine g_Rd.of hl (by decide) (by first | rfl | simp [g_rfc, Value.category]) (Nat.le_of_ble_eq_true rfl) ?_
  intro X hX hXl hR
  obtain ⟨hnp, hns, hne, hpar, hhome, hact⟩ := id hB
  show g_Go E X _ h true 0 0 0 [some (.ref (A 2 p)), some (.int s), none] []
  refine g_aload_n hX dS_shapeInSlot_0 rfl rfl (by first | rfl | exact g_rfr _) 1 rfl ?_
  refine g_ifnull (r := some (A 2 p)) hX dS_shapeInSlot_1 9 4 (by decide) rfl (fun q => by cases q) (fun _ _ => ?_)
  refine g_iload_n hX dS_shapeInSlot_4 rfl rfl 5 rfl ?_
  refine g_iconst hX dS_shapeInSlot_5 (v := (-1)) (by decide) 6 rfl ?_
  refine g_icmp_ne hX dS_shapeInSlot_6 11 9 (by decide) rfl (fun c6 => ?_) (fun c6 => ?_)
  · refine g_iconst hX dS_shapeInSlot_11 (v := 0) (by decide) 12 rfl ?_
    refine g_istore_n hX (L' := [_, _, _]) dS_shapeInSlot_12 rfl (by decide) rfl 13 rfl ?_
    rw [← q_slotted_on]
    have hlp := lp_S_sis hW hB hX hR hp (s := s) (q_on S p) [] rfl
    exact hlp
  · exact absurd c6 hs
set_option maxRecDepth 100000 in
set_option maxHeartbeats 4000000 in
theorem lp_S_source {E : g_E} {A : w_A} {S Sm : q_S} {h : g_H} (hW : w_W E A S Sm h) (hB : w_B S) {X : g_X} (hX : g_ok E X mS_source) (hR : X.R = { frames := 4, cells := 0, slots := 0, locals := 54 }) {j pr : Nat} (hj : j < q_ns S) (hpr : pr < 7) (hs : ¬ S.2 1 j = -1) : ∀ (r : Nat) (po : Option Nat) (v3 : Option Value), (∀ p, po = some p → p < r ∧ p < q_np S) →
    g_Go E X (true, fun r' h' => r' = .inr (some (va_rf ((q_src S j pr r po).map (A 7)))) ∧ h' = h) h true 0 0 19 [some (.ref (A 7 j)), some (.int (nI pr)), some (va_rf (po.map (A 2))), v3] [] := by
  obtain ⟨hnp, hns, hne, hpar, hhome, hact⟩ := id hB
  intro r
  induction r with
  | zero =>
    intro po v3 hp
    cases po with
    | some p => exact absurd (hp p rfl).1 (Nat.not_lt_zero _)
    | none =>
      rw [q_rfn]
      refine g_aload_n hX dS_source_19 rfl rfl (by first | rfl | exact g_rfr _) 20 rfl ?_
      refine g_ifnull (r := none) hX dS_source_20 55 23 (by decide) rfl (fun _ => ?_) (fun a q => by cases q)
      refine g_null hX dS_source_55 56 rfl ?_
      exact g_aret hX rfl (Or.inl ⟨_, rfl⟩) (by first | rfl | exact g_rfr _) dS_source_56 ⟨rfl, rfl⟩ rfl (Nat.zero_le _) (Nat.zero_le _)
  | succ r ih =>
    intro po v3 hp0
    cases po with
    | none =>
      rw [q_rfn]
      refine g_aload_n hX dS_source_19 rfl rfl (by first | rfl | exact g_rfr _) 20 rfl ?_
      refine g_ifnull (r := none) hX dS_source_20 55 23 (by decide) rfl (fun _ => ?_) (fun a q => by cases q)
      refine g_null hX dS_source_55 56 rfl ?_
      exact g_aret hX rfl (Or.inl ⟨_, rfl⟩) (by first | rfl | exact g_rfr _) dS_source_56 ⟨rfl, rfl⟩ rfl (Nat.zero_le _) (Nat.zero_le _)
    | some p =>
      obtain ⟨hpr1, hp⟩ := hp0 p rfl
      have hq : ∀ q, q_par S p = some q → q < r ∧ q < q_np S := fun q e => by
        have := q_par_lt (hpar p hp) e
        omega
      show g_Go E X _ h true 0 0 19 [some (.ref (A 7 j)), some (.int (nI pr)), some (.ref (A 2 p)), v3] []
      cases hsl : q_slotted S p (S.2 1 j) with
      | none =>
        rw [q_src_none hsl]
        refine g_aload_n hX dS_source_19 rfl rfl (by first | rfl | exact g_rfr _) 20 rfl ?_
        refine g_ifnull (r := some (A 2 p)) hX dS_source_20 55 23 (by decide) rfl (fun q => by cases q) (fun _ _ => ?_)
        refine g_aload_n hX dS_source_23 rfl rfl (by first | rfl | exact g_rfr _) 24 rfl ?_
        refine g_aload_n hX dS_source_24 rfl rfl (by first | rfl | exact g_rfr _) 25 rfl ?_
        refine g_get hX dS_source_25 fS_157 (w_c hW 7 j (by decide) hj) rfl 28 rfl ?_
        refine g_cS2r (wt := 0) hX ((show g_Rd X.l mS_shapeInSlot 3 40 [.ref (A 2 p), .int (S.2 1 j)] E h (some (.null)) by have h9 := c_S_sis hX.tr hW hB hp hs; rw [hsl] at h9; exact h9)) dS_source_28 kS_99 (g_rm.of hR (by decide) (by decide)) (by first | exact Nat.zero_le _ | (rw [hR]; decide)) (by first | exact Nat.zero_le _ | (rw [hR]; decide)) (by first | decide | (simp [Value.category])) 31 rfl ?_
        refine g_astore_n hX (L' := [_, _, _, _]) dS_source_31 rfl (by decide) (by first | rfl | exact g_rfr _) rfl 32 rfl ?_
        refine g_aload_n hX dS_source_32 rfl rfl (by first | rfl | exact g_rfr _) 33 rfl ?_
        refine g_ifnull (r := none) hX dS_source_33 47 36 (by decide) rfl (fun _ => ?_) (fun a q => by cases q)
        refine g_aload_n hX dS_source_47 rfl rfl (by first | rfl | exact g_rfr _) 48 rfl ?_
        refine g_get hX dS_source_48 fS_154 (w_c hW 2 p (by decide) hp) rfl 51 rfl ?_
        refine g_astore_n hX (L' := [_, _, _, _]) dS_source_51 rfl (by decide) (by first | rfl | exact g_rfr _) rfl 52 rfl ?_
        refine g_goto hX dS_source_52 19 (by decide) ?_
        exact ih (q_par S p) _ hq
      | some x =>
        have hx : x < q_ns S := q_slotted_lt hsl
        by_cases h0 : S.2 2 (7 * x + pr) = 0
        · rw [q_src_zero hsl h0]
          refine g_aload_n hX dS_source_19 rfl rfl (by first | rfl | exact g_rfr _) 20 rfl ?_
          refine g_ifnull (r := some (A 2 p)) hX dS_source_20 55 23 (by decide) rfl (fun q => by cases q) (fun _ _ => ?_)
          refine g_aload_n hX dS_source_23 rfl rfl (by first | rfl | exact g_rfr _) 24 rfl ?_
          refine g_aload_n hX dS_source_24 rfl rfl (by first | rfl | exact g_rfr _) 25 rfl ?_
          refine g_get hX dS_source_25 fS_157 (w_c hW 7 j (by decide) hj) rfl 28 rfl ?_
          refine g_cS2r (wt := 0) hX ((show g_Rd X.l mS_shapeInSlot 3 40 [.ref (A 2 p), .int (S.2 1 j)] E h (some (.ref (A 7 x))) by have h9 := c_S_sis hX.tr hW hB hp hs; rw [hsl] at h9; exact h9)) dS_source_28 kS_99 (g_rm.of hR (by decide) (by decide)) (by first | exact Nat.zero_le _ | (rw [hR]; decide)) (by first | exact Nat.zero_le _ | (rw [hR]; decide)) (by first | decide | (simp [Value.category])) 31 rfl ?_
          refine g_astore_n hX (L' := [_, _, _, _]) dS_source_31 rfl (by decide) (by first | rfl | exact g_rfr _) rfl 32 rfl ?_
          refine g_aload_n hX dS_source_32 rfl rfl (by first | rfl | exact g_rfr _) 33 rfl ?_
          refine g_ifnull (r := some (A 7 x)) hX dS_source_33 47 36 (by decide) rfl (fun q => by cases q) (fun _ _ => ?_)
          refine g_aload_n hX dS_source_36 rfl rfl (by first | rfl | exact g_rfr _) 37 rfl ?_
          refine g_get hX dS_source_37 fS_127 (w_c hW 7 x (by decide) hx) rfl 40 rfl ?_
          refine g_iload_n hX dS_source_40 rfl rfl 41 rfl ?_
          refine g_zald hX dS_source_41 (w_c hW 8 x (by decide) hx) (g_ix.nat hpr (by decide)) 42 rfl ?_
          rw [if_pos hpr]
          refine g_if_eq hX dS_source_42 47 45 (by decide) rfl (fun c42 => ?_) (fun c42 => ?_)
          · refine g_aload_n hX dS_source_47 rfl rfl (by first | rfl | exact g_rfr _) 48 rfl ?_
            refine g_get hX dS_source_48 fS_154 (w_c hW 2 p (by decide) hp) rfl 51 rfl ?_
            refine g_astore_n hX (L' := [_, _, _, _]) dS_source_51 rfl (by decide) (by first | rfl | exact g_rfr _) rfl 52 rfl ?_
            refine g_goto hX dS_source_52 19 (by decide) ?_
            exact ih (q_par S p) _ hq
          · exact absurd h0 c42
        · rw [q_src_hit hsl h0]
          refine g_aload_n hX dS_source_19 rfl rfl (by first | rfl | exact g_rfr _) 20 rfl ?_
          refine g_ifnull (r := some (A 2 p)) hX dS_source_20 55 23 (by decide) rfl (fun q => by cases q) (fun _ _ => ?_)
          refine g_aload_n hX dS_source_23 rfl rfl (by first | rfl | exact g_rfr _) 24 rfl ?_
          refine g_aload_n hX dS_source_24 rfl rfl (by first | rfl | exact g_rfr _) 25 rfl ?_
          refine g_get hX dS_source_25 fS_157 (w_c hW 7 j (by decide) hj) rfl 28 rfl ?_
          refine g_cS2r (wt := 0) hX ((show g_Rd X.l mS_shapeInSlot 3 40 [.ref (A 2 p), .int (S.2 1 j)] E h (some (.ref (A 7 x))) by have h9 := c_S_sis hX.tr hW hB hp hs; rw [hsl] at h9; exact h9)) dS_source_28 kS_99 (g_rm.of hR (by decide) (by decide)) (by first | exact Nat.zero_le _ | (rw [hR]; decide)) (by first | exact Nat.zero_le _ | (rw [hR]; decide)) (by first | decide | (simp [Value.category])) 31 rfl ?_
          refine g_astore_n hX (L' := [_, _, _, _]) dS_source_31 rfl (by decide) (by first | rfl | exact g_rfr _) rfl 32 rfl ?_
          refine g_aload_n hX dS_source_32 rfl rfl (by first | rfl | exact g_rfr _) 33 rfl ?_
          refine g_ifnull (r := some (A 7 x)) hX dS_source_33 47 36 (by decide) rfl (fun q => by cases q) (fun _ _ => ?_)
          refine g_aload_n hX dS_source_36 rfl rfl (by first | rfl | exact g_rfr _) 37 rfl ?_
          refine g_get hX dS_source_37 fS_127 (w_c hW 7 x (by decide) hx) rfl 40 rfl ?_
          refine g_iload_n hX dS_source_40 rfl rfl 41 rfl ?_
          refine g_zald hX dS_source_41 (w_c hW 8 x (by decide) hx) (g_ix.nat hpr (by decide)) 42 rfl ?_
          rw [if_pos hpr]
          refine g_if_eq hX dS_source_42 47 45 (by decide) rfl (fun c42 => ?_) (fun c42 => ?_)
          · exact absurd c42 h0
          · refine g_aload_n hX dS_source_45 rfl rfl (by first | rfl | exact g_rfr _) 46 rfl ?_
            exact g_aret hX rfl (Or.inl ⟨_, rfl⟩) (by first | rfl | exact g_rfr _) dS_source_46 ⟨rfl, rfl⟩ rfl (Nat.zero_le _) (Nat.zero_le _)
set_option maxRecDepth 100000 in
set_option maxHeartbeats 4000000 in
theorem lp_S_source_m {E : g_E} {A : w_A} {S Sm : q_S} {h : g_H} (hW : w_W E A S Sm h) (hB : w_B S) {X : g_X} (hX : g_ok E X mS_source) (hR : X.R = { frames := 4, cells := 0, slots := 0, locals := 54 }) {j pr : Nat} (hj : j < q_ns S) (hs : S.2 1 j = -1) : ∀ (r : Nat) (po : Option Nat) (v3 : Option Value), (∀ p, po = some p → p < r ∧ p < q_np S) →
    g_Go E X (true, fun r' h' => r' = .inr (some .null) ∧ h' = h) h true 0 0 19 [some (.ref (A 7 j)), some (.int (nI pr)), some (va_rf (po.map (A 2))), v3] [] := by
  obtain ⟨hnp, hns, hne, hpar, hhome, hact⟩ := id hB
  intro r
  induction r with
  | zero =>
    intro po v3 hp
    cases po with
    | some p => exact absurd (hp p rfl).1 (Nat.not_lt_zero _)
    | none =>
      rw [q_rfn]
      refine g_aload_n hX dS_source_19 rfl rfl (by first | rfl | exact g_rfr _) 20 rfl ?_
      refine g_ifnull (r := none) hX dS_source_20 55 23 (by decide) rfl (fun _ => ?_) (fun a q => by cases q)
      refine g_null hX dS_source_55 56 rfl ?_
      exact g_aret hX rfl (Or.inl ⟨_, rfl⟩) (by first | rfl | exact g_rfr _) dS_source_56 ⟨rfl, rfl⟩ rfl (Nat.zero_le _) (Nat.zero_le _)
  | succ r ih =>
    intro po v3 hp0
    cases po with
    | none =>
      rw [q_rfn]
      refine g_aload_n hX dS_source_19 rfl rfl (by first | rfl | exact g_rfr _) 20 rfl ?_
      refine g_ifnull (r := none) hX dS_source_20 55 23 (by decide) rfl (fun _ => ?_) (fun a q => by cases q)
      refine g_null hX dS_source_55 56 rfl ?_
      exact g_aret hX rfl (Or.inl ⟨_, rfl⟩) (by first | rfl | exact g_rfr _) dS_source_56 ⟨rfl, rfl⟩ rfl (Nat.zero_le _) (Nat.zero_le _)
    | some p =>
      obtain ⟨hpr1, hp⟩ := hp0 p rfl
      have hq : ∀ q, q_par S p = some q → q < r ∧ q < q_np S := fun q e => by
        have := q_par_lt (hpar p hp) e
        omega
      show g_Go E X _ h true 0 0 19 [some (.ref (A 7 j)), some (.int (nI pr)), some (.ref (A 2 p)), v3] []
      refine g_aload_n hX dS_source_19 rfl rfl (by first | rfl | exact g_rfr _) 20 rfl ?_
      refine g_ifnull (r := some (A 2 p)) hX dS_source_20 55 23 (by decide) rfl (fun q => by cases q) (fun _ _ => ?_)
      refine g_aload_n hX dS_source_23 rfl rfl (by first | rfl | exact g_rfr _) 24 rfl ?_
      refine g_aload_n hX dS_source_24 rfl rfl (by first | rfl | exact g_rfr _) 25 rfl ?_
      refine g_get hX dS_source_25 fS_157 (w_c hW 7 j (by decide) hj) rfl 28 rfl ?_
      refine g_cS2r (wt := 0) hX ((show g_Rd X.l mS_shapeInSlot 3 40 [.ref (A 2 p), .int (S.2 1 j)] E h (some .null) by rw [hs]; exact c_S_sis_m hX.tr hW hB hp)) dS_source_28 kS_99 (g_rm.of hR (by decide) (by decide)) (by first | exact Nat.zero_le _ | (rw [hR]; decide)) (by first | exact Nat.zero_le _ | (rw [hR]; decide)) (by first | decide | (simp [Value.category])) 31 rfl ?_
      refine g_astore_n hX (L' := [_, _, _, _]) dS_source_31 rfl (by decide) (by first | rfl | exact g_rfr _) rfl 32 rfl ?_
      refine g_aload_n hX dS_source_32 rfl rfl (by first | rfl | exact g_rfr _) 33 rfl ?_
      refine g_ifnull (r := none) hX dS_source_33 47 36 (by decide) rfl (fun _ => ?_) (fun a q => by cases q)
      refine g_aload_n hX dS_source_47 rfl rfl (by first | rfl | exact g_rfr _) 48 rfl ?_
      refine g_get hX dS_source_48 fS_154 (w_c hW 2 p (by decide) hp) rfl 51 rfl ?_
      refine g_astore_n hX (L' := [_, _, _, _]) dS_source_51 rfl (by decide) (by first | rfl | exact g_rfr _) rfl 52 rfl ?_
      refine g_goto hX dS_source_52 19 (by decide) ?_
      exact ih (q_par S p) _ hq
set_option maxRecDepth 100000 in
set_option maxHeartbeats 4000000 in
theorem c_S_source {l : Launch} (hl : l.stackTraces = false) {E : g_E} {A : w_A} {S Sm : q_S} {h : g_H} (hW : w_W E A S Sm h) (hB : w_B S) {j pr : Nat} (hj : j < q_ns S) (hpr : pr < 7) (hC : w_C S) : g_Rd l mS_source 4 54 [.ref (A 7 j), .int (nI pr)] E h (some (va_rf ((q_source S j pr).map (A 7)))) := by
  refine g_Rd.of hl (by decide) (by first | rfl | simp [g_rfc, Value.category]) (Nat.le_of_ble_eq_true rfl) ?_
  intro X hX hXl hR
  obtain ⟨hnp, hns, hne, hpar, hhome, hact⟩ := id hB
  have hq : ∀ p, q_par S (q_home S j) = some p → p < 12 ∧ p < q_np S := fun p e => by
    have h1 := (hhome j hj).1
    have := q_par_lt (hpar _ h1) e
    omega
  show g_Go E X _ h true 0 0 0 [some (.ref (A 7 j)), some (.int (nI pr)), none, none] []
  refine g_aload_n hX dS_source_0 rfl rfl (by first | rfl | exact g_rfr _) 1 rfl ?_
  refine g_get hX dS_source_1 fS_127 (w_c hW 7 j (by decide) hj) rfl 4 rfl ?_
  refine g_iload_n hX dS_source_4 rfl rfl 5 rfl ?_
  refine g_zald hX dS_source_5 (w_c hW 8 j (by decide) hj) (g_ix.nat hpr (by decide)) 6 rfl ?_
  rw [if_pos hpr]
  refine g_if_eq hX dS_source_6 11 9 (by decide) rfl (fun c6 => ?_) (fun c6 => ?_)
  · refine g_aload_n hX dS_source_11 rfl rfl (by first | rfl | exact g_rfr _) 12 rfl ?_
    refine g_get hX dS_source_12 fS_150 (w_c hW 7 j (by decide) hj) rfl 15 rfl ?_
    refine g_get hX dS_source_15 fS_154 (w_c hW 2 (q_home S j) (by decide) (hhome j hj).1) rfl 18 rfl ?_
    refine g_astore_n hX (L' := [_, _, _, _]) dS_source_18 rfl (by decide) (by first | rfl | exact g_rfr _) rfl 19 rfl ?_
    unfold q_source
    rw [if_pos c6]
    rcases hC.2.1 j hj with hs | hs
    · rw [if_pos (show q_slot S j < 0 by rw [show q_slot S j = -1 from hs]; decide)]
      exact lp_S_source_m hW hB hX hR hj hs 12 _ none hq
    · rw [if_neg (show ¬ q_slot S j < 0 from hs)]
      exact lp_S_source hW hB hX hR hj hpr (fun q => hs (by rw [q]; decide)) 12 _ none hq
  · refine g_aload_n hX dS_source_9 rfl rfl (by first | rfl | exact g_rfr _) 10 rfl ?_
    exact g_aret hX rfl (Or.inl ⟨_, rfl⟩) (by first | rfl | exact g_rfr _) dS_source_10 ⟨by unfold q_source; rw [if_neg c6]; rfl, rfl⟩ rfl (Nat.zero_le _) (Nat.zero_le _)
set_option maxRecDepth 100000 in
set_option maxHeartbeats 4000000 in
theorem c_S_resolve_n {l : Launch} (hl : l.stackTraces = false) {E : g_E} {A : w_A} {S Sm : q_S} {h : g_H} (hW : w_W E A S Sm h) (hB : w_B S) {j pr : Nat} (hj : j < q_ns S) (hpr : pr < 7) (hC : w_C S) (hsr : q_source S j pr = none) : g_Rd l mS_resolve 5 69 [.ref (A 0 0), .ref (A 7 j), .int (nI pr)] E h (some (.int (S.2 4 pr))) := by
  refine g_Rd.of hl (by decide) (by first | rfl | simp [g_rfc, Value.category]) (Nat.le_of_ble_eq_true rfl) ?_
  intro X hX hXl hR
  obtain ⟨hnp, hns, hne, hpar, hhome, hact⟩ := id hB
  show g_Go E X _ h true 0 0 0 [some (.ref (A 0 0)), some (.ref (A 7 j)), some (.int (nI pr)), none] []
  refine g_aload_n hX dS_resolve_0 rfl rfl (by first | rfl | exact g_rfr _) 1 rfl ?_
  refine g_iload_n hX dS_resolve_1 rfl rfl 2 rfl ?_
  refine g_cS2r (wt := 0) hX ((show g_Rd X.l mS_source 4 54 [.ref (A 7 j), .int (nI pr)] E h (some (.null)) by have h9 := c_S_source hX.tr hW hB hj hpr hC; rw [hsr] at h9; exact h9)) dS_resolve_2 kS_142 (g_rm.of hR (by decide) (by decide)) (by first | exact Nat.zero_le _ | (rw [hR]; decide)) (by first | exact Nat.zero_le _ | (rw [hR]; decide)) (by first | decide | (simp [Value.category])) 5 rfl ?_
  refine g_astore_n hX (L' := [_, _, _, _]) dS_resolve_5 rfl (by decide) (by first | rfl | exact g_rfr _) rfl 6 rfl ?_
  refine g_aload_n hX dS_resolve_6 rfl rfl (by first | rfl | exact g_rfr _) 7 rfl ?_
  refine g_ifnonnull (r := none) hX dS_resolve_7 19 10 (by decide) rfl (fun a q => by cases q) (fun _ => ?_)
  refine g_aload_n hX dS_resolve_10 rfl rfl (by first | rfl | exact g_rfr _) 11 rfl ?_
  refine g_get hX dS_resolve_11 fS_10 (w_s hW) rfl 14 rfl ?_
  refine g_iload_n hX dS_resolve_14 rfl rfl 15 rfl ?_
  refine g_iald hX dS_resolve_15 (w_c hW 1 0 (by decide) ⟨rfl, by decide⟩) (g_ix.nat hpr (by decide)) 16 rfl ?_
  refine g_goto hX dS_resolve_16 25 (by decide) ?_
  exact g_iret hX rfl rfl dS_resolve_25 ⟨rfl, rfl⟩ rfl (Nat.zero_le _) (Nat.zero_le _)
set_option maxRecDepth 100000 in
set_option maxHeartbeats 4000000 in
theorem c_S_resolve_s {l : Launch} (hl : l.stackTraces = false) {E : g_E} {A : w_A} {S Sm : q_S} {h : g_H} (hW : w_W E A S Sm h) (hB : w_B S) {j pr : Nat} (hj : j < q_ns S) (hpr : pr < 7) (hC : w_C S) {x : Nat} (hsr : q_source S j pr = some x) : g_Rd l mS_resolve 5 69 [.ref (A 0 0), .ref (A 7 j), .int (nI pr)] E h (some (.int (S.2 3 (7 * x + pr)))) := by
  refine g_Rd.of hl (by decide) (by first | rfl | simp [g_rfc, Value.category]) (Nat.le_of_ble_eq_true rfl) ?_
  intro X hX hXl hR
  obtain ⟨hnp, hns, hne, hpar, hhome, hact⟩ := id hB
  have hx : x < q_ns S := q_source_lt hj hsr
  show g_Go E X _ h true 0 0 0 [some (.ref (A 0 0)), some (.ref (A 7 j)), some (.int (nI pr)), none] []
  refine g_aload_n hX dS_resolve_0 rfl rfl (by first | rfl | exact g_rfr _) 1 rfl ?_
  refine g_iload_n hX dS_resolve_1 rfl rfl 2 rfl ?_
  refine g_cS2r (wt := 0) hX ((show g_Rd X.l mS_source 4 54 [.ref (A 7 j), .int (nI pr)] E h (some (.ref (A 7 x))) by have h9 := c_S_source hX.tr hW hB hj hpr hC; rw [hsr] at h9; exact h9)) dS_resolve_2 kS_142 (g_rm.of hR (by decide) (by decide)) (by first | exact Nat.zero_le _ | (rw [hR]; decide)) (by first | exact Nat.zero_le _ | (rw [hR]; decide)) (by first | decide | (simp [Value.category])) 5 rfl ?_
  refine g_astore_n hX (L' := [_, _, _, _]) dS_resolve_5 rfl (by decide) (by first | rfl | exact g_rfr _) rfl 6 rfl ?_
  refine g_aload_n hX dS_resolve_6 rfl rfl (by first | rfl | exact g_rfr _) 7 rfl ?_
  refine g_ifnonnull (r := some (A 7 x)) hX dS_resolve_7 19 10 (by decide) rfl (fun _ _ => ?_) (fun q => by cases q)
  refine g_aload_n hX dS_resolve_19 rfl rfl (by first | rfl | exact g_rfr _) 20 rfl ?_
  refine g_get hX dS_resolve_20 fS_131 (w_c hW 7 x (by decide) hx) rfl 23 rfl ?_
  refine g_iload_n hX dS_resolve_23 rfl rfl 24 rfl ?_
  refine g_iald hX dS_resolve_24 (w_c hW 9 x (by decide) hx) (g_ix.nat hpr (by decide)) 25 rfl ?_
  rw [if_pos hpr]
  exact g_iret hX rfl rfl dS_resolve_25 ⟨rfl, rfl⟩ rfl (Nat.zero_le _) (Nat.zero_le _)
theorem c_S_resolve {l : Launch} (hl : l.stackTraces = false) {E : g_E} {A : w_A} {S Sm : q_S} {h : g_H} (hW : w_W E A S Sm h) (hB : w_B S) (hC : w_C S) {j pr : Nat} (hj : j < q_ns S) (hpr : pr < 7) : g_Rd l mS_resolve 5 69 [.ref (A 0 0), .ref (A 7 j), .int (nI pr)] E h (some (.int (q_value S j pr))) := by
  unfold q_value
  cases hsr : q_source S j pr with
  | none => exact c_S_resolve_n hl hW hB hj hpr hC hsr
  | some x => exact c_S_resolve_s hl hW hB hj hpr hC hsr
