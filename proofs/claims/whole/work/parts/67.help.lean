/-! the law's own methods -/
theorem g_tb_hit {own : String} {k pc : Nat} {x : ExceptionTableEntry} {t : List ExceptionTableEntry} {nm : String} {r : List String} (hc : covers x pc = true) (hh : g_hit own k x nm true) : g_tbw own k pc (x :: t) (nm :: r) x.handlerPc := by
  unfold g_tbw
  exact ⟨hc, Or.inl ⟨hh, rfl⟩⟩
theorem g_tb_no {own : String} {k pc hp : Nat} {x : ExceptionTableEntry} {t : List ExceptionTableEntry} {nm : String} {r : List String} (hc : covers x pc = true) (hh : g_hit own k x nm false) (ht : g_tbw own k pc t r hp) : g_tbw own k pc (x :: t) (nm :: r) hp := by
  unfold g_tbw
  exact ⟨hc, Or.inr ⟨hh, ht⟩⟩
theorem g_swapL {E : g_E} {X : g_X} {P : g_P} {h : g_H} {z : Bool} {cs ss pc : Nat} {L : List (Option Value)} {st : List Value} {a n : Nat} {f g : Nat → Int64} (hfg : ∀ j, j < n → f j = g j) (kk : g_Go E X P (g_set h a (.inl (E.D.1 102, n, .inr (.inl g)))) z cs ss pc L st) : g_Go E X P (g_set h a (.inl (E.D.1 102, n, .inr (.inl f)))) z cs ss pc L st := by
  intro H locs ls hV hB hlo hL hz
  refine kk H locs ls (fun b e hb => ?_) hB hlo hL hz
  by_cases hba : b = a
  · subst hba
    rw [g_set_same] at hb
    cases hb
    have h1 := hV b _ (g_set_same _ _ _)
    have e1 : vp_cell (E.D.1 102) (n, .inr (.inl g)) = vp_cell (E.D.1 102) (n, .inr (.inl f)) := by
      rw [vp_cell_l, vp_cell_l]
      unfold arrV
      congr 2
      funext j
      show Value.long (g j.val) = Value.long (f j.val)
      rw [hfg j.val j.isLt]
    show H[b]? = some (vp_cell (E.D.1 102) (n, .inr (.inl g)))
    rw [e1]
    exact h1
  · exact hV b e ((g_set_ne _ _ hba).trans ((g_set_ne h _ hba).symm.trans hb))
theorem g_Rd.w {l : Launch} {M : g_M} {fr lo : Nat} {as : List Value} {E : g_E} {h : g_H} {v : Option Value} {A : w_A} {S Sm : q_S} (hc : g_Rd l M fr lo as E h v) (hW : w_W E A S Sm h) : g_Ct l M fr lo 0 0 as E h (false, fun r h' => r = .inr v ∧ ∃ B, w_same A B ∧ w_W E B S Sm h') := by
  refine MetFree.mono hc (fun _ _ q => q) (fun _ _ _ _ _ q => q) (fun a s o t _ hq => ?_)
  obtain ⟨⟨r, h', ⟨h1, h2⟩, h3⟩, h4, L, h5, h6, -⟩ := hq
  exact ⟨⟨r, h', ⟨h1, A, ⟨rfl, rfl, rfl⟩, by rw [h2]; exact hW⟩, h3⟩, h4, L, h5, h6, fun q => by cases q⟩
theorem g_Ct.w {l : Launch} {M : g_M} {fr lo mc ms : Nat} {as : List Value} {E : g_E} {h : g_H} {v : Option Value} {A : w_A} {S Sm : q_S} (hc : g_Ct l M fr lo mc ms as E h (false, fun r h' => r = .inr v ∧ w_W E A S Sm h')) : g_Ct l M fr lo mc ms as E h (false, fun r h' => r = .inr v ∧ ∃ B, w_same A B ∧ w_W E B S Sm h') := hc.imp (fun r h' hP => ⟨hP.1, A, ⟨rfl, rfl, rfl⟩, hP.2⟩)
theorem q_v1 {v : Int32} (hz : v = 0 ∨ v = 1) (h : ¬ v = 0) : (1 : Int64) = v.toInt64 := by
  rw [hz.resolve_left h]
  rfl
theorem q_v0 {v : Int32} (h : v = 0) : (0 : Int64) = v.toInt64 := by
  rw [h]
  rfl
set_option maxRecDepth 100000 in
set_option maxHeartbeats 4000000 in
theorem h_page_0 {l : Launch} (hl : l.stackTraces = false) {E : g_E} {A : w_A} {S Sm : q_S} {h : g_H} (hW : w_W E A S Sm h) {x0 x1 : Int32} (hct : g_Ct l mS_page 8 134 1 6 [.ref (A 0 0), .int x0, .int x1] E h (false, fun r h' => r = .inl 0 ∧ h' = h)) : g_Ct l mL_page 9 152 7 107 [.ref (A 0 0), .int x0, .int x1, .ref (A 29 0)] E h (false, fun r h' => r = .inr (some (.int 1)) ∧ ∃ B, w_same A B ∧ w_W E B S Sm h') := by
  refine g_Ct.of hl (by decide) (by first | rfl | simp [g_rfc, Value.category]) (Nat.le_of_ble_eq_true rfl) ?_
  intro X hX hXl hR
  show g_Go E X _ h true 0 0 0 [some (.ref (A 0 0)), some (.int x0), some (.int x1), some (.ref (A 29 0)), none] []
  refine g_aload_n hX dL_page_0 rfl rfl (by first | rfl | exact g_rfr _) 1 rfl ?_
  refine g_iconst hX dL_page_1 (v := 0) (by decide) 2 rfl ?_
  refine g_aload_n hX dL_page_2 rfl rfl (by first | rfl | exact g_rfr _) 3 rfl ?_
  refine g_iload_n hX dL_page_3 rfl rfl 4 rfl ?_
  refine g_iload_n hX dL_page_4 rfl rfl 5 rfl ?_
  refine g_cV2 (wt := 2) hX (hXl.symm ▸ hct) dL_page_5 (w_s hW) kL_7 (g_rm.of hR (by decide) (by decide)) (by first | exact Nat.zero_le _ | (rw [hR]; decide)) (by first | exact Nat.zero_le _ | (rw [hR]; decide)) (by first | decide | (simp [Value.category])) (fun q => by cases q) 8 rfl (fun v h9 hP => by cases hP.1) (fun k h9 hP => ?_)
  obtain ⟨hk9, hh9⟩ := hP
  cases hk9
  subst hh9
  refine g_Th.caught hX (g_tb_hit (nm := "java/lang/IllegalArgumentException") (r := []) (by decide) ⟨by decide, (g_in 298 (by decide +kernel) (by decide +kernel)), Or.inl ⟨rfl, rfl⟩⟩) (fun a9 => ?_)
  show g_Go E X _ h9 false _ _ 13 _ [.ref a9]
  refine g_astore hX (L' := [_, _, _, _, _]) dL_page_13 (by decide) (by first | rfl | exact g_rfr _) rfl 15 rfl ?_
  refine g_iconst hX dL_page_15 (v := 1) (by decide) 16 rfl ?_
  exact g_iret hX rfl rfl dL_page_16 ⟨rfl, A, ⟨rfl, rfl, rfl⟩, hW⟩ rfl (by rw [hR]; decide) (by rw [hR]; decide)
set_option maxRecDepth 100000 in
set_option maxHeartbeats 4000000 in
theorem h_page_1 {l : Launch} (hl : l.stackTraces = false) {E : g_E} {A : w_A} {S Sm : q_S} {h : g_H} (hW : w_W E A S Sm h) {x0 x1 : Int32} (hct : g_Ct l mS_page 8 134 1 6 [.ref (A 0 0), .int x0, .int x1] E h (false, fun r h' => r = .inl 1 ∧ h' = h)) : g_Ct l mL_page 9 152 7 107 [.ref (A 0 0), .int x0, .int x1, .ref (A 29 0)] E h (false, fun r h' => r = .inr (some (.int 2)) ∧ ∃ B, w_same A B ∧ w_W E B S Sm h') := by
  refine g_Ct.of hl (by decide) (by first | rfl | simp [g_rfc, Value.category]) (Nat.le_of_ble_eq_true rfl) ?_
  intro X hX hXl hR
  show g_Go E X _ h true 0 0 0 [some (.ref (A 0 0)), some (.int x0), some (.int x1), some (.ref (A 29 0)), none] []
  refine g_aload_n hX dL_page_0 rfl rfl (by first | rfl | exact g_rfr _) 1 rfl ?_
  refine g_iconst hX dL_page_1 (v := 0) (by decide) 2 rfl ?_
  refine g_aload_n hX dL_page_2 rfl rfl (by first | rfl | exact g_rfr _) 3 rfl ?_
  refine g_iload_n hX dL_page_3 rfl rfl 4 rfl ?_
  refine g_iload_n hX dL_page_4 rfl rfl 5 rfl ?_
  refine g_cV2 (wt := 2) hX (hXl.symm ▸ hct) dL_page_5 (w_s hW) kL_7 (g_rm.of hR (by decide) (by decide)) (by first | exact Nat.zero_le _ | (rw [hR]; decide)) (by first | exact Nat.zero_le _ | (rw [hR]; decide)) (by first | decide | (simp [Value.category])) (fun q => by cases q) 8 rfl (fun v h9 hP => by cases hP.1) (fun k h9 hP => ?_)
  obtain ⟨hk9, hh9⟩ := hP
  cases hk9
  subst hh9
  refine g_Th.caught hX (g_tb_no (nm := "java/lang/IllegalArgumentException") (by decide) ⟨by decide, (g_in 298 (by decide +kernel) (by decide +kernel)), Or.inr ⟨rfl, g_inc 3 rfl⟩⟩ (g_tb_hit (nm := "java/lang/IndexOutOfBoundsException") (r := []) (by decide) ⟨by decide, (g_in 299 (by decide +kernel) (by decide +kernel)), Or.inl ⟨rfl, rfl⟩⟩)) (fun a9 => ?_)
  show g_Go E X _ h9 false _ _ 17 _ [.ref a9]
  refine g_astore hX (L' := [_, _, _, _, _]) dL_page_17 (by decide) (by first | rfl | exact g_rfr _) rfl 19 rfl ?_
  refine g_iconst hX dL_page_19 (v := 2) (by decide) 20 rfl ?_
  exact g_iret hX rfl rfl dL_page_20 ⟨rfl, A, ⟨rfl, rfl, rfl⟩, hW⟩ rfl (by rw [hR]; decide) (by rw [hR]; decide)
set_option maxRecDepth 100000 in
set_option maxHeartbeats 4000000 in
theorem h_page_2 {l : Launch} (hl : l.stackTraces = false) {E : g_E} {A : w_A} {S Sm : q_S} {h : g_H} (hW : w_W E A S Sm h) {x0 x1 : Int32} (hct : g_Ct l mS_page 8 134 1 6 [.ref (A 0 0), .int x0, .int x1] E h (false, fun r h' => r = .inl 2 ∧ h' = h)) : g_Ct l mL_page 9 152 7 107 [.ref (A 0 0), .int x0, .int x1, .ref (A 29 0)] E h (false, fun r h' => r = .inr (some (.int 3)) ∧ ∃ B, w_same A B ∧ w_W E B S Sm h') := by
  refine g_Ct.of hl (by decide) (by first | rfl | simp [g_rfc, Value.category]) (Nat.le_of_ble_eq_true rfl) ?_
  intro X hX hXl hR
  show g_Go E X _ h true 0 0 0 [some (.ref (A 0 0)), some (.int x0), some (.int x1), some (.ref (A 29 0)), none] []
  refine g_aload_n hX dL_page_0 rfl rfl (by first | rfl | exact g_rfr _) 1 rfl ?_
  refine g_iconst hX dL_page_1 (v := 0) (by decide) 2 rfl ?_
  refine g_aload_n hX dL_page_2 rfl rfl (by first | rfl | exact g_rfr _) 3 rfl ?_
  refine g_iload_n hX dL_page_3 rfl rfl 4 rfl ?_
  refine g_iload_n hX dL_page_4 rfl rfl 5 rfl ?_
  refine g_cV2 (wt := 2) hX (hXl.symm ▸ hct) dL_page_5 (w_s hW) kL_7 (g_rm.of hR (by decide) (by decide)) (by first | exact Nat.zero_le _ | (rw [hR]; decide)) (by first | exact Nat.zero_le _ | (rw [hR]; decide)) (by first | decide | (simp [Value.category])) (fun q => by cases q) 8 rfl (fun v h9 hP => by cases hP.1) (fun k h9 hP => ?_)
  obtain ⟨hk9, hh9⟩ := hP
  cases hk9
  subst hh9
  refine g_Th.caught hX (g_tb_no (nm := "java/lang/IllegalArgumentException") (by decide) ⟨by decide, (g_in 298 (by decide +kernel) (by decide +kernel)), Or.inr ⟨rfl, g_inc 6 rfl⟩⟩ (g_tb_no (nm := "java/lang/IndexOutOfBoundsException") (by decide) ⟨by decide, (g_in 299 (by decide +kernel) (by decide +kernel)), Or.inr ⟨rfl, g_inc 7 rfl⟩⟩ (g_tb_hit (nm := "java/lang/IllegalStateException") (r := []) (by decide) ⟨by decide, (g_in 300 (by decide +kernel) (by decide +kernel)), Or.inl ⟨rfl, rfl⟩⟩))) (fun a9 => ?_)
  show g_Go E X _ h9 false _ _ 21 _ [.ref a9]
  refine g_astore hX (L' := [_, _, _, _, _]) dL_page_21 (by decide) (by first | rfl | exact g_rfr _) rfl 23 rfl ?_
  refine g_iconst hX dL_page_23 (v := 3) (by decide) 24 rfl ?_
  exact g_iret hX rfl rfl dL_page_24 ⟨rfl, A, ⟨rfl, rfl, rfl⟩, hW⟩ rfl (by rw [hR]; decide) (by rw [hR]; decide)
set_option maxRecDepth 100000 in
set_option maxHeartbeats 4000000 in
theorem h_page {l : Launch} (hl : l.stackTraces = false) {E : g_E} {A : w_A} {S Sm : q_S} {h : g_H} (hW : w_W E A S Sm h) {x0 x1 : Int32} {v : Int32} {S1 : q_S} {mc ms : Nat} (hmc : mc ≤ 7) (hms : ms ≤ 107) (hct : g_Ct l mS_page 8 134 mc ms [.ref (A 0 0), .int x0, .int x1] E h (false, fun r h' => r = .inr (some (.int v)) ∧ ∃ B, w_same A B ∧ w_W E B S1 Sm h')) : g_Ct l mL_page 9 152 7 107 [.ref (A 0 0), .int x0, .int x1, .ref (A 29 0)] E h (false, fun r h' => r = .inr (some (.int 0)) ∧ ∃ B, w_same A B ∧ w_W E B (q_up2 S1 22 0 v) Sm h') := by
  refine g_Ct.of hl (by decide) (by first | rfl | simp [g_rfc, Value.category]) (Nat.le_of_ble_eq_true rfl) ?_
  intro X hX hXl hR
  show g_Go E X _ h true 0 0 0 [some (.ref (A 0 0)), some (.int x0), some (.int x1), some (.ref (A 29 0)), none] []
  refine g_aload_n hX dL_page_0 rfl rfl (by first | rfl | exact g_rfr _) 1 rfl ?_
  refine g_iconst hX dL_page_1 (v := 0) (by decide) 2 rfl ?_
  refine g_aload_n hX dL_page_2 rfl rfl (by first | rfl | exact g_rfr _) 3 rfl ?_
  refine g_iload_n hX dL_page_3 rfl rfl 4 rfl ?_
  refine g_iload_n hX dL_page_4 rfl rfl 5 rfl ?_
  refine g_cV2 (wt := 2) hX (hXl.symm ▸ hct) dL_page_5 (w_s hW) kL_7 (g_rm.of hR (by decide) (by decide)) (by rw [hR]; show 0 + mc ≤ 7; omega) (by rw [hR]; show 0 + ms ≤ 107; omega) (by first | decide | (simp [Value.category])) (fun q => by cases q) 8 rfl (fun v9 h hP => ?_) (fun k h9 hP => by cases hP.1)
  obtain ⟨hv, B, hB9, hW1⟩ := hP
  cases hv
  show g_Go E X _ h false _ _ 8 _ [.int v, .int 0, .ref (A 29 0)]
  have h29 : h (A 29 0) = some (w_cell E B S1 29 0) := by rw [← hB9.2.1]; exact w_c hW1 29 0 (by decide) ⟨rfl, by decide⟩
  have z29 : E.H0.size ≤ A 29 0 := by rw [← hB9.2.1]; exact w_cb hW1 29 0 (by decide) ⟨rfl, by decide⟩
  refine g_i2l hX dL_page_8 rfl 9 rfl ?_
  refine g_last hX dL_page_9 h29 z29 (g_ix.nat (k := 0) (by decide) (by decide)) 10 rfl ?_
  refine g_swapL (g := fun _ => v.toInt64) (fun j hj => (if_pos (by omega)).trans rfl) ?_
  rw [← hB9.2.1]
  refine g_stepC hW1 29 0 (q_up2 S1 22 0 v) (by decide) ⟨rfl, by decide⟩ ⟨rfl, rfl, rfl, rfl, rfl, rfl, rfl⟩ w_uc22 rfl (fun h hW2 => ?_)
  refine g_goto hX dL_page_10 25 (by decide) ?_
  refine g_iconst hX dL_page_25 (v := 0) (by decide) 26 rfl ?_
  exact g_iret hX rfl rfl dL_page_26 ⟨rfl, B, hB9, hW2⟩ rfl (by rw [hR]; show 0 + mc ≤ 7; omega) (by rw [hR]; show 0 + ms ≤ 107; omega)
set_option maxRecDepth 100000 in
set_option maxHeartbeats 4000000 in
theorem h_shape_1 {l : Launch} (hl : l.stackTraces = false) {E : g_E} {A : w_A} {S Sm : q_S} {h : g_H} (hW : w_W E A S Sm h) {x0 x1 : Int32} (hct : g_Ct l mS_shape 7 121 1 6 [.ref (A 0 0), .int x0, .int x1] E h (false, fun r h' => r = .inl 1 ∧ h' = h)) : g_Ct l mL_shape 8 139 7 107 [.ref (A 0 0), .int x0, .int x1, .ref (A 29 0)] E h (false, fun r h' => r = .inr (some (.int 1)) ∧ ∃ B, w_same A B ∧ w_W E B S Sm h') := by
  refine g_Ct.of hl (by decide) (by first | rfl | simp [g_rfc, Value.category]) (Nat.le_of_ble_eq_true rfl) ?_
  intro X hX hXl hR
  show g_Go E X _ h true 0 0 0 [some (.ref (A 0 0)), some (.int x0), some (.int x1), some (.ref (A 29 0)), none] []
  refine g_aload_n hX dL_shape_0 rfl rfl (by first | rfl | exact g_rfr _) 1 rfl ?_
  refine g_iconst hX dL_shape_1 (v := 0) (by decide) 2 rfl ?_
  refine g_aload_n hX dL_shape_2 rfl rfl (by first | rfl | exact g_rfr _) 3 rfl ?_
  refine g_iload_n hX dL_shape_3 rfl rfl 4 rfl ?_
  refine g_iload_n hX dL_shape_4 rfl rfl 5 rfl ?_
  refine g_cV2 (wt := 2) hX (hXl.symm ▸ hct) dL_shape_5 (w_s hW) kL_19 (g_rm.of hR (by decide) (by decide)) (by first | exact Nat.zero_le _ | (rw [hR]; decide)) (by first | exact Nat.zero_le _ | (rw [hR]; decide)) (by first | decide | (simp [Value.category])) (fun q => by cases q) 8 rfl (fun v h9 hP => by cases hP.1) (fun k h9 hP => ?_)
  obtain ⟨hk9, hh9⟩ := hP
  cases hk9
  subst hh9
  refine g_Th.caught hX (g_tb_hit (nm := "java/lang/IndexOutOfBoundsException") (r := []) (by decide) ⟨by decide, (g_in 299 (by decide +kernel) (by decide +kernel)), Or.inl ⟨rfl, rfl⟩⟩) (fun a9 => ?_)
  show g_Go E X _ h9 false _ _ 13 _ [.ref a9]
  refine g_astore hX (L' := [_, _, _, _, _]) dL_shape_13 (by decide) (by first | rfl | exact g_rfr _) rfl 15 rfl ?_
  refine g_iconst hX dL_shape_15 (v := 1) (by decide) 16 rfl ?_
  exact g_iret hX rfl rfl dL_shape_16 ⟨rfl, A, ⟨rfl, rfl, rfl⟩, hW⟩ rfl (by rw [hR]; decide) (by rw [hR]; decide)
set_option maxRecDepth 100000 in
set_option maxHeartbeats 4000000 in
theorem h_shape_0 {l : Launch} (hl : l.stackTraces = false) {E : g_E} {A : w_A} {S Sm : q_S} {h : g_H} (hW : w_W E A S Sm h) {x0 x1 : Int32} (hct : g_Ct l mS_shape 7 121 1 6 [.ref (A 0 0), .int x0, .int x1] E h (false, fun r h' => r = .inl 0 ∧ h' = h)) : g_Ct l mL_shape 8 139 7 107 [.ref (A 0 0), .int x0, .int x1, .ref (A 29 0)] E h (false, fun r h' => r = .inr (some (.int 2)) ∧ ∃ B, w_same A B ∧ w_W E B S Sm h') := by
  refine g_Ct.of hl (by decide) (by first | rfl | simp [g_rfc, Value.category]) (Nat.le_of_ble_eq_true rfl) ?_
  intro X hX hXl hR
  show g_Go E X _ h true 0 0 0 [some (.ref (A 0 0)), some (.int x0), some (.int x1), some (.ref (A 29 0)), none] []
  refine g_aload_n hX dL_shape_0 rfl rfl (by first | rfl | exact g_rfr _) 1 rfl ?_
  refine g_iconst hX dL_shape_1 (v := 0) (by decide) 2 rfl ?_
  refine g_aload_n hX dL_shape_2 rfl rfl (by first | rfl | exact g_rfr _) 3 rfl ?_
  refine g_iload_n hX dL_shape_3 rfl rfl 4 rfl ?_
  refine g_iload_n hX dL_shape_4 rfl rfl 5 rfl ?_
  refine g_cV2 (wt := 2) hX (hXl.symm ▸ hct) dL_shape_5 (w_s hW) kL_19 (g_rm.of hR (by decide) (by decide)) (by first | exact Nat.zero_le _ | (rw [hR]; decide)) (by first | exact Nat.zero_le _ | (rw [hR]; decide)) (by first | decide | (simp [Value.category])) (fun q => by cases q) 8 rfl (fun v h9 hP => by cases hP.1) (fun k h9 hP => ?_)
  obtain ⟨hk9, hh9⟩ := hP
  cases hk9
  subst hh9
  refine g_Th.caught hX (g_tb_no (nm := "java/lang/IndexOutOfBoundsException") (by decide) ⟨by decide, (g_in 299 (by decide +kernel) (by decide +kernel)), Or.inr ⟨rfl, g_inc 0 rfl⟩⟩ (g_tb_hit (nm := "java/lang/IllegalArgumentException") (r := []) (by decide) ⟨by decide, (g_in 298 (by decide +kernel) (by decide +kernel)), Or.inl ⟨rfl, rfl⟩⟩)) (fun a9 => ?_)
  show g_Go E X _ h9 false _ _ 17 _ [.ref a9]
  refine g_astore hX (L' := [_, _, _, _, _]) dL_shape_17 (by decide) (by first | rfl | exact g_rfr _) rfl 19 rfl ?_
  refine g_iconst hX dL_shape_19 (v := 2) (by decide) 20 rfl ?_
  exact g_iret hX rfl rfl dL_shape_20 ⟨rfl, A, ⟨rfl, rfl, rfl⟩, hW⟩ rfl (by rw [hR]; decide) (by rw [hR]; decide)
set_option maxRecDepth 100000 in
set_option maxHeartbeats 4000000 in
theorem h_shape_2 {l : Launch} (hl : l.stackTraces = false) {E : g_E} {A : w_A} {S Sm : q_S} {h : g_H} (hW : w_W E A S Sm h) {x0 x1 : Int32} (hct : g_Ct l mS_shape 7 121 1 6 [.ref (A 0 0), .int x0, .int x1] E h (false, fun r h' => r = .inl 2 ∧ h' = h)) : g_Ct l mL_shape 8 139 7 107 [.ref (A 0 0), .int x0, .int x1, .ref (A 29 0)] E h (false, fun r h' => r = .inr (some (.int 3)) ∧ ∃ B, w_same A B ∧ w_W E B S Sm h') := by
  refine g_Ct.of hl (by decide) (by first | rfl | simp [g_rfc, Value.category]) (Nat.le_of_ble_eq_true rfl) ?_
  intro X hX hXl hR
  show g_Go E X _ h true 0 0 0 [some (.ref (A 0 0)), some (.int x0), some (.int x1), some (.ref (A 29 0)), none] []
  refine g_aload_n hX dL_shape_0 rfl rfl (by first | rfl | exact g_rfr _) 1 rfl ?_
  refine g_iconst hX dL_shape_1 (v := 0) (by decide) 2 rfl ?_
  refine g_aload_n hX dL_shape_2 rfl rfl (by first | rfl | exact g_rfr _) 3 rfl ?_
  refine g_iload_n hX dL_shape_3 rfl rfl 4 rfl ?_
  refine g_iload_n hX dL_shape_4 rfl rfl 5 rfl ?_
  refine g_cV2 (wt := 2) hX (hXl.symm ▸ hct) dL_shape_5 (w_s hW) kL_19 (g_rm.of hR (by decide) (by decide)) (by first | exact Nat.zero_le _ | (rw [hR]; decide)) (by first | exact Nat.zero_le _ | (rw [hR]; decide)) (by first | decide | (simp [Value.category])) (fun q => by cases q) 8 rfl (fun v h9 hP => by cases hP.1) (fun k h9 hP => ?_)
  obtain ⟨hk9, hh9⟩ := hP
  cases hk9
  subst hh9
  refine g_Th.caught hX (g_tb_no (nm := "java/lang/IndexOutOfBoundsException") (by decide) ⟨by decide, (g_in 299 (by decide +kernel) (by decide +kernel)), Or.inr ⟨rfl, g_inc 7 rfl⟩⟩ (g_tb_no (nm := "java/lang/IllegalArgumentException") (by decide) ⟨by decide, (g_in 298 (by decide +kernel) (by decide +kernel)), Or.inr ⟨rfl, g_inc 6 rfl⟩⟩ (g_tb_hit (nm := "java/lang/IllegalStateException") (r := []) (by decide) ⟨by decide, (g_in 300 (by decide +kernel) (by decide +kernel)), Or.inl ⟨rfl, rfl⟩⟩))) (fun a9 => ?_)
  show g_Go E X _ h9 false _ _ 21 _ [.ref a9]
  refine g_astore hX (L' := [_, _, _, _, _]) dL_shape_21 (by decide) (by first | rfl | exact g_rfr _) rfl 23 rfl ?_
  refine g_iconst hX dL_shape_23 (v := 3) (by decide) 24 rfl ?_
  exact g_iret hX rfl rfl dL_shape_24 ⟨rfl, A, ⟨rfl, rfl, rfl⟩, hW⟩ rfl (by rw [hR]; decide) (by rw [hR]; decide)
set_option maxRecDepth 100000 in
set_option maxHeartbeats 4000000 in
theorem h_shape_3 {l : Launch} (hl : l.stackTraces = false) {E : g_E} {A : w_A} {S Sm : q_S} {h : g_H} (hW : w_W E A S Sm h) {x0 x1 : Int32} (hct : g_Ct l mS_shape 7 121 1 6 [.ref (A 0 0), .int x0, .int x1] E h (false, fun r h' => r = .inl 3 ∧ h' = h)) : g_Ct l mL_shape 8 139 7 107 [.ref (A 0 0), .int x0, .int x1, .ref (A 29 0)] E h (false, fun r h' => r = .inr (some (.int 4)) ∧ ∃ B, w_same A B ∧ w_W E B S Sm h') := by
  refine g_Ct.of hl (by decide) (by first | rfl | simp [g_rfc, Value.category]) (Nat.le_of_ble_eq_true rfl) ?_
  intro X hX hXl hR
  show g_Go E X _ h true 0 0 0 [some (.ref (A 0 0)), some (.int x0), some (.int x1), some (.ref (A 29 0)), none] []
  refine g_aload_n hX dL_shape_0 rfl rfl (by first | rfl | exact g_rfr _) 1 rfl ?_
  refine g_iconst hX dL_shape_1 (v := 0) (by decide) 2 rfl ?_
  refine g_aload_n hX dL_shape_2 rfl rfl (by first | rfl | exact g_rfr _) 3 rfl ?_
  refine g_iload_n hX dL_shape_3 rfl rfl 4 rfl ?_
  refine g_iload_n hX dL_shape_4 rfl rfl 5 rfl ?_
  refine g_cV2 (wt := 2) hX (hXl.symm ▸ hct) dL_shape_5 (w_s hW) kL_19 (g_rm.of hR (by decide) (by decide)) (by first | exact Nat.zero_le _ | (rw [hR]; decide)) (by first | exact Nat.zero_le _ | (rw [hR]; decide)) (by first | decide | (simp [Value.category])) (fun q => by cases q) 8 rfl (fun v h9 hP => by cases hP.1) (fun k h9 hP => ?_)
  obtain ⟨hk9, hh9⟩ := hP
  cases hk9
  subst hh9
  refine g_Th.caught hX (g_tb_no (nm := "java/lang/IndexOutOfBoundsException") (by decide) ⟨by decide, (g_in 299 (by decide +kernel) (by decide +kernel)), Or.inr ⟨rfl, g_inc 10 rfl⟩⟩ (g_tb_no (nm := "java/lang/IllegalArgumentException") (by decide) ⟨by decide, (g_in 298 (by decide +kernel) (by decide +kernel)), Or.inr ⟨rfl, g_inc 9 rfl⟩⟩ (g_tb_no (nm := "java/lang/IllegalStateException") (by decide) ⟨by decide, (g_in 300 (by decide +kernel) (by decide +kernel)), Or.inr ⟨rfl, g_inc 11 rfl⟩⟩ (g_tb_hit (nm := "java/lang/UnsupportedOperationException") (r := []) (by decide) ⟨by decide, (g_in 506 (by decide +kernel) (by decide +kernel)), Or.inl ⟨rfl, rfl⟩⟩)))) (fun a9 => ?_)
  show g_Go E X _ h9 false _ _ 25 _ [.ref a9]
  refine g_astore hX (L' := [_, _, _, _, _]) dL_shape_25 (by decide) (by first | rfl | exact g_rfr _) rfl 27 rfl ?_
  refine g_iconst hX dL_shape_27 (v := 4) (by decide) 28 rfl ?_
  exact g_iret hX rfl rfl dL_shape_28 ⟨rfl, A, ⟨rfl, rfl, rfl⟩, hW⟩ rfl (by rw [hR]; decide) (by rw [hR]; decide)
set_option maxRecDepth 100000 in
set_option maxHeartbeats 4000000 in
theorem h_shape {l : Launch} (hl : l.stackTraces = false) {E : g_E} {A : w_A} {S Sm : q_S} {h : g_H} (hW : w_W E A S Sm h) {x0 x1 : Int32} {v : Int32} {S1 : q_S} {mc ms : Nat} (hmc : mc ≤ 7) (hms : ms ≤ 107) (hct : g_Ct l mS_shape 7 121 mc ms [.ref (A 0 0), .int x0, .int x1] E h (false, fun r h' => r = .inr (some (.int v)) ∧ ∃ B, w_same A B ∧ w_W E B S1 Sm h')) : g_Ct l mL_shape 8 139 7 107 [.ref (A 0 0), .int x0, .int x1, .ref (A 29 0)] E h (false, fun r h' => r = .inr (some (.int 0)) ∧ ∃ B, w_same A B ∧ w_W E B (q_up2 S1 22 0 v) Sm h') := by
  refine g_Ct.of hl (by decide) (by first | rfl | simp [g_rfc, Value.category]) (Nat.le_of_ble_eq_true rfl) ?_
  intro X hX hXl hR
  show g_Go E X _ h true 0 0 0 [some (.ref (A 0 0)), some (.int x0), some (.int x1), some (.ref (A 29 0)), none] []
  refine g_aload_n hX dL_shape_0 rfl rfl (by first | rfl | exact g_rfr _) 1 rfl ?_
  refine g_iconst hX dL_shape_1 (v := 0) (by decide) 2 rfl ?_
  refine g_aload_n hX dL_shape_2 rfl rfl (by first | rfl | exact g_rfr _) 3 rfl ?_
  refine g_iload_n hX dL_shape_3 rfl rfl 4 rfl ?_
  refine g_iload_n hX dL_shape_4 rfl rfl 5 rfl ?_
  refine g_cV2 (wt := 2) hX (hXl.symm ▸ hct) dL_shape_5 (w_s hW) kL_19 (g_rm.of hR (by decide) (by decide)) (by rw [hR]; show 0 + mc ≤ 7; omega) (by rw [hR]; show 0 + ms ≤ 107; omega) (by first | decide | (simp [Value.category])) (fun q => by cases q) 8 rfl (fun v9 h hP => ?_) (fun k h9 hP => by cases hP.1)
  obtain ⟨hv, B, hB9, hW1⟩ := hP
  cases hv
  show g_Go E X _ h false _ _ 8 _ [.int v, .int 0, .ref (A 29 0)]
  have h29 : h (A 29 0) = some (w_cell E B S1 29 0) := by rw [← hB9.2.1]; exact w_c hW1 29 0 (by decide) ⟨rfl, by decide⟩
  have z29 : E.H0.size ≤ A 29 0 := by rw [← hB9.2.1]; exact w_cb hW1 29 0 (by decide) ⟨rfl, by decide⟩
  refine g_i2l hX dL_shape_8 rfl 9 rfl ?_
  refine g_last hX dL_shape_9 h29 z29 (g_ix.nat (k := 0) (by decide) (by decide)) 10 rfl ?_
  refine g_swapL (g := fun _ => v.toInt64) (fun j hj => (if_pos (by omega)).trans rfl) ?_
  rw [← hB9.2.1]
  refine g_stepC hW1 29 0 (q_up2 S1 22 0 v) (by decide) ⟨rfl, by decide⟩ ⟨rfl, rfl, rfl, rfl, rfl, rfl, rfl⟩ w_uc22 rfl (fun h hW2 => ?_)
  refine g_goto hX dL_shape_10 29 (by decide) ?_
  refine g_iconst hX dL_shape_29 (v := 0) (by decide) 30 rfl ?_
  exact g_iret hX rfl rfl dL_shape_30 ⟨rfl, B, hB9, hW2⟩ rfl (by rw [hR]; show 0 + mc ≤ 7; omega) (by rw [hR]; show 0 + ms ≤ 107; omega)
set_option maxRecDepth 100000 in
set_option maxHeartbeats 4000000 in
theorem h_theme_0 {l : Launch} (hl : l.stackTraces = false) {E : g_E} {A : w_A} {S Sm : q_S} {h : g_H} (hW : w_W E A S Sm h) {x0 x1 : Int32} (hct : g_Ct l mS_theme 8 107 1 6 [.ref (A 0 0), .int x0, .int x1] E h (false, fun r h' => r = .inl 0 ∧ h' = h)) : g_Ct l mL_theme 9 121 7 107 [.ref (A 0 0), .int x0, .int x1] E h (false, fun r h' => r = .inr (some (.int 1)) ∧ ∃ B, w_same A B ∧ w_W E B S Sm h') := by
  refine g_Ct.of hl (by decide) (by first | rfl | simp [g_rfc, Value.category]) (Nat.le_of_ble_eq_true rfl) ?_
  intro X hX hXl hR
  show g_Go E X _ h true 0 0 0 [some (.ref (A 0 0)), some (.int x0), some (.int x1), none] []
  refine g_aload_n hX dL_theme_0 rfl rfl (by first | rfl | exact g_rfr _) 1 rfl ?_
  refine g_iload_n hX dL_theme_1 rfl rfl 2 rfl ?_
  refine g_iload_n hX dL_theme_2 rfl rfl 3 rfl ?_
  refine g_cV2 (wt := 0) hX (hXl.symm ▸ hct) dL_theme_3 (w_s hW) kL_24 (g_rm.of hR (by decide) (by decide)) (by first | exact Nat.zero_le _ | (rw [hR]; decide)) (by first | exact Nat.zero_le _ | (rw [hR]; decide)) (by first | decide | (simp [Value.category])) (fun q => by cases q) 6 rfl (fun v h9 hP => by cases hP.1) (fun k h9 hP => ?_)
  obtain ⟨hk9, hh9⟩ := hP
  cases hk9
  subst hh9
  refine g_Th.caught hX (g_tb_hit (nm := "java/lang/IllegalArgumentException") (r := []) (by decide) ⟨by decide, (g_in 298 (by decide +kernel) (by decide +kernel)), Or.inl ⟨rfl, rfl⟩⟩) (fun a9 => ?_)
  show g_Go E X _ h9 false _ _ 9 _ [.ref a9]
  refine g_astore_n hX (L' := [_, _, _, _]) dL_theme_9 rfl (by decide) (by first | rfl | exact g_rfr _) rfl 10 rfl ?_
  refine g_iconst hX dL_theme_10 (v := 1) (by decide) 11 rfl ?_
  exact g_iret hX rfl rfl dL_theme_11 ⟨rfl, A, ⟨rfl, rfl, rfl⟩, hW⟩ rfl (by rw [hR]; decide) (by rw [hR]; decide)
set_option maxRecDepth 100000 in
set_option maxHeartbeats 4000000 in
theorem h_theme {l : Launch} (hl : l.stackTraces = false) {E : g_E} {A : w_A} {S Sm : q_S} {h : g_H} (hW : w_W E A S Sm h) {x0 x1 : Int32} {S1 : q_S} {mc ms : Nat} (hmc : mc ≤ 7) (hms : ms ≤ 107) (hct : g_Ct l mS_theme 8 107 mc ms [.ref (A 0 0), .int x0, .int x1] E h (false, fun r h' => r = .inr none ∧ ∃ B, w_same A B ∧ w_W E B S1 Sm h')) : g_Ct l mL_theme 9 121 7 107 [.ref (A 0 0), .int x0, .int x1] E h (false, fun r h' => r = .inr (some (.int 0)) ∧ ∃ B, w_same A B ∧ w_W E B (S1) Sm h') := by
  refine g_Ct.of hl (by decide) (by first | rfl | simp [g_rfc, Value.category]) (Nat.le_of_ble_eq_true rfl) ?_
  intro X hX hXl hR
  show g_Go E X _ h true 0 0 0 [some (.ref (A 0 0)), some (.int x0), some (.int x1), none] []
  refine g_aload_n hX dL_theme_0 rfl rfl (by first | rfl | exact g_rfr _) 1 rfl ?_
  refine g_iload_n hX dL_theme_1 rfl rfl 2 rfl ?_
  refine g_iload_n hX dL_theme_2 rfl rfl 3 rfl ?_
  refine g_cV2 (wt := 0) hX (hXl.symm ▸ hct) dL_theme_3 (w_s hW) kL_24 (g_rm.of hR (by decide) (by decide)) (by rw [hR]; show 0 + mc ≤ 7; omega) (by rw [hR]; show 0 + ms ≤ 107; omega) (by first | decide | (simp [Value.category])) (fun q => by cases q) 6 rfl (fun v9 h hP => ?_) (fun k h9 hP => by cases hP.1)
  obtain ⟨hv, B, hB9, hW1⟩ := hP
  cases hv
  show g_Go E X _ h false _ _ 6 _ []
  refine g_goto hX dL_theme_6 12 (by decide) ?_
  refine g_iconst hX dL_theme_12 (v := 0) (by decide) 13 rfl ?_
  exact g_iret hX rfl rfl dL_theme_13 ⟨rfl, B, hB9, hW1⟩ rfl (by rw [hR]; show 0 + mc ≤ 7; omega) (by rw [hR]; show 0 + ms ≤ 107; omega)
set_option maxRecDepth 100000 in
set_option maxHeartbeats 4000000 in
theorem h_set_1 {l : Launch} (hl : l.stackTraces = false) {E : g_E} {A : w_A} {S Sm : q_S} {h : g_H} (hW : w_W E A S Sm h) {x0 x1 x2 : Int32} (hct : g_Ct l mS_set 8 107 1 6 [.ref (A 0 0), .int x0, .int x1, .int x2] E h (false, fun r h' => r = .inl 1 ∧ h' = h)) : g_Ct l mL_set 9 123 7 107 [.ref (A 0 0), .int x0, .int x1, .int x2] E h (false, fun r h' => r = .inr (some (.int 1)) ∧ ∃ B, w_same A B ∧ w_W E B S Sm h') := by
  refine g_Ct.of hl (by decide) (by first | rfl | simp [g_rfc, Value.category]) (Nat.le_of_ble_eq_true rfl) ?_
  intro X hX hXl hR
  show g_Go E X _ h true 0 0 0 [some (.ref (A 0 0)), some (.int x0), some (.int x1), some (.int x2), none] []
  refine g_aload_n hX dL_set_0 rfl rfl (by first | rfl | exact g_rfr _) 1 rfl ?_
  refine g_iload_n hX dL_set_1 rfl rfl 2 rfl ?_
  refine g_iload_n hX dL_set_2 rfl rfl 3 rfl ?_
  refine g_iload_n hX dL_set_3 rfl rfl 4 rfl ?_
  refine g_cV3 (wt := 0) hX (hXl.symm ▸ hct) dL_set_4 (w_s hW) kL_28 (g_rm.of hR (by decide) (by decide)) (by first | exact Nat.zero_le _ | (rw [hR]; decide)) (by first | exact Nat.zero_le _ | (rw [hR]; decide)) (by first | decide | (simp [Value.category])) (fun q => by cases q) 7 rfl (fun v h9 hP => by cases hP.1) (fun k h9 hP => ?_)
  obtain ⟨hk9, hh9⟩ := hP
  cases hk9
  subst hh9
  refine g_Th.caught hX (g_tb_hit (nm := "java/lang/IndexOutOfBoundsException") (r := []) (by decide) ⟨by decide, (g_in 299 (by decide +kernel) (by decide +kernel)), Or.inl ⟨rfl, rfl⟩⟩) (fun a9 => ?_)
  show g_Go E X _ h9 false _ _ 10 _ [.ref a9]
  refine g_astore hX (L' := [_, _, _, _, _]) dL_set_10 (by decide) (by first | rfl | exact g_rfr _) rfl 12 rfl ?_
  refine g_iconst hX dL_set_12 (v := 1) (by decide) 13 rfl ?_
  exact g_iret hX rfl rfl dL_set_13 ⟨rfl, A, ⟨rfl, rfl, rfl⟩, hW⟩ rfl (by rw [hR]; decide) (by rw [hR]; decide)
set_option maxRecDepth 100000 in
set_option maxHeartbeats 4000000 in
theorem h_set_0 {l : Launch} (hl : l.stackTraces = false) {E : g_E} {A : w_A} {S Sm : q_S} {h : g_H} (hW : w_W E A S Sm h) {x0 x1 x2 : Int32} (hct : g_Ct l mS_set 8 107 1 6 [.ref (A 0 0), .int x0, .int x1, .int x2] E h (false, fun r h' => r = .inl 0 ∧ h' = h)) : g_Ct l mL_set 9 123 7 107 [.ref (A 0 0), .int x0, .int x1, .int x2] E h (false, fun r h' => r = .inr (some (.int 2)) ∧ ∃ B, w_same A B ∧ w_W E B S Sm h') := by
  refine g_Ct.of hl (by decide) (by first | rfl | simp [g_rfc, Value.category]) (Nat.le_of_ble_eq_true rfl) ?_
  intro X hX hXl hR
  show g_Go E X _ h true 0 0 0 [some (.ref (A 0 0)), some (.int x0), some (.int x1), some (.int x2), none] []
  refine g_aload_n hX dL_set_0 rfl rfl (by first | rfl | exact g_rfr _) 1 rfl ?_
  refine g_iload_n hX dL_set_1 rfl rfl 2 rfl ?_
  refine g_iload_n hX dL_set_2 rfl rfl 3 rfl ?_
  refine g_iload_n hX dL_set_3 rfl rfl 4 rfl ?_
  refine g_cV3 (wt := 0) hX (hXl.symm ▸ hct) dL_set_4 (w_s hW) kL_28 (g_rm.of hR (by decide) (by decide)) (by first | exact Nat.zero_le _ | (rw [hR]; decide)) (by first | exact Nat.zero_le _ | (rw [hR]; decide)) (by first | decide | (simp [Value.category])) (fun q => by cases q) 7 rfl (fun v h9 hP => by cases hP.1) (fun k h9 hP => ?_)
  obtain ⟨hk9, hh9⟩ := hP
  cases hk9
  subst hh9
  refine g_Th.caught hX (g_tb_no (nm := "java/lang/IndexOutOfBoundsException") (by decide) ⟨by decide, (g_in 299 (by decide +kernel) (by decide +kernel)), Or.inr ⟨rfl, g_inc 0 rfl⟩⟩ (g_tb_hit (nm := "java/lang/IllegalArgumentException") (r := []) (by decide) ⟨by decide, (g_in 298 (by decide +kernel) (by decide +kernel)), Or.inl ⟨rfl, rfl⟩⟩)) (fun a9 => ?_)
  show g_Go E X _ h9 false _ _ 14 _ [.ref a9]
  refine g_astore hX (L' := [_, _, _, _, _]) dL_set_14 (by decide) (by first | rfl | exact g_rfr _) rfl 16 rfl ?_
  refine g_iconst hX dL_set_16 (v := 2) (by decide) 17 rfl ?_
  exact g_iret hX rfl rfl dL_set_17 ⟨rfl, A, ⟨rfl, rfl, rfl⟩, hW⟩ rfl (by rw [hR]; decide) (by rw [hR]; decide)
set_option maxRecDepth 100000 in
set_option maxHeartbeats 4000000 in
theorem h_set {l : Launch} (hl : l.stackTraces = false) {E : g_E} {A : w_A} {S Sm : q_S} {h : g_H} (hW : w_W E A S Sm h) {x0 x1 x2 : Int32} {S1 : q_S} {mc ms : Nat} (hmc : mc ≤ 7) (hms : ms ≤ 107) (hct : g_Ct l mS_set 8 107 mc ms [.ref (A 0 0), .int x0, .int x1, .int x2] E h (false, fun r h' => r = .inr none ∧ ∃ B, w_same A B ∧ w_W E B S1 Sm h')) : g_Ct l mL_set 9 123 7 107 [.ref (A 0 0), .int x0, .int x1, .int x2] E h (false, fun r h' => r = .inr (some (.int 0)) ∧ ∃ B, w_same A B ∧ w_W E B (S1) Sm h') := by
  refine g_Ct.of hl (by decide) (by first | rfl | simp [g_rfc, Value.category]) (Nat.le_of_ble_eq_true rfl) ?_
  intro X hX hXl hR
  show g_Go E X _ h true 0 0 0 [some (.ref (A 0 0)), some (.int x0), some (.int x1), some (.int x2), none] []
  refine g_aload_n hX dL_set_0 rfl rfl (by first | rfl | exact g_rfr _) 1 rfl ?_
  refine g_iload_n hX dL_set_1 rfl rfl 2 rfl ?_
  refine g_iload_n hX dL_set_2 rfl rfl 3 rfl ?_
  refine g_iload_n hX dL_set_3 rfl rfl 4 rfl ?_
  refine g_cV3 (wt := 0) hX (hXl.symm ▸ hct) dL_set_4 (w_s hW) kL_28 (g_rm.of hR (by decide) (by decide)) (by rw [hR]; show 0 + mc ≤ 7; omega) (by rw [hR]; show 0 + ms ≤ 107; omega) (by first | decide | (simp [Value.category])) (fun q => by cases q) 7 rfl (fun v9 h hP => ?_) (fun k h9 hP => by cases hP.1)
  obtain ⟨hv, B, hB9, hW1⟩ := hP
  cases hv
  show g_Go E X _ h false _ _ 7 _ []
  refine g_goto hX dL_set_7 18 (by decide) ?_
  refine g_iconst hX dL_set_18 (v := 0) (by decide) 19 rfl ?_
  exact g_iret hX rfl rfl dL_set_19 ⟨rfl, B, hB9, hW1⟩ rfl (by rw [hR]; show 0 + mc ≤ 7; omega) (by rw [hR]; show 0 + ms ≤ 107; omega)
set_option maxRecDepth 100000 in
set_option maxHeartbeats 4000000 in
theorem h_unset_1 {l : Launch} (hl : l.stackTraces = false) {E : g_E} {A : w_A} {S Sm : q_S} {h : g_H} (hW : w_W E A S Sm h) {x0 x1 : Int32} (hct : g_Ct l mS_unset 7 95 1 6 [.ref (A 0 0), .int x0, .int x1] E h (false, fun r h' => r = .inl 1 ∧ h' = h)) : g_Ct l mL_unset 8 113 7 107 [.ref (A 0 0), .int x0, .int x1, .ref (A 29 0)] E h (false, fun r h' => r = .inr (some (.int 1)) ∧ ∃ B, w_same A B ∧ w_W E B S Sm h') := by
  refine g_Ct.of hl (by decide) (by first | rfl | simp [g_rfc, Value.category]) (Nat.le_of_ble_eq_true rfl) ?_
  intro X hX hXl hR
  show g_Go E X _ h true 0 0 0 [some (.ref (A 0 0)), some (.int x0), some (.int x1), some (.ref (A 29 0)), none] []
  refine g_aload_n hX dL_unset_0 rfl rfl (by first | rfl | exact g_rfr _) 1 rfl ?_
  refine g_iconst hX dL_unset_1 (v := 0) (by decide) 2 rfl ?_
  refine g_aload_n hX dL_unset_2 rfl rfl (by first | rfl | exact g_rfr _) 3 rfl ?_
  refine g_iload_n hX dL_unset_3 rfl rfl 4 rfl ?_
  refine g_iload_n hX dL_unset_4 rfl rfl 5 rfl ?_
  refine g_cV2 (wt := 2) hX (hXl.symm ▸ hct) dL_unset_5 (w_s hW) kL_32 (g_rm.of hR (by decide) (by decide)) (by first | exact Nat.zero_le _ | (rw [hR]; decide)) (by first | exact Nat.zero_le _ | (rw [hR]; decide)) (by first | decide | (simp [Value.category])) (fun q => by cases q) 8 rfl (fun v h9 hP => by cases hP.1) (fun k h9 hP => ?_)
  obtain ⟨hk9, hh9⟩ := hP
  cases hk9
  subst hh9
  refine g_Th.caught hX (g_tb_hit (nm := "java/lang/IndexOutOfBoundsException") (r := []) (by decide) ⟨by decide, (g_in 299 (by decide +kernel) (by decide +kernel)), Or.inl ⟨rfl, rfl⟩⟩) (fun a9 => ?_)
  show g_Go E X _ h9 false _ _ 20 _ [.ref a9]
  refine g_astore hX (L' := [_, _, _, _, _]) dL_unset_20 (by decide) (by first | rfl | exact g_rfr _) rfl 22 rfl ?_
  refine g_iconst hX dL_unset_22 (v := 1) (by decide) 23 rfl ?_
  exact g_iret hX rfl rfl dL_unset_23 ⟨rfl, A, ⟨rfl, rfl, rfl⟩, hW⟩ rfl (by rw [hR]; decide) (by rw [hR]; decide)
set_option maxRecDepth 100000 in
set_option maxHeartbeats 4000000 in
theorem h_unset_0 {l : Launch} (hl : l.stackTraces = false) {E : g_E} {A : w_A} {S Sm : q_S} {h : g_H} (hW : w_W E A S Sm h) {x0 x1 : Int32} (hct : g_Ct l mS_unset 7 95 1 6 [.ref (A 0 0), .int x0, .int x1] E h (false, fun r h' => r = .inl 0 ∧ h' = h)) : g_Ct l mL_unset 8 113 7 107 [.ref (A 0 0), .int x0, .int x1, .ref (A 29 0)] E h (false, fun r h' => r = .inr (some (.int 2)) ∧ ∃ B, w_same A B ∧ w_W E B S Sm h') := by
  refine g_Ct.of hl (by decide) (by first | rfl | simp [g_rfc, Value.category]) (Nat.le_of_ble_eq_true rfl) ?_
  intro X hX hXl hR
  show g_Go E X _ h true 0 0 0 [some (.ref (A 0 0)), some (.int x0), some (.int x1), some (.ref (A 29 0)), none] []
  refine g_aload_n hX dL_unset_0 rfl rfl (by first | rfl | exact g_rfr _) 1 rfl ?_
  refine g_iconst hX dL_unset_1 (v := 0) (by decide) 2 rfl ?_
  refine g_aload_n hX dL_unset_2 rfl rfl (by first | rfl | exact g_rfr _) 3 rfl ?_
  refine g_iload_n hX dL_unset_3 rfl rfl 4 rfl ?_
  refine g_iload_n hX dL_unset_4 rfl rfl 5 rfl ?_
  refine g_cV2 (wt := 2) hX (hXl.symm ▸ hct) dL_unset_5 (w_s hW) kL_32 (g_rm.of hR (by decide) (by decide)) (by first | exact Nat.zero_le _ | (rw [hR]; decide)) (by first | exact Nat.zero_le _ | (rw [hR]; decide)) (by first | decide | (simp [Value.category])) (fun q => by cases q) 8 rfl (fun v h9 hP => by cases hP.1) (fun k h9 hP => ?_)
  obtain ⟨hk9, hh9⟩ := hP
  cases hk9
  subst hh9
  refine g_Th.caught hX (g_tb_no (nm := "java/lang/IndexOutOfBoundsException") (by decide) ⟨by decide, (g_in 299 (by decide +kernel) (by decide +kernel)), Or.inr ⟨rfl, g_inc 0 rfl⟩⟩ (g_tb_hit (nm := "java/lang/IllegalArgumentException") (r := []) (by decide) ⟨by decide, (g_in 298 (by decide +kernel) (by decide +kernel)), Or.inl ⟨rfl, rfl⟩⟩)) (fun a9 => ?_)
  show g_Go E X _ h9 false _ _ 24 _ [.ref a9]
  refine g_astore hX (L' := [_, _, _, _, _]) dL_unset_24 (by decide) (by first | rfl | exact g_rfr _) rfl 26 rfl ?_
  refine g_iconst hX dL_unset_26 (v := 2) (by decide) 27 rfl ?_
  exact g_iret hX rfl rfl dL_unset_27 ⟨rfl, A, ⟨rfl, rfl, rfl⟩, hW⟩ rfl (by rw [hR]; decide) (by rw [hR]; decide)
set_option maxRecDepth 100000 in
set_option maxHeartbeats 4000000 in
theorem h_unset {l : Launch} (hl : l.stackTraces = false) {E : g_E} {A : w_A} {S Sm : q_S} {h : g_H} (hW : w_W E A S Sm h) {x0 x1 : Int32} {v : Int32} {S1 : q_S} {mc ms : Nat} (hmc : mc ≤ 7) (hms : ms ≤ 107) (hz : v = 0 ∨ v = 1) (hct : g_Ct l mS_unset 7 95 mc ms [.ref (A 0 0), .int x0, .int x1] E h (false, fun r h' => r = .inr (some (.int v)) ∧ ∃ B, w_same A B ∧ w_W E B S1 Sm h')) : g_Ct l mL_unset 8 113 7 107 [.ref (A 0 0), .int x0, .int x1, .ref (A 29 0)] E h (false, fun r h' => r = .inr (some (.int 0)) ∧ ∃ B, w_same A B ∧ w_W E B (q_up2 S1 22 0 v) Sm h') := by
  refine g_Ct.of hl (by decide) (by first | rfl | simp [g_rfc, Value.category]) (Nat.le_of_ble_eq_true rfl) ?_
  intro X hX hXl hR
  show g_Go E X _ h true 0 0 0 [some (.ref (A 0 0)), some (.int x0), some (.int x1), some (.ref (A 29 0)), none] []
  refine g_aload_n hX dL_unset_0 rfl rfl (by first | rfl | exact g_rfr _) 1 rfl ?_
  refine g_iconst hX dL_unset_1 (v := 0) (by decide) 2 rfl ?_
  refine g_aload_n hX dL_unset_2 rfl rfl (by first | rfl | exact g_rfr _) 3 rfl ?_
  refine g_iload_n hX dL_unset_3 rfl rfl 4 rfl ?_
  refine g_iload_n hX dL_unset_4 rfl rfl 5 rfl ?_
  refine g_cV2 (wt := 2) hX (hXl.symm ▸ hct) dL_unset_5 (w_s hW) kL_32 (g_rm.of hR (by decide) (by decide)) (by rw [hR]; show 0 + mc ≤ 7; omega) (by rw [hR]; show 0 + ms ≤ 107; omega) (by first | decide | (simp [Value.category])) (fun q => by cases q) 8 rfl (fun v9 h hP => ?_) (fun k h9 hP => by cases hP.1)
  obtain ⟨hv, B, hB9, hW1⟩ := hP
  cases hv
  show g_Go E X _ h false _ _ 8 _ [.int v, .int 0, .ref (A 29 0)]
  have h29 : h (A 29 0) = some (w_cell E B S1 29 0) := by rw [← hB9.2.1]; exact w_c hW1 29 0 (by decide) ⟨rfl, by decide⟩
  have z29 : E.H0.size ≤ A 29 0 := by rw [← hB9.2.1]; exact w_cb hW1 29 0 (by decide) ⟨rfl, by decide⟩
  refine g_if_eq hX dL_unset_8 15 11 (by decide) rfl (fun c8 => ?_) (fun c8 => ?_)
  · refine g_lconst hX dL_unset_15 (v := 0) (by decide) 16 rfl ?_
    refine g_last hX dL_unset_16 h29 z29 (g_ix.nat (k := 0) (by decide) (by decide)) 17 rfl ?_
    refine g_swapL (g := fun _ => v.toInt64) (fun j hj => (if_pos (by omega)).trans (q_v0 c8)) ?_
    rw [← hB9.2.1]
    refine g_stepC hW1 29 0 (q_up2 S1 22 0 v) (by decide) ⟨rfl, by decide⟩ ⟨rfl, rfl, rfl, rfl, rfl, rfl, rfl⟩ w_uc22 rfl (fun h hW2 => ?_)
    refine g_goto hX dL_unset_17 28 (by decide) ?_
    refine g_iconst hX dL_unset_28 (v := 0) (by decide) 29 rfl ?_
    exact g_iret hX rfl rfl dL_unset_29 ⟨rfl, B, hB9, hW2⟩ rfl (by rw [hR]; show 0 + mc ≤ 7; omega) (by rw [hR]; show 0 + ms ≤ 107; omega)
  · refine g_lconst hX dL_unset_11 (v := 1) (by decide) 12 rfl ?_
    refine g_goto hX dL_unset_12 16 (by decide) ?_
    refine g_last hX dL_unset_16 h29 z29 (g_ix.nat (k := 0) (by decide) (by decide)) 17 rfl ?_
    refine g_swapL (g := fun _ => v.toInt64) (fun j hj => (if_pos (by omega)).trans (q_v1 hz c8)) ?_
    rw [← hB9.2.1]
    refine g_stepC hW1 29 0 (q_up2 S1 22 0 v) (by decide) ⟨rfl, by decide⟩ ⟨rfl, rfl, rfl, rfl, rfl, rfl, rfl⟩ w_uc22 rfl (fun h hW2 => ?_)
    refine g_goto hX dL_unset_17 28 (by decide) ?_
    refine g_iconst hX dL_unset_28 (v := 0) (by decide) 29 rfl ?_
    exact g_iret hX rfl rfl dL_unset_29 ⟨rfl, B, hB9, hW2⟩ rfl (by rw [hR]; show 0 + mc ≤ 7; omega) (by rw [hR]; show 0 + ms ≤ 107; omega)
set_option maxRecDepth 100000 in
set_option maxHeartbeats 4000000 in
theorem h_resolved_1 {l : Launch} (hl : l.stackTraces = false) {E : g_E} {A : w_A} {S Sm : q_S} {h : g_H} (hW : w_W E A S Sm h) {x0 x1 : Int32} (hct : g_Ct l mS_resolved 7 95 1 6 [.ref (A 0 0), .int x0, .int x1] E h (false, fun r h' => r = .inl 1 ∧ h' = h)) : g_Ct l mL_resolved 8 112 7 107 [.ref (A 0 0), .int x0, .int x1, .ref (A 29 0)] E h (false, fun r h' => r = .inr (some (.int 1)) ∧ ∃ B, w_same A B ∧ w_W E B S Sm h') := by
  refine g_Ct.of hl (by decide) (by first | rfl | simp [g_rfc, Value.category]) (Nat.le_of_ble_eq_true rfl) ?_
  intro X hX hXl hR
  show g_Go E X _ h true 0 0 0 [some (.ref (A 0 0)), some (.int x0), some (.int x1), some (.ref (A 29 0)), none] []
  refine g_aload_n hX dL_resolved_0 rfl rfl (by first | rfl | exact g_rfr _) 1 rfl ?_
  refine g_iconst hX dL_resolved_1 (v := 0) (by decide) 2 rfl ?_
  refine g_aload_n hX dL_resolved_2 rfl rfl (by first | rfl | exact g_rfr _) 3 rfl ?_
  refine g_iload_n hX dL_resolved_3 rfl rfl 4 rfl ?_
  refine g_iload_n hX dL_resolved_4 rfl rfl 5 rfl ?_
  refine g_cV2 (wt := 2) hX (hXl.symm ▸ hct) dL_resolved_5 (w_s hW) kL_36 (g_rm.of hR (by decide) (by decide)) (by first | exact Nat.zero_le _ | (rw [hR]; decide)) (by first | exact Nat.zero_le _ | (rw [hR]; decide)) (by first | decide | (simp [Value.category])) (fun q => by cases q) 8 rfl (fun v h9 hP => by cases hP.1) (fun k h9 hP => ?_)
  obtain ⟨hk9, hh9⟩ := hP
  cases hk9
  subst hh9
  refine g_Th.caught hX (g_tb_hit (nm := "java/lang/IndexOutOfBoundsException") (r := []) (by decide) ⟨by decide, (g_in 299 (by decide +kernel) (by decide +kernel)), Or.inl ⟨rfl, rfl⟩⟩) (fun a9 => ?_)
  show g_Go E X _ h9 false _ _ 13 _ [.ref a9]
  refine g_astore hX (L' := [_, _, _, _, _]) dL_resolved_13 (by decide) (by first | rfl | exact g_rfr _) rfl 15 rfl ?_
  refine g_iconst hX dL_resolved_15 (v := 1) (by decide) 16 rfl ?_
  exact g_iret hX rfl rfl dL_resolved_16 ⟨rfl, A, ⟨rfl, rfl, rfl⟩, hW⟩ rfl (by rw [hR]; decide) (by rw [hR]; decide)
set_option maxRecDepth 100000 in
set_option maxHeartbeats 4000000 in
theorem h_resolved_0 {l : Launch} (hl : l.stackTraces = false) {E : g_E} {A : w_A} {S Sm : q_S} {h : g_H} (hW : w_W E A S Sm h) {x0 x1 : Int32} (hct : g_Ct l mS_resolved 7 95 1 6 [.ref (A 0 0), .int x0, .int x1] E h (false, fun r h' => r = .inl 0 ∧ h' = h)) : g_Ct l mL_resolved 8 112 7 107 [.ref (A 0 0), .int x0, .int x1, .ref (A 29 0)] E h (false, fun r h' => r = .inr (some (.int 2)) ∧ ∃ B, w_same A B ∧ w_W E B S Sm h') := by
  refine g_Ct.of hl (by decide) (by first | rfl | simp [g_rfc, Value.category]) (Nat.le_of_ble_eq_true rfl) ?_
  intro X hX hXl hR
  show g_Go E X _ h true 0 0 0 [some (.ref (A 0 0)), some (.int x0), some (.int x1), some (.ref (A 29 0)), none] []
  refine g_aload_n hX dL_resolved_0 rfl rfl (by first | rfl | exact g_rfr _) 1 rfl ?_
  refine g_iconst hX dL_resolved_1 (v := 0) (by decide) 2 rfl ?_
  refine g_aload_n hX dL_resolved_2 rfl rfl (by first | rfl | exact g_rfr _) 3 rfl ?_
  refine g_iload_n hX dL_resolved_3 rfl rfl 4 rfl ?_
  refine g_iload_n hX dL_resolved_4 rfl rfl 5 rfl ?_
  refine g_cV2 (wt := 2) hX (hXl.symm ▸ hct) dL_resolved_5 (w_s hW) kL_36 (g_rm.of hR (by decide) (by decide)) (by first | exact Nat.zero_le _ | (rw [hR]; decide)) (by first | exact Nat.zero_le _ | (rw [hR]; decide)) (by first | decide | (simp [Value.category])) (fun q => by cases q) 8 rfl (fun v h9 hP => by cases hP.1) (fun k h9 hP => ?_)
  obtain ⟨hk9, hh9⟩ := hP
  cases hk9
  subst hh9
  refine g_Th.caught hX (g_tb_no (nm := "java/lang/IndexOutOfBoundsException") (by decide) ⟨by decide, (g_in 299 (by decide +kernel) (by decide +kernel)), Or.inr ⟨rfl, g_inc 0 rfl⟩⟩ (g_tb_hit (nm := "java/lang/IllegalArgumentException") (r := []) (by decide) ⟨by decide, (g_in 298 (by decide +kernel) (by decide +kernel)), Or.inl ⟨rfl, rfl⟩⟩)) (fun a9 => ?_)
  show g_Go E X _ h9 false _ _ 17 _ [.ref a9]
  refine g_astore hX (L' := [_, _, _, _, _]) dL_resolved_17 (by decide) (by first | rfl | exact g_rfr _) rfl 19 rfl ?_
  refine g_iconst hX dL_resolved_19 (v := 2) (by decide) 20 rfl ?_
  exact g_iret hX rfl rfl dL_resolved_20 ⟨rfl, A, ⟨rfl, rfl, rfl⟩, hW⟩ rfl (by rw [hR]; decide) (by rw [hR]; decide)
set_option maxRecDepth 100000 in
set_option maxHeartbeats 4000000 in
theorem h_resolved {l : Launch} (hl : l.stackTraces = false) {E : g_E} {A : w_A} {S Sm : q_S} {h : g_H} (hW : w_W E A S Sm h) {x0 x1 : Int32} {v : Int32} {S1 : q_S} {mc ms : Nat} (hmc : mc ≤ 7) (hms : ms ≤ 107) (hct : g_Ct l mS_resolved 7 95 mc ms [.ref (A 0 0), .int x0, .int x1] E h (false, fun r h' => r = .inr (some (.int v)) ∧ ∃ B, w_same A B ∧ w_W E B S1 Sm h')) : g_Ct l mL_resolved 8 112 7 107 [.ref (A 0 0), .int x0, .int x1, .ref (A 29 0)] E h (false, fun r h' => r = .inr (some (.int 0)) ∧ ∃ B, w_same A B ∧ w_W E B (q_up2 S1 22 0 v) Sm h') := by
  refine g_Ct.of hl (by decide) (by first | rfl | simp [g_rfc, Value.category]) (Nat.le_of_ble_eq_true rfl) ?_
  intro X hX hXl hR
  show g_Go E X _ h true 0 0 0 [some (.ref (A 0 0)), some (.int x0), some (.int x1), some (.ref (A 29 0)), none] []
  refine g_aload_n hX dL_resolved_0 rfl rfl (by first | rfl | exact g_rfr _) 1 rfl ?_
  refine g_iconst hX dL_resolved_1 (v := 0) (by decide) 2 rfl ?_
  refine g_aload_n hX dL_resolved_2 rfl rfl (by first | rfl | exact g_rfr _) 3 rfl ?_
  refine g_iload_n hX dL_resolved_3 rfl rfl 4 rfl ?_
  refine g_iload_n hX dL_resolved_4 rfl rfl 5 rfl ?_
  refine g_cV2 (wt := 2) hX (hXl.symm ▸ hct) dL_resolved_5 (w_s hW) kL_36 (g_rm.of hR (by decide) (by decide)) (by rw [hR]; show 0 + mc ≤ 7; omega) (by rw [hR]; show 0 + ms ≤ 107; omega) (by first | decide | (simp [Value.category])) (fun q => by cases q) 8 rfl (fun v9 h hP => ?_) (fun k h9 hP => by cases hP.1)
  obtain ⟨hv, B, hB9, hW1⟩ := hP
  cases hv
  show g_Go E X _ h false _ _ 8 _ [.int v, .int 0, .ref (A 29 0)]
  have h29 : h (A 29 0) = some (w_cell E B S1 29 0) := by rw [← hB9.2.1]; exact w_c hW1 29 0 (by decide) ⟨rfl, by decide⟩
  have z29 : E.H0.size ≤ A 29 0 := by rw [← hB9.2.1]; exact w_cb hW1 29 0 (by decide) ⟨rfl, by decide⟩
  refine g_i2l hX dL_resolved_8 rfl 9 rfl ?_
  refine g_last hX dL_resolved_9 h29 z29 (g_ix.nat (k := 0) (by decide) (by decide)) 10 rfl ?_
  refine g_swapL (g := fun _ => v.toInt64) (fun j hj => (if_pos (by omega)).trans rfl) ?_
  rw [← hB9.2.1]
  refine g_stepC hW1 29 0 (q_up2 S1 22 0 v) (by decide) ⟨rfl, by decide⟩ ⟨rfl, rfl, rfl, rfl, rfl, rfl, rfl⟩ w_uc22 rfl (fun h hW2 => ?_)
  refine g_goto hX dL_resolved_10 21 (by decide) ?_
  refine g_iconst hX dL_resolved_21 (v := 0) (by decide) 22 rfl ?_
  exact g_iret hX rfl rfl dL_resolved_22 ⟨rfl, B, hB9, hW2⟩ rfl (by rw [hR]; show 0 + mc ≤ 7; omega) (by rw [hR]; show 0 + ms ≤ 107; omega)
set_option maxRecDepth 100000 in
set_option maxHeartbeats 4000000 in
theorem h_origin_1 {l : Launch} (hl : l.stackTraces = false) {E : g_E} {A : w_A} {S Sm : q_S} {h : g_H} (hW : w_W E A S Sm h) {x0 x1 : Int32} (hct : g_Ct l mS_origin 7 95 1 6 [.ref (A 0 0), .int x0, .int x1] E h (false, fun r h' => r = .inl 1 ∧ h' = h)) : g_Ct l mL_origin 8 112 7 107 [.ref (A 0 0), .int x0, .int x1, .ref (A 29 0)] E h (false, fun r h' => r = .inr (some (.int 1)) ∧ ∃ B, w_same A B ∧ w_W E B S Sm h') := by
  refine g_Ct.of hl (by decide) (by first | rfl | simp [g_rfc, Value.category]) (Nat.le_of_ble_eq_true rfl) ?_
  intro X hX hXl hR
  show g_Go E X _ h true 0 0 0 [some (.ref (A 0 0)), some (.int x0), some (.int x1), some (.ref (A 29 0)), none] []
  refine g_aload_n hX dL_origin_0 rfl rfl (by first | rfl | exact g_rfr _) 1 rfl ?_
  refine g_iconst hX dL_origin_1 (v := 0) (by decide) 2 rfl ?_
  refine g_aload_n hX dL_origin_2 rfl rfl (by first | rfl | exact g_rfr _) 3 rfl ?_
  refine g_iload_n hX dL_origin_3 rfl rfl 4 rfl ?_
  refine g_iload_n hX dL_origin_4 rfl rfl 5 rfl ?_
  refine g_cV2 (wt := 2) hX (hXl.symm ▸ hct) dL_origin_5 (w_s hW) kL_39 (g_rm.of hR (by decide) (by decide)) (by first | exact Nat.zero_le _ | (rw [hR]; decide)) (by first | exact Nat.zero_le _ | (rw [hR]; decide)) (by first | decide | (simp [Value.category])) (fun q => by cases q) 8 rfl (fun v h9 hP => by cases hP.1) (fun k h9 hP => ?_)
  obtain ⟨hk9, hh9⟩ := hP
  cases hk9
  subst hh9
  refine g_Th.caught hX (g_tb_hit (nm := "java/lang/IndexOutOfBoundsException") (r := []) (by decide) ⟨by decide, (g_in 299 (by decide +kernel) (by decide +kernel)), Or.inl ⟨rfl, rfl⟩⟩) (fun a9 => ?_)
  show g_Go E X _ h9 false _ _ 13 _ [.ref a9]
  refine g_astore hX (L' := [_, _, _, _, _]) dL_origin_13 (by decide) (by first | rfl | exact g_rfr _) rfl 15 rfl ?_
  refine g_iconst hX dL_origin_15 (v := 1) (by decide) 16 rfl ?_
  exact g_iret hX rfl rfl dL_origin_16 ⟨rfl, A, ⟨rfl, rfl, rfl⟩, hW⟩ rfl (by rw [hR]; decide) (by rw [hR]; decide)
set_option maxRecDepth 100000 in
set_option maxHeartbeats 4000000 in
theorem h_origin_0 {l : Launch} (hl : l.stackTraces = false) {E : g_E} {A : w_A} {S Sm : q_S} {h : g_H} (hW : w_W E A S Sm h) {x0 x1 : Int32} (hct : g_Ct l mS_origin 7 95 1 6 [.ref (A 0 0), .int x0, .int x1] E h (false, fun r h' => r = .inl 0 ∧ h' = h)) : g_Ct l mL_origin 8 112 7 107 [.ref (A 0 0), .int x0, .int x1, .ref (A 29 0)] E h (false, fun r h' => r = .inr (some (.int 2)) ∧ ∃ B, w_same A B ∧ w_W E B S Sm h') := by
  refine g_Ct.of hl (by decide) (by first | rfl | simp [g_rfc, Value.category]) (Nat.le_of_ble_eq_true rfl) ?_
  intro X hX hXl hR
  show g_Go E X _ h true 0 0 0 [some (.ref (A 0 0)), some (.int x0), some (.int x1), some (.ref (A 29 0)), none] []
  refine g_aload_n hX dL_origin_0 rfl rfl (by first | rfl | exact g_rfr _) 1 rfl ?_
  refine g_iconst hX dL_origin_1 (v := 0) (by decide) 2 rfl ?_
  refine g_aload_n hX dL_origin_2 rfl rfl (by first | rfl | exact g_rfr _) 3 rfl ?_
  refine g_iload_n hX dL_origin_3 rfl rfl 4 rfl ?_
  refine g_iload_n hX dL_origin_4 rfl rfl 5 rfl ?_
  refine g_cV2 (wt := 2) hX (hXl.symm ▸ hct) dL_origin_5 (w_s hW) kL_39 (g_rm.of hR (by decide) (by decide)) (by first | exact Nat.zero_le _ | (rw [hR]; decide)) (by first | exact Nat.zero_le _ | (rw [hR]; decide)) (by first | decide | (simp [Value.category])) (fun q => by cases q) 8 rfl (fun v h9 hP => by cases hP.1) (fun k h9 hP => ?_)
  obtain ⟨hk9, hh9⟩ := hP
  cases hk9
  subst hh9
  refine g_Th.caught hX (g_tb_no (nm := "java/lang/IndexOutOfBoundsException") (by decide) ⟨by decide, (g_in 299 (by decide +kernel) (by decide +kernel)), Or.inr ⟨rfl, g_inc 0 rfl⟩⟩ (g_tb_hit (nm := "java/lang/IllegalArgumentException") (r := []) (by decide) ⟨by decide, (g_in 298 (by decide +kernel) (by decide +kernel)), Or.inl ⟨rfl, rfl⟩⟩)) (fun a9 => ?_)
  show g_Go E X _ h9 false _ _ 17 _ [.ref a9]
  refine g_astore hX (L' := [_, _, _, _, _]) dL_origin_17 (by decide) (by first | rfl | exact g_rfr _) rfl 19 rfl ?_
  refine g_iconst hX dL_origin_19 (v := 2) (by decide) 20 rfl ?_
  exact g_iret hX rfl rfl dL_origin_20 ⟨rfl, A, ⟨rfl, rfl, rfl⟩, hW⟩ rfl (by rw [hR]; decide) (by rw [hR]; decide)
set_option maxRecDepth 100000 in
set_option maxHeartbeats 4000000 in
theorem h_origin {l : Launch} (hl : l.stackTraces = false) {E : g_E} {A : w_A} {S Sm : q_S} {h : g_H} (hW : w_W E A S Sm h) {x0 x1 : Int32} {v : Int32} {S1 : q_S} {mc ms : Nat} (hmc : mc ≤ 7) (hms : ms ≤ 107) (hct : g_Ct l mS_origin 7 95 mc ms [.ref (A 0 0), .int x0, .int x1] E h (false, fun r h' => r = .inr (some (.int v)) ∧ ∃ B, w_same A B ∧ w_W E B S1 Sm h')) : g_Ct l mL_origin 8 112 7 107 [.ref (A 0 0), .int x0, .int x1, .ref (A 29 0)] E h (false, fun r h' => r = .inr (some (.int 0)) ∧ ∃ B, w_same A B ∧ w_W E B (q_up2 S1 22 0 v) Sm h') := by
  refine g_Ct.of hl (by decide) (by first | rfl | simp [g_rfc, Value.category]) (Nat.le_of_ble_eq_true rfl) ?_
  intro X hX hXl hR
  show g_Go E X _ h true 0 0 0 [some (.ref (A 0 0)), some (.int x0), some (.int x1), some (.ref (A 29 0)), none] []
  refine g_aload_n hX dL_origin_0 rfl rfl (by first | rfl | exact g_rfr _) 1 rfl ?_
  refine g_iconst hX dL_origin_1 (v := 0) (by decide) 2 rfl ?_
  refine g_aload_n hX dL_origin_2 rfl rfl (by first | rfl | exact g_rfr _) 3 rfl ?_
  refine g_iload_n hX dL_origin_3 rfl rfl 4 rfl ?_
  refine g_iload_n hX dL_origin_4 rfl rfl 5 rfl ?_
  refine g_cV2 (wt := 2) hX (hXl.symm ▸ hct) dL_origin_5 (w_s hW) kL_39 (g_rm.of hR (by decide) (by decide)) (by rw [hR]; show 0 + mc ≤ 7; omega) (by rw [hR]; show 0 + ms ≤ 107; omega) (by first | decide | (simp [Value.category])) (fun q => by cases q) 8 rfl (fun v9 h hP => ?_) (fun k h9 hP => by cases hP.1)
  obtain ⟨hv, B, hB9, hW1⟩ := hP
  cases hv
  show g_Go E X _ h false _ _ 8 _ [.int v, .int 0, .ref (A 29 0)]
  have h29 : h (A 29 0) = some (w_cell E B S1 29 0) := by rw [← hB9.2.1]; exact w_c hW1 29 0 (by decide) ⟨rfl, by decide⟩
  have z29 : E.H0.size ≤ A 29 0 := by rw [← hB9.2.1]; exact w_cb hW1 29 0 (by decide) ⟨rfl, by decide⟩
  refine g_i2l hX dL_origin_8 rfl 9 rfl ?_
  refine g_last hX dL_origin_9 h29 z29 (g_ix.nat (k := 0) (by decide) (by decide)) 10 rfl ?_
  refine g_swapL (g := fun _ => v.toInt64) (fun j hj => (if_pos (by omega)).trans rfl) ?_
  rw [← hB9.2.1]
  refine g_stepC hW1 29 0 (q_up2 S1 22 0 v) (by decide) ⟨rfl, by decide⟩ ⟨rfl, rfl, rfl, rfl, rfl, rfl, rfl⟩ w_uc22 rfl (fun h hW2 => ?_)
  refine g_goto hX dL_origin_10 21 (by decide) ?_
  refine g_iconst hX dL_origin_21 (v := 0) (by decide) 22 rfl ?_
  exact g_iret hX rfl rfl dL_origin_22 ⟨rfl, B, hB9, hW2⟩ rfl (by rw [hR]; show 0 + mc ≤ 7; omega) (by rw [hR]; show 0 + ms ≤ 107; omega)
set_option maxRecDepth 100000 in
set_option maxHeartbeats 4000000 in
theorem h_binding_1 {l : Launch} (hl : l.stackTraces = false) {E : g_E} {A : w_A} {S Sm : q_S} {h : g_H} (hW : w_W E A S Sm h) {x0 : Int32} (hct : g_Ct l mS_binding 7 95 1 6 [.ref (A 0 0), .int x0] E h (false, fun r h' => r = .inl 1 ∧ h' = h)) : g_Ct l mL_binding 8 111 7 107 [.ref (A 0 0), .int x0, .ref (A 29 0)] E h (false, fun r h' => r = .inr (some (.int 1)) ∧ ∃ B, w_same A B ∧ w_W E B S Sm h') := by
  refine g_Ct.of hl (by decide) (by first | rfl | simp [g_rfc, Value.category]) (Nat.le_of_ble_eq_true rfl) ?_
  intro X hX hXl hR
  show g_Go E X _ h true 0 0 0 [some (.ref (A 0 0)), some (.int x0), some (.ref (A 29 0)), none] []
  refine g_aload_n hX dL_binding_0 rfl rfl (by first | rfl | exact g_rfr _) 1 rfl ?_
  refine g_iconst hX dL_binding_1 (v := 0) (by decide) 2 rfl ?_
  refine g_aload_n hX dL_binding_2 rfl rfl (by first | rfl | exact g_rfr _) 3 rfl ?_
  refine g_iload_n hX dL_binding_3 rfl rfl 4 rfl ?_
  refine g_cV1 (wt := 2) hX (hXl.symm ▸ hct) dL_binding_4 (w_s hW) kL_42 (g_rm.of hR (by decide) (by decide)) (by first | exact Nat.zero_le _ | (rw [hR]; decide)) (by first | exact Nat.zero_le _ | (rw [hR]; decide)) (by first | decide | (simp [Value.category])) (fun q => by cases q) 7 rfl (fun v h9 hP => by cases hP.1) (fun k h9 hP => ?_)
  obtain ⟨hk9, hh9⟩ := hP
  cases hk9
  subst hh9
  refine g_Th.caught hX (g_tb_hit (nm := "java/lang/IndexOutOfBoundsException") (r := []) (by decide) ⟨by decide, (g_in 299 (by decide +kernel) (by decide +kernel)), Or.inl ⟨rfl, rfl⟩⟩) (fun a9 => ?_)
  show g_Go E X _ h9 false _ _ 12 _ [.ref a9]
  refine g_astore_n hX (L' := [_, _, _, _]) dL_binding_12 rfl (by decide) (by first | rfl | exact g_rfr _) rfl 13 rfl ?_
  refine g_iconst hX dL_binding_13 (v := 1) (by decide) 14 rfl ?_
  exact g_iret hX rfl rfl dL_binding_14 ⟨rfl, A, ⟨rfl, rfl, rfl⟩, hW⟩ rfl (by rw [hR]; decide) (by rw [hR]; decide)
set_option maxRecDepth 100000 in
set_option maxHeartbeats 4000000 in
theorem h_binding {l : Launch} (hl : l.stackTraces = false) {E : g_E} {A : w_A} {S Sm : q_S} {h : g_H} (hW : w_W E A S Sm h) {x0 : Int32} {v : Int32} {S1 : q_S} {mc ms : Nat} (hmc : mc ≤ 7) (hms : ms ≤ 107) (hct : g_Ct l mS_binding 7 95 mc ms [.ref (A 0 0), .int x0] E h (false, fun r h' => r = .inr (some (.int v)) ∧ ∃ B, w_same A B ∧ w_W E B S1 Sm h')) : g_Ct l mL_binding 8 111 7 107 [.ref (A 0 0), .int x0, .ref (A 29 0)] E h (false, fun r h' => r = .inr (some (.int 0)) ∧ ∃ B, w_same A B ∧ w_W E B (q_up2 S1 22 0 v) Sm h') := by
  refine g_Ct.of hl (by decide) (by first | rfl | simp [g_rfc, Value.category]) (Nat.le_of_ble_eq_true rfl) ?_
  intro X hX hXl hR
  show g_Go E X _ h true 0 0 0 [some (.ref (A 0 0)), some (.int x0), some (.ref (A 29 0)), none] []
  refine g_aload_n hX dL_binding_0 rfl rfl (by first | rfl | exact g_rfr _) 1 rfl ?_
  refine g_iconst hX dL_binding_1 (v := 0) (by decide) 2 rfl ?_
  refine g_aload_n hX dL_binding_2 rfl rfl (by first | rfl | exact g_rfr _) 3 rfl ?_
  refine g_iload_n hX dL_binding_3 rfl rfl 4 rfl ?_
  refine g_cV1 (wt := 2) hX (hXl.symm ▸ hct) dL_binding_4 (w_s hW) kL_42 (g_rm.of hR (by decide) (by decide)) (by rw [hR]; show 0 + mc ≤ 7; omega) (by rw [hR]; show 0 + ms ≤ 107; omega) (by first | decide | (simp [Value.category])) (fun q => by cases q) 7 rfl (fun v9 h hP => ?_) (fun k h9 hP => by cases hP.1)
  obtain ⟨hv, B, hB9, hW1⟩ := hP
  cases hv
  show g_Go E X _ h false _ _ 7 _ [.int v, .int 0, .ref (A 29 0)]
  have h29 : h (A 29 0) = some (w_cell E B S1 29 0) := by rw [← hB9.2.1]; exact w_c hW1 29 0 (by decide) ⟨rfl, by decide⟩
  have z29 : E.H0.size ≤ A 29 0 := by rw [← hB9.2.1]; exact w_cb hW1 29 0 (by decide) ⟨rfl, by decide⟩
  refine g_i2l hX dL_binding_7 rfl 8 rfl ?_
  refine g_last hX dL_binding_8 h29 z29 (g_ix.nat (k := 0) (by decide) (by decide)) 9 rfl ?_
  refine g_swapL (g := fun _ => v.toInt64) (fun j hj => (if_pos (by omega)).trans rfl) ?_
  rw [← hB9.2.1]
  refine g_stepC hW1 29 0 (q_up2 S1 22 0 v) (by decide) ⟨rfl, by decide⟩ ⟨rfl, rfl, rfl, rfl, rfl, rfl, rfl⟩ w_uc22 rfl (fun h hW2 => ?_)
  refine g_goto hX dL_binding_9 15 (by decide) ?_
  refine g_iconst hX dL_binding_15 (v := 0) (by decide) 16 rfl ?_
  exact g_iret hX rfl rfl dL_binding_16 ⟨rfl, B, hB9, hW2⟩ rfl (by rw [hR]; show 0 + mc ≤ 7; omega) (by rw [hR]; show 0 + ms ≤ 107; omega)
set_option maxRecDepth 100000 in
set_option maxHeartbeats 4000000 in
theorem h_write_1 {l : Launch} (hl : l.stackTraces = false) {E : g_E} {A : w_A} {S Sm : q_S} {h : g_H} (hW : w_W E A S Sm h) {x0 x1 x2 : Int32} (hct : g_Ct l mS_write 7 121 1 6 [.ref (A 0 0), .int x0, .int x1, .int x2] E h (false, fun r h' => r = .inl 1 ∧ h' = h)) : g_Ct l mL_write 8 139 7 107 [.ref (A 0 0), .int x0, .int x1, .int x2, .ref (A 29 0)] E h (false, fun r h' => r = .inr (some (.int 1)) ∧ ∃ B, w_same A B ∧ w_W E B S Sm h') := by
  refine g_Ct.of hl (by decide) (by first | rfl | simp [g_rfc, Value.category]) (Nat.le_of_ble_eq_true rfl) ?_
  intro X hX hXl hR
  show g_Go E X _ h true 0 0 0 [some (.ref (A 0 0)), some (.int x0), some (.int x1), some (.int x2), some (.ref (A 29 0)), none] []
  refine g_aload hX dL_write_0 rfl (by first | rfl | exact g_rfr _) 2 rfl ?_
  refine g_iconst hX dL_write_2 (v := 0) (by decide) 3 rfl ?_
  refine g_aload_n hX dL_write_3 rfl rfl (by first | rfl | exact g_rfr _) 4 rfl ?_
  refine g_iload_n hX dL_write_4 rfl rfl 5 rfl ?_
  refine g_iload_n hX dL_write_5 rfl rfl 6 rfl ?_
  refine g_iload_n hX dL_write_6 rfl rfl 7 rfl ?_
  refine g_cV3 (wt := 2) hX (hXl.symm ▸ hct) dL_write_7 (w_s hW) kL_46 (g_rm.of hR (by decide) (by decide)) (by first | exact Nat.zero_le _ | (rw [hR]; decide)) (by first | exact Nat.zero_le _ | (rw [hR]; decide)) (by first | decide | (simp [Value.category])) (fun q => by cases q) 10 rfl (fun v h9 hP => by cases hP.1) (fun k h9 hP => ?_)
  obtain ⟨hk9, hh9⟩ := hP
  cases hk9
  subst hh9
  refine g_Th.caught hX (g_tb_hit (nm := "java/lang/IndexOutOfBoundsException") (r := []) (by decide) ⟨by decide, (g_in 299 (by decide +kernel) (by decide +kernel)), Or.inl ⟨rfl, rfl⟩⟩) (fun a9 => ?_)
  show g_Go E X _ h9 false _ _ 15 _ [.ref a9]
  refine g_astore hX (L' := [_, _, _, _, _, _]) dL_write_15 (by decide) (by first | rfl | exact g_rfr _) rfl 17 rfl ?_
  refine g_iconst hX dL_write_17 (v := 1) (by decide) 18 rfl ?_
  exact g_iret hX rfl rfl dL_write_18 ⟨rfl, A, ⟨rfl, rfl, rfl⟩, hW⟩ rfl (by rw [hR]; decide) (by rw [hR]; decide)
set_option maxRecDepth 100000 in
set_option maxHeartbeats 4000000 in
theorem h_write_0 {l : Launch} (hl : l.stackTraces = false) {E : g_E} {A : w_A} {S Sm : q_S} {h : g_H} (hW : w_W E A S Sm h) {x0 x1 x2 : Int32} (hct : g_Ct l mS_write 7 121 1 6 [.ref (A 0 0), .int x0, .int x1, .int x2] E h (false, fun r h' => r = .inl 0 ∧ h' = h)) : g_Ct l mL_write 8 139 7 107 [.ref (A 0 0), .int x0, .int x1, .int x2, .ref (A 29 0)] E h (false, fun r h' => r = .inr (some (.int 2)) ∧ ∃ B, w_same A B ∧ w_W E B S Sm h') := by
  refine g_Ct.of hl (by decide) (by first | rfl | simp [g_rfc, Value.category]) (Nat.le_of_ble_eq_true rfl) ?_
  intro X hX hXl hR
  show g_Go E X _ h true 0 0 0 [some (.ref (A 0 0)), some (.int x0), some (.int x1), some (.int x2), some (.ref (A 29 0)), none] []
  refine g_aload hX dL_write_0 rfl (by first | rfl | exact g_rfr _) 2 rfl ?_
  refine g_iconst hX dL_write_2 (v := 0) (by decide) 3 rfl ?_
  refine g_aload_n hX dL_write_3 rfl rfl (by first | rfl | exact g_rfr _) 4 rfl ?_
  refine g_iload_n hX dL_write_4 rfl rfl 5 rfl ?_
  refine g_iload_n hX dL_write_5 rfl rfl 6 rfl ?_
  refine g_iload_n hX dL_write_6 rfl rfl 7 rfl ?_
  refine g_cV3 (wt := 2) hX (hXl.symm ▸ hct) dL_write_7 (w_s hW) kL_46 (g_rm.of hR (by decide) (by decide)) (by first | exact Nat.zero_le _ | (rw [hR]; decide)) (by first | exact Nat.zero_le _ | (rw [hR]; decide)) (by first | decide | (simp [Value.category])) (fun q => by cases q) 10 rfl (fun v h9 hP => by cases hP.1) (fun k h9 hP => ?_)
  obtain ⟨hk9, hh9⟩ := hP
  cases hk9
  subst hh9
  refine g_Th.caught hX (g_tb_no (nm := "java/lang/IndexOutOfBoundsException") (by decide) ⟨by decide, (g_in 299 (by decide +kernel) (by decide +kernel)), Or.inr ⟨rfl, g_inc 0 rfl⟩⟩ (g_tb_hit (nm := "java/lang/IllegalArgumentException") (r := []) (by decide) ⟨by decide, (g_in 298 (by decide +kernel) (by decide +kernel)), Or.inl ⟨rfl, rfl⟩⟩)) (fun a9 => ?_)
  show g_Go E X _ h9 false _ _ 19 _ [.ref a9]
  refine g_astore hX (L' := [_, _, _, _, _, _]) dL_write_19 (by decide) (by first | rfl | exact g_rfr _) rfl 21 rfl ?_
  refine g_iconst hX dL_write_21 (v := 2) (by decide) 22 rfl ?_
  exact g_iret hX rfl rfl dL_write_22 ⟨rfl, A, ⟨rfl, rfl, rfl⟩, hW⟩ rfl (by rw [hR]; decide) (by rw [hR]; decide)
set_option maxRecDepth 100000 in
set_option maxHeartbeats 4000000 in
theorem h_write_2 {l : Launch} (hl : l.stackTraces = false) {E : g_E} {A : w_A} {S Sm : q_S} {h : g_H} (hW : w_W E A S Sm h) {x0 x1 x2 : Int32} (hct : g_Ct l mS_write 7 121 1 6 [.ref (A 0 0), .int x0, .int x1, .int x2] E h (false, fun r h' => r = .inl 2 ∧ h' = h)) : g_Ct l mL_write 8 139 7 107 [.ref (A 0 0), .int x0, .int x1, .int x2, .ref (A 29 0)] E h (false, fun r h' => r = .inr (some (.int 3)) ∧ ∃ B, w_same A B ∧ w_W E B S Sm h') := by
  refine g_Ct.of hl (by decide) (by first | rfl | simp [g_rfc, Value.category]) (Nat.le_of_ble_eq_true rfl) ?_
  intro X hX hXl hR
  show g_Go E X _ h true 0 0 0 [some (.ref (A 0 0)), some (.int x0), some (.int x1), some (.int x2), some (.ref (A 29 0)), none] []
  refine g_aload hX dL_write_0 rfl (by first | rfl | exact g_rfr _) 2 rfl ?_
  refine g_iconst hX dL_write_2 (v := 0) (by decide) 3 rfl ?_
  refine g_aload_n hX dL_write_3 rfl rfl (by first | rfl | exact g_rfr _) 4 rfl ?_
  refine g_iload_n hX dL_write_4 rfl rfl 5 rfl ?_
  refine g_iload_n hX dL_write_5 rfl rfl 6 rfl ?_
  refine g_iload_n hX dL_write_6 rfl rfl 7 rfl ?_
  refine g_cV3 (wt := 2) hX (hXl.symm ▸ hct) dL_write_7 (w_s hW) kL_46 (g_rm.of hR (by decide) (by decide)) (by first | exact Nat.zero_le _ | (rw [hR]; decide)) (by first | exact Nat.zero_le _ | (rw [hR]; decide)) (by first | decide | (simp [Value.category])) (fun q => by cases q) 10 rfl (fun v h9 hP => by cases hP.1) (fun k h9 hP => ?_)
  obtain ⟨hk9, hh9⟩ := hP
  cases hk9
  subst hh9
  refine g_Th.caught hX (g_tb_no (nm := "java/lang/IndexOutOfBoundsException") (by decide) ⟨by decide, (g_in 299 (by decide +kernel) (by decide +kernel)), Or.inr ⟨rfl, g_inc 7 rfl⟩⟩ (g_tb_no (nm := "java/lang/IllegalArgumentException") (by decide) ⟨by decide, (g_in 298 (by decide +kernel) (by decide +kernel)), Or.inr ⟨rfl, g_inc 6 rfl⟩⟩ (g_tb_hit (nm := "java/lang/IllegalStateException") (r := []) (by decide) ⟨by decide, (g_in 300 (by decide +kernel) (by decide +kernel)), Or.inl ⟨rfl, rfl⟩⟩))) (fun a9 => ?_)
  show g_Go E X _ h9 false _ _ 23 _ [.ref a9]
  refine g_astore hX (L' := [_, _, _, _, _, _]) dL_write_23 (by decide) (by first | rfl | exact g_rfr _) rfl 25 rfl ?_
  refine g_iconst hX dL_write_25 (v := 3) (by decide) 26 rfl ?_
  exact g_iret hX rfl rfl dL_write_26 ⟨rfl, A, ⟨rfl, rfl, rfl⟩, hW⟩ rfl (by rw [hR]; decide) (by rw [hR]; decide)
set_option maxRecDepth 100000 in
set_option maxHeartbeats 4000000 in
theorem h_write {l : Launch} (hl : l.stackTraces = false) {E : g_E} {A : w_A} {S Sm : q_S} {h : g_H} (hW : w_W E A S Sm h) {x0 x1 x2 : Int32} {v : Int32} {S1 : q_S} {mc ms : Nat} (hmc : mc ≤ 7) (hms : ms ≤ 107) (hct : g_Ct l mS_write 7 121 mc ms [.ref (A 0 0), .int x0, .int x1, .int x2] E h (false, fun r h' => r = .inr (some (.int v)) ∧ ∃ B, w_same A B ∧ w_W E B S1 Sm h')) : g_Ct l mL_write 8 139 7 107 [.ref (A 0 0), .int x0, .int x1, .int x2, .ref (A 29 0)] E h (false, fun r h' => r = .inr (some (.int 0)) ∧ ∃ B, w_same A B ∧ w_W E B (q_up2 S1 22 0 v) Sm h') := by
  refine g_Ct.of hl (by decide) (by first | rfl | simp [g_rfc, Value.category]) (Nat.le_of_ble_eq_true rfl) ?_
  intro X hX hXl hR
  show g_Go E X _ h true 0 0 0 [some (.ref (A 0 0)), some (.int x0), some (.int x1), some (.int x2), some (.ref (A 29 0)), none] []
  refine g_aload hX dL_write_0 rfl (by first | rfl | exact g_rfr _) 2 rfl ?_
  refine g_iconst hX dL_write_2 (v := 0) (by decide) 3 rfl ?_
  refine g_aload_n hX dL_write_3 rfl rfl (by first | rfl | exact g_rfr _) 4 rfl ?_
  refine g_iload_n hX dL_write_4 rfl rfl 5 rfl ?_
  refine g_iload_n hX dL_write_5 rfl rfl 6 rfl ?_
  refine g_iload_n hX dL_write_6 rfl rfl 7 rfl ?_
  refine g_cV3 (wt := 2) hX (hXl.symm ▸ hct) dL_write_7 (w_s hW) kL_46 (g_rm.of hR (by decide) (by decide)) (by rw [hR]; show 0 + mc ≤ 7; omega) (by rw [hR]; show 0 + ms ≤ 107; omega) (by first | decide | (simp [Value.category])) (fun q => by cases q) 10 rfl (fun v9 h hP => ?_) (fun k h9 hP => by cases hP.1)
  obtain ⟨hv, B, hB9, hW1⟩ := hP
  cases hv
  show g_Go E X _ h false _ _ 10 _ [.int v, .int 0, .ref (A 29 0)]
  have h29 : h (A 29 0) = some (w_cell E B S1 29 0) := by rw [← hB9.2.1]; exact w_c hW1 29 0 (by decide) ⟨rfl, by decide⟩
  have z29 : E.H0.size ≤ A 29 0 := by rw [← hB9.2.1]; exact w_cb hW1 29 0 (by decide) ⟨rfl, by decide⟩
  refine g_i2l hX dL_write_10 rfl 11 rfl ?_
  refine g_last hX dL_write_11 h29 z29 (g_ix.nat (k := 0) (by decide) (by decide)) 12 rfl ?_
  refine g_swapL (g := fun _ => v.toInt64) (fun j hj => (if_pos (by omega)).trans rfl) ?_
  rw [← hB9.2.1]
  refine g_stepC hW1 29 0 (q_up2 S1 22 0 v) (by decide) ⟨rfl, by decide⟩ ⟨rfl, rfl, rfl, rfl, rfl, rfl, rfl⟩ w_uc22 rfl (fun h hW2 => ?_)
  refine g_goto hX dL_write_12 27 (by decide) ?_
  refine g_iconst hX dL_write_27 (v := 0) (by decide) 28 rfl ?_
  exact g_iret hX rfl rfl dL_write_28 ⟨rfl, B, hB9, hW2⟩ rfl (by rw [hR]; show 0 + mc ≤ 7; omega) (by rw [hR]; show 0 + ms ≤ 107; omega)
set_option maxRecDepth 100000 in
set_option maxHeartbeats 4000000 in
theorem h_scale_1 {l : Launch} (hl : l.stackTraces = false) {E : g_E} {A : w_A} {S Sm : q_S} {h : g_H} (hW : w_W E A S Sm h) {x0 : Int32} (hct : g_Ct l mS_scale 7 100 1 6 [.ref (A 0 0), .int x0] E h (false, fun r h' => r = .inl 1 ∧ h' = h)) : g_Ct l mL_scale 8 115 7 107 [.ref (A 0 0), .int x0, .ref (A 29 0)] E h (false, fun r h' => r = .inr (some (.int 1)) ∧ ∃ B, w_same A B ∧ w_W E B S Sm h') := by
  refine g_Ct.of hl (by decide) (by first | rfl | simp [g_rfc, Value.category]) (Nat.le_of_ble_eq_true rfl) ?_
  intro X hX hXl hR
  show g_Go E X _ h true 0 0 0 [some (.ref (A 0 0)), some (.int x0), some (.ref (A 29 0)), none] []
  refine g_aload_n hX dL_scale_0 rfl rfl (by first | rfl | exact g_rfr _) 1 rfl ?_
  refine g_iconst hX dL_scale_1 (v := 0) (by decide) 2 rfl ?_
  refine g_aload_n hX dL_scale_2 rfl rfl (by first | rfl | exact g_rfr _) 3 rfl ?_
  refine g_iload_n hX dL_scale_3 rfl rfl 4 rfl ?_
  refine g_cV1 (wt := 2) hX (hXl.symm ▸ hct) dL_scale_4 (w_s hW) kL_50 (g_rm.of hR (by decide) (by decide)) (by first | exact Nat.zero_le _ | (rw [hR]; decide)) (by first | exact Nat.zero_le _ | (rw [hR]; decide)) (by first | decide | (simp [Value.category])) (fun q => by cases q) 7 rfl (fun v h9 hP => by cases hP.1) (fun k h9 hP => ?_)
  obtain ⟨hk9, hh9⟩ := hP
  cases hk9
  subst hh9
  refine g_Th.caught hX (g_tb_hit (nm := "java/lang/IndexOutOfBoundsException") (r := []) (by decide) ⟨by decide, (g_in 299 (by decide +kernel) (by decide +kernel)), Or.inl ⟨rfl, rfl⟩⟩) (fun a9 => ?_)
  show g_Go E X _ h9 false _ _ 12 _ [.ref a9]
  refine g_astore_n hX (L' := [_, _, _, _]) dL_scale_12 rfl (by decide) (by first | rfl | exact g_rfr _) rfl 13 rfl ?_
  refine g_iconst hX dL_scale_13 (v := 1) (by decide) 14 rfl ?_
  exact g_iret hX rfl rfl dL_scale_14 ⟨rfl, A, ⟨rfl, rfl, rfl⟩, hW⟩ rfl (by rw [hR]; decide) (by rw [hR]; decide)
set_option maxRecDepth 100000 in
set_option maxHeartbeats 4000000 in
theorem h_scale {l : Launch} (hl : l.stackTraces = false) {E : g_E} {A : w_A} {S Sm : q_S} {h : g_H} (hW : w_W E A S Sm h) {x0 : Int32} {v : Int32} {S1 : q_S} {mc ms : Nat} (hmc : mc ≤ 7) (hms : ms ≤ 107) (hct : g_Ct l mS_scale 7 100 mc ms [.ref (A 0 0), .int x0] E h (false, fun r h' => r = .inr (some (.int v)) ∧ ∃ B, w_same A B ∧ w_W E B S1 Sm h')) : g_Ct l mL_scale 8 115 7 107 [.ref (A 0 0), .int x0, .ref (A 29 0)] E h (false, fun r h' => r = .inr (some (.int 0)) ∧ ∃ B, w_same A B ∧ w_W E B (q_up2 S1 22 0 v) Sm h') := by
  refine g_Ct.of hl (by decide) (by first | rfl | simp [g_rfc, Value.category]) (Nat.le_of_ble_eq_true rfl) ?_
  intro X hX hXl hR
  show g_Go E X _ h true 0 0 0 [some (.ref (A 0 0)), some (.int x0), some (.ref (A 29 0)), none] []
  refine g_aload_n hX dL_scale_0 rfl rfl (by first | rfl | exact g_rfr _) 1 rfl ?_
  refine g_iconst hX dL_scale_1 (v := 0) (by decide) 2 rfl ?_
  refine g_aload_n hX dL_scale_2 rfl rfl (by first | rfl | exact g_rfr _) 3 rfl ?_
  refine g_iload_n hX dL_scale_3 rfl rfl 4 rfl ?_
  refine g_cV1 (wt := 2) hX (hXl.symm ▸ hct) dL_scale_4 (w_s hW) kL_50 (g_rm.of hR (by decide) (by decide)) (by rw [hR]; show 0 + mc ≤ 7; omega) (by rw [hR]; show 0 + ms ≤ 107; omega) (by first | decide | (simp [Value.category])) (fun q => by cases q) 7 rfl (fun v9 h hP => ?_) (fun k h9 hP => by cases hP.1)
  obtain ⟨hv, B, hB9, hW1⟩ := hP
  cases hv
  show g_Go E X _ h false _ _ 7 _ [.int v, .int 0, .ref (A 29 0)]
  have h29 : h (A 29 0) = some (w_cell E B S1 29 0) := by rw [← hB9.2.1]; exact w_c hW1 29 0 (by decide) ⟨rfl, by decide⟩
  have z29 : E.H0.size ≤ A 29 0 := by rw [← hB9.2.1]; exact w_cb hW1 29 0 (by decide) ⟨rfl, by decide⟩
  refine g_i2l hX dL_scale_7 rfl 8 rfl ?_
  refine g_last hX dL_scale_8 h29 z29 (g_ix.nat (k := 0) (by decide) (by decide)) 9 rfl ?_
  refine g_swapL (g := fun _ => v.toInt64) (fun j hj => (if_pos (by omega)).trans rfl) ?_
  rw [← hB9.2.1]
  refine g_stepC hW1 29 0 (q_up2 S1 22 0 v) (by decide) ⟨rfl, by decide⟩ ⟨rfl, rfl, rfl, rfl, rfl, rfl, rfl⟩ w_uc22 rfl (fun h hW2 => ?_)
  refine g_goto hX dL_scale_9 15 (by decide) ?_
  refine g_iconst hX dL_scale_15 (v := 0) (by decide) 16 rfl ?_
  exact g_iret hX rfl rfl dL_scale_16 ⟨rfl, B, hB9, hW2⟩ rfl (by rw [hR]; show 0 + mc ≤ 7; omega) (by rw [hR]; show 0 + ms ≤ 107; omega)
set_option maxRecDepth 100000 in
set_option maxHeartbeats 4000000 in
theorem h_lines_1 {l : Launch} (hl : l.stackTraces = false) {E : g_E} {A : w_A} {S Sm : q_S} {h : g_H} (hW : w_W E A S Sm h) {x0 : Int32} (hct : g_Ct l mS_lines 7 100 1 6 [.ref (A 0 0), .int x0] E h (false, fun r h' => r = .inl 1 ∧ h' = h)) : g_Ct l mL_lines 8 115 7 107 [.ref (A 0 0), .int x0, .ref (A 29 0)] E h (false, fun r h' => r = .inr (some (.int 1)) ∧ ∃ B, w_same A B ∧ w_W E B S Sm h') := by
  refine g_Ct.of hl (by decide) (by first | rfl | simp [g_rfc, Value.category]) (Nat.le_of_ble_eq_true rfl) ?_
  intro X hX hXl hR
  show g_Go E X _ h true 0 0 0 [some (.ref (A 0 0)), some (.int x0), some (.ref (A 29 0)), none] []
  refine g_aload_n hX dL_lines_0 rfl rfl (by first | rfl | exact g_rfr _) 1 rfl ?_
  refine g_iconst hX dL_lines_1 (v := 0) (by decide) 2 rfl ?_
  refine g_aload_n hX dL_lines_2 rfl rfl (by first | rfl | exact g_rfr _) 3 rfl ?_
  refine g_iload_n hX dL_lines_3 rfl rfl 4 rfl ?_
  refine g_cV1 (wt := 2) hX (hXl.symm ▸ hct) dL_lines_4 (w_s hW) kL_53 (g_rm.of hR (by decide) (by decide)) (by first | exact Nat.zero_le _ | (rw [hR]; decide)) (by first | exact Nat.zero_le _ | (rw [hR]; decide)) (by first | decide | (simp [Value.category])) (fun q => by cases q) 7 rfl (fun v h9 hP => by cases hP.1) (fun k h9 hP => ?_)
  obtain ⟨hk9, hh9⟩ := hP
  cases hk9
  subst hh9
  refine g_Th.caught hX (g_tb_hit (nm := "java/lang/IndexOutOfBoundsException") (r := []) (by decide) ⟨by decide, (g_in 299 (by decide +kernel) (by decide +kernel)), Or.inl ⟨rfl, rfl⟩⟩) (fun a9 => ?_)
  show g_Go E X _ h9 false _ _ 12 _ [.ref a9]
  refine g_astore_n hX (L' := [_, _, _, _]) dL_lines_12 rfl (by decide) (by first | rfl | exact g_rfr _) rfl 13 rfl ?_
  refine g_iconst hX dL_lines_13 (v := 1) (by decide) 14 rfl ?_
  exact g_iret hX rfl rfl dL_lines_14 ⟨rfl, A, ⟨rfl, rfl, rfl⟩, hW⟩ rfl (by rw [hR]; decide) (by rw [hR]; decide)
set_option maxRecDepth 100000 in
set_option maxHeartbeats 4000000 in
theorem h_lines {l : Launch} (hl : l.stackTraces = false) {E : g_E} {A : w_A} {S Sm : q_S} {h : g_H} (hW : w_W E A S Sm h) {x0 : Int32} {v : Int32} {S1 : q_S} {mc ms : Nat} (hmc : mc ≤ 7) (hms : ms ≤ 107) (hct : g_Ct l mS_lines 7 100 mc ms [.ref (A 0 0), .int x0] E h (false, fun r h' => r = .inr (some (.int v)) ∧ ∃ B, w_same A B ∧ w_W E B S1 Sm h')) : g_Ct l mL_lines 8 115 7 107 [.ref (A 0 0), .int x0, .ref (A 29 0)] E h (false, fun r h' => r = .inr (some (.int 0)) ∧ ∃ B, w_same A B ∧ w_W E B (q_up2 S1 22 0 v) Sm h') := by
  refine g_Ct.of hl (by decide) (by first | rfl | simp [g_rfc, Value.category]) (Nat.le_of_ble_eq_true rfl) ?_
  intro X hX hXl hR
  show g_Go E X _ h true 0 0 0 [some (.ref (A 0 0)), some (.int x0), some (.ref (A 29 0)), none] []
  refine g_aload_n hX dL_lines_0 rfl rfl (by first | rfl | exact g_rfr _) 1 rfl ?_
  refine g_iconst hX dL_lines_1 (v := 0) (by decide) 2 rfl ?_
  refine g_aload_n hX dL_lines_2 rfl rfl (by first | rfl | exact g_rfr _) 3 rfl ?_
  refine g_iload_n hX dL_lines_3 rfl rfl 4 rfl ?_
  refine g_cV1 (wt := 2) hX (hXl.symm ▸ hct) dL_lines_4 (w_s hW) kL_53 (g_rm.of hR (by decide) (by decide)) (by rw [hR]; show 0 + mc ≤ 7; omega) (by rw [hR]; show 0 + ms ≤ 107; omega) (by first | decide | (simp [Value.category])) (fun q => by cases q) 7 rfl (fun v9 h hP => ?_) (fun k h9 hP => by cases hP.1)
  obtain ⟨hv, B, hB9, hW1⟩ := hP
  cases hv
  show g_Go E X _ h false _ _ 7 _ [.int v, .int 0, .ref (A 29 0)]
  have h29 : h (A 29 0) = some (w_cell E B S1 29 0) := by rw [← hB9.2.1]; exact w_c hW1 29 0 (by decide) ⟨rfl, by decide⟩
  have z29 : E.H0.size ≤ A 29 0 := by rw [← hB9.2.1]; exact w_cb hW1 29 0 (by decide) ⟨rfl, by decide⟩
  refine g_i2l hX dL_lines_7 rfl 8 rfl ?_
  refine g_last hX dL_lines_8 h29 z29 (g_ix.nat (k := 0) (by decide) (by decide)) 9 rfl ?_
  refine g_swapL (g := fun _ => v.toInt64) (fun j hj => (if_pos (by omega)).trans rfl) ?_
  rw [← hB9.2.1]
  refine g_stepC hW1 29 0 (q_up2 S1 22 0 v) (by decide) ⟨rfl, by decide⟩ ⟨rfl, rfl, rfl, rfl, rfl, rfl, rfl⟩ w_uc22 rfl (fun h hW2 => ?_)
  refine g_goto hX dL_lines_9 15 (by decide) ?_
  refine g_iconst hX dL_lines_15 (v := 0) (by decide) 16 rfl ?_
  exact g_iret hX rfl rfl dL_lines_16 ⟨rfl, B, hB9, hW2⟩ rfl (by rw [hR]; show 0 + mc ≤ 7; omega) (by rw [hR]; show 0 + ms ≤ 107; omega)
set_option maxRecDepth 100000 in
set_option maxHeartbeats 4000000 in
theorem h_line_1 {l : Launch} (hl : l.stackTraces = false) {E : g_E} {A : w_A} {S Sm : q_S} {h : g_H} (hW : w_W E A S Sm h) {x0 x1 x2 : Int32} (hct : g_Ct l mS_line 7 100 1 6 [.ref (A 0 0), .int x0, .int x1, .int x2] E h (false, fun r h' => r = .inl 1 ∧ h' = h)) : g_Ct l mL_line 8 117 7 107 [.ref (A 0 0), .int x0, .int x1, .int x2, .ref (A 29 0)] E h (false, fun r h' => r = .inr (some (.int 1)) ∧ ∃ B, w_same A B ∧ w_W E B S Sm h') := by
  refine g_Ct.of hl (by decide) (by first | rfl | simp [g_rfc, Value.category]) (Nat.le_of_ble_eq_true rfl) ?_
  intro X hX hXl hR
  show g_Go E X _ h true 0 0 0 [some (.ref (A 0 0)), some (.int x0), some (.int x1), some (.int x2), some (.ref (A 29 0)), none] []
  refine g_aload hX dL_line_0 rfl (by first | rfl | exact g_rfr _) 2 rfl ?_
  refine g_iconst hX dL_line_2 (v := 0) (by decide) 3 rfl ?_
  refine g_aload_n hX dL_line_3 rfl rfl (by first | rfl | exact g_rfr _) 4 rfl ?_
  refine g_iload_n hX dL_line_4 rfl rfl 5 rfl ?_
  refine g_iload_n hX dL_line_5 rfl rfl 6 rfl ?_
  refine g_iload_n hX dL_line_6 rfl rfl 7 rfl ?_
  refine g_cV3 (wt := 2) hX (hXl.symm ▸ hct) dL_line_7 (w_s hW) kL_56 (g_rm.of hR (by decide) (by decide)) (by first | exact Nat.zero_le _ | (rw [hR]; decide)) (by first | exact Nat.zero_le _ | (rw [hR]; decide)) (by first | decide | (simp [Value.category])) (fun q => by cases q) 10 rfl (fun v h9 hP => by cases hP.1) (fun k h9 hP => ?_)
  obtain ⟨hk9, hh9⟩ := hP
  cases hk9
  subst hh9
  refine g_Th.caught hX (g_tb_hit (nm := "java/lang/IndexOutOfBoundsException") (r := []) (by decide) ⟨by decide, (g_in 299 (by decide +kernel) (by decide +kernel)), Or.inl ⟨rfl, rfl⟩⟩) (fun a9 => ?_)
  show g_Go E X _ h9 false _ _ 15 _ [.ref a9]
  refine g_astore hX (L' := [_, _, _, _, _, _]) dL_line_15 (by decide) (by first | rfl | exact g_rfr _) rfl 17 rfl ?_
  refine g_iconst hX dL_line_17 (v := 1) (by decide) 18 rfl ?_
  exact g_iret hX rfl rfl dL_line_18 ⟨rfl, A, ⟨rfl, rfl, rfl⟩, hW⟩ rfl (by rw [hR]; decide) (by rw [hR]; decide)
set_option maxRecDepth 100000 in
set_option maxHeartbeats 4000000 in
theorem h_line {l : Launch} (hl : l.stackTraces = false) {E : g_E} {A : w_A} {S Sm : q_S} {h : g_H} (hW : w_W E A S Sm h) {x0 x1 x2 : Int32} {v : Int32} {S1 : q_S} {mc ms : Nat} (hmc : mc ≤ 7) (hms : ms ≤ 107) (hct : g_Ct l mS_line 7 100 mc ms [.ref (A 0 0), .int x0, .int x1, .int x2] E h (false, fun r h' => r = .inr (some (.int v)) ∧ ∃ B, w_same A B ∧ w_W E B S1 Sm h')) : g_Ct l mL_line 8 117 7 107 [.ref (A 0 0), .int x0, .int x1, .int x2, .ref (A 29 0)] E h (false, fun r h' => r = .inr (some (.int 0)) ∧ ∃ B, w_same A B ∧ w_W E B (q_up2 S1 22 0 v) Sm h') := by
  refine g_Ct.of hl (by decide) (by first | rfl | simp [g_rfc, Value.category]) (Nat.le_of_ble_eq_true rfl) ?_
  intro X hX hXl hR
  show g_Go E X _ h true 0 0 0 [some (.ref (A 0 0)), some (.int x0), some (.int x1), some (.int x2), some (.ref (A 29 0)), none] []
  refine g_aload hX dL_line_0 rfl (by first | rfl | exact g_rfr _) 2 rfl ?_
  refine g_iconst hX dL_line_2 (v := 0) (by decide) 3 rfl ?_
  refine g_aload_n hX dL_line_3 rfl rfl (by first | rfl | exact g_rfr _) 4 rfl ?_
  refine g_iload_n hX dL_line_4 rfl rfl 5 rfl ?_
  refine g_iload_n hX dL_line_5 rfl rfl 6 rfl ?_
  refine g_iload_n hX dL_line_6 rfl rfl 7 rfl ?_
  refine g_cV3 (wt := 2) hX (hXl.symm ▸ hct) dL_line_7 (w_s hW) kL_56 (g_rm.of hR (by decide) (by decide)) (by rw [hR]; show 0 + mc ≤ 7; omega) (by rw [hR]; show 0 + ms ≤ 107; omega) (by first | decide | (simp [Value.category])) (fun q => by cases q) 10 rfl (fun v9 h hP => ?_) (fun k h9 hP => by cases hP.1)
  obtain ⟨hv, B, hB9, hW1⟩ := hP
  cases hv
  show g_Go E X _ h false _ _ 10 _ [.int v, .int 0, .ref (A 29 0)]
  have h29 : h (A 29 0) = some (w_cell E B S1 29 0) := by rw [← hB9.2.1]; exact w_c hW1 29 0 (by decide) ⟨rfl, by decide⟩
  have z29 : E.H0.size ≤ A 29 0 := by rw [← hB9.2.1]; exact w_cb hW1 29 0 (by decide) ⟨rfl, by decide⟩
  refine g_i2l hX dL_line_10 rfl 11 rfl ?_
  refine g_last hX dL_line_11 h29 z29 (g_ix.nat (k := 0) (by decide) (by decide)) 12 rfl ?_
  refine g_swapL (g := fun _ => v.toInt64) (fun j hj => (if_pos (by omega)).trans rfl) ?_
  rw [← hB9.2.1]
  refine g_stepC hW1 29 0 (q_up2 S1 22 0 v) (by decide) ⟨rfl, by decide⟩ ⟨rfl, rfl, rfl, rfl, rfl, rfl, rfl⟩ w_uc22 rfl (fun h hW2 => ?_)
  refine g_goto hX dL_line_12 19 (by decide) ?_
  refine g_iconst hX dL_line_19 (v := 0) (by decide) 20 rfl ?_
  exact g_iret hX rfl rfl dL_line_20 ⟨rfl, B, hB9, hW2⟩ rfl (by rw [hR]; show 0 + mc ≤ 7; omega) (by rw [hR]; show 0 + ms ≤ 107; omega)
set_option maxRecDepth 100000 in
set_option maxHeartbeats 4000000 in
theorem h_number_1 {l : Launch} (hl : l.stackTraces = false) {E : g_E} {A : w_A} {S Sm : q_S} {h : g_H} (hW : w_W E A S Sm h) {x0 x1 : Int32} (hct : g_Ct l mS_number 7 95 1 6 [.ref (A 0 0), .int x0, .int x1] E h (false, fun r h' => r = .inl 1 ∧ h' = h)) : g_Ct l mL_number 8 115 7 107 [.ref (A 0 0), .int x0, .int x1, .ref (A 29 0)] E h (false, fun r h' => r = .inr (some (.int 1)) ∧ ∃ B, w_same A B ∧ w_W E B S Sm h') := by
  refine g_Ct.of hl (by decide) (by first | rfl | simp [g_rfc, Value.category]) (Nat.le_of_ble_eq_true rfl) ?_
  intro X hX hXl hR
  show g_Go E X _ h true 0 0 0 [some (.ref (A 0 0)), some (.int x0), some (.int x1), some (.ref (A 29 0)), none] []
  refine g_aload_n hX dL_number_0 rfl rfl (by first | rfl | exact g_rfr _) 1 rfl ?_
  refine g_iconst hX dL_number_1 (v := 0) (by decide) 2 rfl ?_
  refine g_aload_n hX dL_number_2 rfl rfl (by first | rfl | exact g_rfr _) 3 rfl ?_
  refine g_iload_n hX dL_number_3 rfl rfl 4 rfl ?_
  refine g_iload_n hX dL_number_4 rfl rfl 5 rfl ?_
  refine g_cV2 (wt := 2) hX (hXl.symm ▸ hct) dL_number_5 (w_s hW) kL_59 (g_rm.of hR (by decide) (by decide)) (by first | exact Nat.zero_le _ | (rw [hR]; decide)) (by first | exact Nat.zero_le _ | (rw [hR]; decide)) (by first | decide | (simp [Value.category])) (fun q => by cases q) 8 rfl (fun v h9 hP => by cases hP.1) (fun k h9 hP => ?_)
  obtain ⟨hk9, hh9⟩ := hP
  cases hk9
  subst hh9
  refine g_Th.caught hX (g_tb_hit (nm := "java/lang/IndexOutOfBoundsException") (r := []) (by decide) ⟨by decide, (g_in 299 (by decide +kernel) (by decide +kernel)), Or.inl ⟨rfl, rfl⟩⟩) (fun a9 => ?_)
  show g_Go E X _ h9 false _ _ 13 _ [.ref a9]
  refine g_astore hX (L' := [_, _, _, _, _]) dL_number_13 (by decide) (by first | rfl | exact g_rfr _) rfl 15 rfl ?_
  refine g_iconst hX dL_number_15 (v := 1) (by decide) 16 rfl ?_
  exact g_iret hX rfl rfl dL_number_16 ⟨rfl, A, ⟨rfl, rfl, rfl⟩, hW⟩ rfl (by rw [hR]; decide) (by rw [hR]; decide)
set_option maxRecDepth 100000 in
set_option maxHeartbeats 4000000 in
theorem h_number {l : Launch} (hl : l.stackTraces = false) {E : g_E} {A : w_A} {S Sm : q_S} {h : g_H} (hW : w_W E A S Sm h) {x0 x1 : Int32} {v : Int32} {S1 : q_S} {mc ms : Nat} (hmc : mc ≤ 7) (hms : ms ≤ 107) (hct : g_Ct l mS_number 7 95 mc ms [.ref (A 0 0), .int x0, .int x1] E h (false, fun r h' => r = .inr (some (.int v)) ∧ ∃ B, w_same A B ∧ w_W E B S1 Sm h')) : g_Ct l mL_number 8 115 7 107 [.ref (A 0 0), .int x0, .int x1, .ref (A 29 0)] E h (false, fun r h' => r = .inr (some (.int 0)) ∧ ∃ B, w_same A B ∧ w_W E B (q_up2 S1 22 0 v) Sm h') := by
  refine g_Ct.of hl (by decide) (by first | rfl | simp [g_rfc, Value.category]) (Nat.le_of_ble_eq_true rfl) ?_
  intro X hX hXl hR
  show g_Go E X _ h true 0 0 0 [some (.ref (A 0 0)), some (.int x0), some (.int x1), some (.ref (A 29 0)), none] []
  refine g_aload_n hX dL_number_0 rfl rfl (by first | rfl | exact g_rfr _) 1 rfl ?_
  refine g_iconst hX dL_number_1 (v := 0) (by decide) 2 rfl ?_
  refine g_aload_n hX dL_number_2 rfl rfl (by first | rfl | exact g_rfr _) 3 rfl ?_
  refine g_iload_n hX dL_number_3 rfl rfl 4 rfl ?_
  refine g_iload_n hX dL_number_4 rfl rfl 5 rfl ?_
  refine g_cV2 (wt := 2) hX (hXl.symm ▸ hct) dL_number_5 (w_s hW) kL_59 (g_rm.of hR (by decide) (by decide)) (by rw [hR]; show 0 + mc ≤ 7; omega) (by rw [hR]; show 0 + ms ≤ 107; omega) (by first | decide | (simp [Value.category])) (fun q => by cases q) 8 rfl (fun v9 h hP => ?_) (fun k h9 hP => by cases hP.1)
  obtain ⟨hv, B, hB9, hW1⟩ := hP
  cases hv
  show g_Go E X _ h false _ _ 8 _ [.int v, .int 0, .ref (A 29 0)]
  have h29 : h (A 29 0) = some (w_cell E B S1 29 0) := by rw [← hB9.2.1]; exact w_c hW1 29 0 (by decide) ⟨rfl, by decide⟩
  have z29 : E.H0.size ≤ A 29 0 := by rw [← hB9.2.1]; exact w_cb hW1 29 0 (by decide) ⟨rfl, by decide⟩
  refine g_i2l hX dL_number_8 rfl 9 rfl ?_
  refine g_last hX dL_number_9 h29 z29 (g_ix.nat (k := 0) (by decide) (by decide)) 10 rfl ?_
  refine g_swapL (g := fun _ => v.toInt64) (fun j hj => (if_pos (by omega)).trans rfl) ?_
  rw [← hB9.2.1]
  refine g_stepC hW1 29 0 (q_up2 S1 22 0 v) (by decide) ⟨rfl, by decide⟩ ⟨rfl, rfl, rfl, rfl, rfl, rfl, rfl⟩ w_uc22 rfl (fun h hW2 => ?_)
  refine g_goto hX dL_number_10 17 (by decide) ?_
  refine g_iconst hX dL_number_17 (v := 0) (by decide) 18 rfl ?_
  exact g_iret hX rfl rfl dL_number_18 ⟨rfl, B, hB9, hW2⟩ rfl (by rw [hR]; show 0 + mc ≤ 7; omega) (by rw [hR]; show 0 + ms ≤ 107; omega)
set_option maxRecDepth 100000 in
set_option maxHeartbeats 4000000 in
theorem h_effect_1 {l : Launch} (hl : l.stackTraces = false) {E : g_E} {A : w_A} {S Sm : q_S} {h : g_H} (hW : w_W E A S Sm h) {x0 x1 x2 x3 x4 : Int32} (hct : g_Ct l mS_effect 7 121 1 6 [.ref (A 0 0), .int x0, .int x1, .int x2, .int x3, .int x4] E h (false, fun r h' => r = .inl 1 ∧ h' = h)) : g_Ct l mL_effect 8 145 7 107 [.ref (A 0 0), .int x0, .int x1, .int x2, .int x3, .int x4, .ref (A 29 0)] E h (false, fun r h' => r = .inr (some (.int 1)) ∧ ∃ B, w_same A B ∧ w_W E B S Sm h') := by
  refine g_Ct.of hl (by decide) (by first | rfl | simp [g_rfc, Value.category]) (Nat.le_of_ble_eq_true rfl) ?_
  intro X hX hXl hR
  show g_Go E X _ h true 0 0 0 [some (.ref (A 0 0)), some (.int x0), some (.int x1), some (.int x2), some (.int x3), some (.int x4), some (.ref (A 29 0)), none] []
  refine g_aload hX dL_effect_0 rfl (by first | rfl | exact g_rfr _) 2 rfl ?_
  refine g_iconst hX dL_effect_2 (v := 0) (by decide) 3 rfl ?_
  refine g_aload_n hX dL_effect_3 rfl rfl (by first | rfl | exact g_rfr _) 4 rfl ?_
  refine g_iload_n hX dL_effect_4 rfl rfl 5 rfl ?_
  refine g_iload_n hX dL_effect_5 rfl rfl 6 rfl ?_
  refine g_iload_n hX dL_effect_6 rfl rfl 7 rfl ?_
  refine g_iload hX dL_effect_7 rfl 9 rfl ?_
  refine g_iload hX dL_effect_9 rfl 11 rfl ?_
  refine g_cV5 (wt := 2) hX (hXl.symm ▸ hct) dL_effect_11 (w_s hW) kL_62 (g_rm.of hR (by decide) (by decide)) (by first | exact Nat.zero_le _ | (rw [hR]; decide)) (by first | exact Nat.zero_le _ | (rw [hR]; decide)) (by first | decide | (simp [Value.category])) (fun q => by cases q) 14 rfl (fun v h9 hP => by cases hP.1) (fun k h9 hP => ?_)
  obtain ⟨hk9, hh9⟩ := hP
  cases hk9
  subst hh9
  refine g_Th.caught hX (g_tb_hit (nm := "java/lang/IndexOutOfBoundsException") (r := []) (by decide) ⟨by decide, (g_in 299 (by decide +kernel) (by decide +kernel)), Or.inl ⟨rfl, rfl⟩⟩) (fun a9 => ?_)
  show g_Go E X _ h9 false _ _ 19 _ [.ref a9]
  refine g_astore hX (L' := [_, _, _, _, _, _, _, _]) dL_effect_19 (by decide) (by first | rfl | exact g_rfr _) rfl 21 rfl ?_
  refine g_iconst hX dL_effect_21 (v := 1) (by decide) 22 rfl ?_
  exact g_iret hX rfl rfl dL_effect_22 ⟨rfl, A, ⟨rfl, rfl, rfl⟩, hW⟩ rfl (by rw [hR]; decide) (by rw [hR]; decide)
set_option maxRecDepth 100000 in
set_option maxHeartbeats 4000000 in
theorem h_effect_0 {l : Launch} (hl : l.stackTraces = false) {E : g_E} {A : w_A} {S Sm : q_S} {h : g_H} (hW : w_W E A S Sm h) {x0 x1 x2 x3 x4 : Int32} (hct : g_Ct l mS_effect 7 121 1 6 [.ref (A 0 0), .int x0, .int x1, .int x2, .int x3, .int x4] E h (false, fun r h' => r = .inl 0 ∧ h' = h)) : g_Ct l mL_effect 8 145 7 107 [.ref (A 0 0), .int x0, .int x1, .int x2, .int x3, .int x4, .ref (A 29 0)] E h (false, fun r h' => r = .inr (some (.int 2)) ∧ ∃ B, w_same A B ∧ w_W E B S Sm h') := by
  refine g_Ct.of hl (by decide) (by first | rfl | simp [g_rfc, Value.category]) (Nat.le_of_ble_eq_true rfl) ?_
  intro X hX hXl hR
  show g_Go E X _ h true 0 0 0 [some (.ref (A 0 0)), some (.int x0), some (.int x1), some (.int x2), some (.int x3), some (.int x4), some (.ref (A 29 0)), none] []
  refine g_aload hX dL_effect_0 rfl (by first | rfl | exact g_rfr _) 2 rfl ?_
  refine g_iconst hX dL_effect_2 (v := 0) (by decide) 3 rfl ?_
  refine g_aload_n hX dL_effect_3 rfl rfl (by first | rfl | exact g_rfr _) 4 rfl ?_
  refine g_iload_n hX dL_effect_4 rfl rfl 5 rfl ?_
  refine g_iload_n hX dL_effect_5 rfl rfl 6 rfl ?_
  refine g_iload_n hX dL_effect_6 rfl rfl 7 rfl ?_
  refine g_iload hX dL_effect_7 rfl 9 rfl ?_
  refine g_iload hX dL_effect_9 rfl 11 rfl ?_
  refine g_cV5 (wt := 2) hX (hXl.symm ▸ hct) dL_effect_11 (w_s hW) kL_62 (g_rm.of hR (by decide) (by decide)) (by first | exact Nat.zero_le _ | (rw [hR]; decide)) (by first | exact Nat.zero_le _ | (rw [hR]; decide)) (by first | decide | (simp [Value.category])) (fun q => by cases q) 14 rfl (fun v h9 hP => by cases hP.1) (fun k h9 hP => ?_)
  obtain ⟨hk9, hh9⟩ := hP
  cases hk9
  subst hh9
  refine g_Th.caught hX (g_tb_no (nm := "java/lang/IndexOutOfBoundsException") (by decide) ⟨by decide, (g_in 299 (by decide +kernel) (by decide +kernel)), Or.inr ⟨rfl, g_inc 0 rfl⟩⟩ (g_tb_hit (nm := "java/lang/IllegalArgumentException") (r := []) (by decide) ⟨by decide, (g_in 298 (by decide +kernel) (by decide +kernel)), Or.inl ⟨rfl, rfl⟩⟩)) (fun a9 => ?_)
  show g_Go E X _ h9 false _ _ 23 _ [.ref a9]
  refine g_astore hX (L' := [_, _, _, _, _, _, _, _]) dL_effect_23 (by decide) (by first | rfl | exact g_rfr _) rfl 25 rfl ?_
  refine g_iconst hX dL_effect_25 (v := 2) (by decide) 26 rfl ?_
  exact g_iret hX rfl rfl dL_effect_26 ⟨rfl, A, ⟨rfl, rfl, rfl⟩, hW⟩ rfl (by rw [hR]; decide) (by rw [hR]; decide)
set_option maxRecDepth 100000 in
set_option maxHeartbeats 4000000 in
theorem h_effect_2 {l : Launch} (hl : l.stackTraces = false) {E : g_E} {A : w_A} {S Sm : q_S} {h : g_H} (hW : w_W E A S Sm h) {x0 x1 x2 x3 x4 : Int32} (hct : g_Ct l mS_effect 7 121 1 6 [.ref (A 0 0), .int x0, .int x1, .int x2, .int x3, .int x4] E h (false, fun r h' => r = .inl 2 ∧ h' = h)) : g_Ct l mL_effect 8 145 7 107 [.ref (A 0 0), .int x0, .int x1, .int x2, .int x3, .int x4, .ref (A 29 0)] E h (false, fun r h' => r = .inr (some (.int 3)) ∧ ∃ B, w_same A B ∧ w_W E B S Sm h') := by
  refine g_Ct.of hl (by decide) (by first | rfl | simp [g_rfc, Value.category]) (Nat.le_of_ble_eq_true rfl) ?_
  intro X hX hXl hR
  show g_Go E X _ h true 0 0 0 [some (.ref (A 0 0)), some (.int x0), some (.int x1), some (.int x2), some (.int x3), some (.int x4), some (.ref (A 29 0)), none] []
  refine g_aload hX dL_effect_0 rfl (by first | rfl | exact g_rfr _) 2 rfl ?_
  refine g_iconst hX dL_effect_2 (v := 0) (by decide) 3 rfl ?_
  refine g_aload_n hX dL_effect_3 rfl rfl (by first | rfl | exact g_rfr _) 4 rfl ?_
  refine g_iload_n hX dL_effect_4 rfl rfl 5 rfl ?_
  refine g_iload_n hX dL_effect_5 rfl rfl 6 rfl ?_
  refine g_iload_n hX dL_effect_6 rfl rfl 7 rfl ?_
  refine g_iload hX dL_effect_7 rfl 9 rfl ?_
  refine g_iload hX dL_effect_9 rfl 11 rfl ?_
  refine g_cV5 (wt := 2) hX (hXl.symm ▸ hct) dL_effect_11 (w_s hW) kL_62 (g_rm.of hR (by decide) (by decide)) (by first | exact Nat.zero_le _ | (rw [hR]; decide)) (by first | exact Nat.zero_le _ | (rw [hR]; decide)) (by first | decide | (simp [Value.category])) (fun q => by cases q) 14 rfl (fun v h9 hP => by cases hP.1) (fun k h9 hP => ?_)
  obtain ⟨hk9, hh9⟩ := hP
  cases hk9
  subst hh9
  refine g_Th.caught hX (g_tb_no (nm := "java/lang/IndexOutOfBoundsException") (by decide) ⟨by decide, (g_in 299 (by decide +kernel) (by decide +kernel)), Or.inr ⟨rfl, g_inc 7 rfl⟩⟩ (g_tb_no (nm := "java/lang/IllegalArgumentException") (by decide) ⟨by decide, (g_in 298 (by decide +kernel) (by decide +kernel)), Or.inr ⟨rfl, g_inc 6 rfl⟩⟩ (g_tb_hit (nm := "java/lang/IllegalStateException") (r := []) (by decide) ⟨by decide, (g_in 300 (by decide +kernel) (by decide +kernel)), Or.inl ⟨rfl, rfl⟩⟩))) (fun a9 => ?_)
  show g_Go E X _ h9 false _ _ 27 _ [.ref a9]
  refine g_astore hX (L' := [_, _, _, _, _, _, _, _]) dL_effect_27 (by decide) (by first | rfl | exact g_rfr _) rfl 29 rfl ?_
  refine g_iconst hX dL_effect_29 (v := 3) (by decide) 30 rfl ?_
  exact g_iret hX rfl rfl dL_effect_30 ⟨rfl, A, ⟨rfl, rfl, rfl⟩, hW⟩ rfl (by rw [hR]; decide) (by rw [hR]; decide)
set_option maxRecDepth 100000 in
set_option maxHeartbeats 4000000 in
theorem h_effect_3 {l : Launch} (hl : l.stackTraces = false) {E : g_E} {A : w_A} {S Sm : q_S} {h : g_H} (hW : w_W E A S Sm h) {x0 x1 x2 x3 x4 : Int32} (hct : g_Ct l mS_effect 7 121 1 6 [.ref (A 0 0), .int x0, .int x1, .int x2, .int x3, .int x4] E h (false, fun r h' => r = .inl 3 ∧ h' = h)) : g_Ct l mL_effect 8 145 7 107 [.ref (A 0 0), .int x0, .int x1, .int x2, .int x3, .int x4, .ref (A 29 0)] E h (false, fun r h' => r = .inr (some (.int 4)) ∧ ∃ B, w_same A B ∧ w_W E B S Sm h') := by
  refine g_Ct.of hl (by decide) (by first | rfl | simp [g_rfc, Value.category]) (Nat.le_of_ble_eq_true rfl) ?_
  intro X hX hXl hR
  show g_Go E X _ h true 0 0 0 [some (.ref (A 0 0)), some (.int x0), some (.int x1), some (.int x2), some (.int x3), some (.int x4), some (.ref (A 29 0)), none] []
  refine g_aload hX dL_effect_0 rfl (by first | rfl | exact g_rfr _) 2 rfl ?_
  refine g_iconst hX dL_effect_2 (v := 0) (by decide) 3 rfl ?_
  refine g_aload_n hX dL_effect_3 rfl rfl (by first | rfl | exact g_rfr _) 4 rfl ?_
  refine g_iload_n hX dL_effect_4 rfl rfl 5 rfl ?_
  refine g_iload_n hX dL_effect_5 rfl rfl 6 rfl ?_
  refine g_iload_n hX dL_effect_6 rfl rfl 7 rfl ?_
  refine g_iload hX dL_effect_7 rfl 9 rfl ?_
  refine g_iload hX dL_effect_9 rfl 11 rfl ?_
  refine g_cV5 (wt := 2) hX (hXl.symm ▸ hct) dL_effect_11 (w_s hW) kL_62 (g_rm.of hR (by decide) (by decide)) (by first | exact Nat.zero_le _ | (rw [hR]; decide)) (by first | exact Nat.zero_le _ | (rw [hR]; decide)) (by first | decide | (simp [Value.category])) (fun q => by cases q) 14 rfl (fun v h9 hP => by cases hP.1) (fun k h9 hP => ?_)
  obtain ⟨hk9, hh9⟩ := hP
  cases hk9
  subst hh9
  refine g_Th.caught hX (g_tb_no (nm := "java/lang/IndexOutOfBoundsException") (by decide) ⟨by decide, (g_in 299 (by decide +kernel) (by decide +kernel)), Or.inr ⟨rfl, g_inc 10 rfl⟩⟩ (g_tb_no (nm := "java/lang/IllegalArgumentException") (by decide) ⟨by decide, (g_in 298 (by decide +kernel) (by decide +kernel)), Or.inr ⟨rfl, g_inc 9 rfl⟩⟩ (g_tb_no (nm := "java/lang/IllegalStateException") (by decide) ⟨by decide, (g_in 300 (by decide +kernel) (by decide +kernel)), Or.inr ⟨rfl, g_inc 11 rfl⟩⟩ (g_tb_hit (nm := "java/lang/UnsupportedOperationException") (r := []) (by decide) ⟨by decide, (g_in 506 (by decide +kernel) (by decide +kernel)), Or.inl ⟨rfl, rfl⟩⟩)))) (fun a9 => ?_)
  show g_Go E X _ h9 false _ _ 31 _ [.ref a9]
  refine g_astore hX (L' := [_, _, _, _, _, _, _, _]) dL_effect_31 (by decide) (by first | rfl | exact g_rfr _) rfl 33 rfl ?_
  refine g_iconst hX dL_effect_33 (v := 4) (by decide) 34 rfl ?_
  exact g_iret hX rfl rfl dL_effect_34 ⟨rfl, A, ⟨rfl, rfl, rfl⟩, hW⟩ rfl (by rw [hR]; decide) (by rw [hR]; decide)
set_option maxRecDepth 100000 in
set_option maxHeartbeats 4000000 in
theorem h_effect {l : Launch} (hl : l.stackTraces = false) {E : g_E} {A : w_A} {S Sm : q_S} {h : g_H} (hW : w_W E A S Sm h) {x0 x1 x2 x3 x4 : Int32} {v : Int32} {S1 : q_S} {mc ms : Nat} (hmc : mc ≤ 7) (hms : ms ≤ 107) (hct : g_Ct l mS_effect 7 121 mc ms [.ref (A 0 0), .int x0, .int x1, .int x2, .int x3, .int x4] E h (false, fun r h' => r = .inr (some (.int v)) ∧ ∃ B, w_same A B ∧ w_W E B S1 Sm h')) : g_Ct l mL_effect 8 145 7 107 [.ref (A 0 0), .int x0, .int x1, .int x2, .int x3, .int x4, .ref (A 29 0)] E h (false, fun r h' => r = .inr (some (.int 0)) ∧ ∃ B, w_same A B ∧ w_W E B (q_up2 S1 22 0 v) Sm h') := by
  refine g_Ct.of hl (by decide) (by first | rfl | simp [g_rfc, Value.category]) (Nat.le_of_ble_eq_true rfl) ?_
  intro X hX hXl hR
  show g_Go E X _ h true 0 0 0 [some (.ref (A 0 0)), some (.int x0), some (.int x1), some (.int x2), some (.int x3), some (.int x4), some (.ref (A 29 0)), none] []
  refine g_aload hX dL_effect_0 rfl (by first | rfl | exact g_rfr _) 2 rfl ?_
  refine g_iconst hX dL_effect_2 (v := 0) (by decide) 3 rfl ?_
  refine g_aload_n hX dL_effect_3 rfl rfl (by first | rfl | exact g_rfr _) 4 rfl ?_
  refine g_iload_n hX dL_effect_4 rfl rfl 5 rfl ?_
  refine g_iload_n hX dL_effect_5 rfl rfl 6 rfl ?_
  refine g_iload_n hX dL_effect_6 rfl rfl 7 rfl ?_
  refine g_iload hX dL_effect_7 rfl 9 rfl ?_
  refine g_iload hX dL_effect_9 rfl 11 rfl ?_
  refine g_cV5 (wt := 2) hX (hXl.symm ▸ hct) dL_effect_11 (w_s hW) kL_62 (g_rm.of hR (by decide) (by decide)) (by rw [hR]; show 0 + mc ≤ 7; omega) (by rw [hR]; show 0 + ms ≤ 107; omega) (by first | decide | (simp [Value.category])) (fun q => by cases q) 14 rfl (fun v9 h hP => ?_) (fun k h9 hP => by cases hP.1)
  obtain ⟨hv, B, hB9, hW1⟩ := hP
  cases hv
  show g_Go E X _ h false _ _ 14 _ [.int v, .int 0, .ref (A 29 0)]
  have h29 : h (A 29 0) = some (w_cell E B S1 29 0) := by rw [← hB9.2.1]; exact w_c hW1 29 0 (by decide) ⟨rfl, by decide⟩
  have z29 : E.H0.size ≤ A 29 0 := by rw [← hB9.2.1]; exact w_cb hW1 29 0 (by decide) ⟨rfl, by decide⟩
  refine g_i2l hX dL_effect_14 rfl 15 rfl ?_
  refine g_last hX dL_effect_15 h29 z29 (g_ix.nat (k := 0) (by decide) (by decide)) 16 rfl ?_
  refine g_swapL (g := fun _ => v.toInt64) (fun j hj => (if_pos (by omega)).trans rfl) ?_
  rw [← hB9.2.1]
  refine g_stepC hW1 29 0 (q_up2 S1 22 0 v) (by decide) ⟨rfl, by decide⟩ ⟨rfl, rfl, rfl, rfl, rfl, rfl, rfl⟩ w_uc22 rfl (fun h hW2 => ?_)
  refine g_goto hX dL_effect_16 35 (by decide) ?_
  refine g_iconst hX dL_effect_35 (v := 0) (by decide) 36 rfl ?_
  exact g_iret hX rfl rfl dL_effect_36 ⟨rfl, B, hB9, hW2⟩ rfl (by rw [hR]; show 0 + mc ≤ 7; omega) (by rw [hR]; show 0 + ms ≤ 107; omega)
set_option maxRecDepth 100000 in
set_option maxHeartbeats 4000000 in
theorem h_amount_1 {l : Launch} (hl : l.stackTraces = false) {E : g_E} {A : w_A} {S Sm : q_S} {h : g_H} (hW : w_W E A S Sm h) {x0 x1 : Int32} (hct : g_Ct l mS_amount 7 95 1 6 [.ref (A 0 0), .int x0, .int x1] E h (false, fun r h' => r = .inl 1 ∧ h' = h)) : g_Ct l mL_amount 8 110 7 107 [.ref (A 0 0), .int x0, .int x1] E h (false, fun r h' => r = .inr (some (.int 1)) ∧ ∃ B, w_same A B ∧ w_W E B S Sm h') := by
  refine g_Ct.of hl (by decide) (by first | rfl | simp [g_rfc, Value.category]) (Nat.le_of_ble_eq_true rfl) ?_
  intro X hX hXl hR
  show g_Go E X _ h true 0 0 0 [some (.ref (A 0 0)), some (.int x0), some (.int x1), none] []
  refine g_aload_n hX dL_amount_0 rfl rfl (by first | rfl | exact g_rfr _) 1 rfl ?_
  refine g_iload_n hX dL_amount_1 rfl rfl 2 rfl ?_
  refine g_iload_n hX dL_amount_2 rfl rfl 3 rfl ?_
  refine g_cV2 (wt := 0) hX (hXl.symm ▸ hct) dL_amount_3 (w_s hW) kL_66 (g_rm.of hR (by decide) (by decide)) (by first | exact Nat.zero_le _ | (rw [hR]; decide)) (by first | exact Nat.zero_le _ | (rw [hR]; decide)) (by first | decide | (simp [Value.category])) (fun q => by cases q) 6 rfl (fun v h9 hP => by cases hP.1) (fun k h9 hP => ?_)
  obtain ⟨hk9, hh9⟩ := hP
  cases hk9
  subst hh9
  refine g_Th.caught hX (g_tb_hit (nm := "java/lang/IndexOutOfBoundsException") (r := []) (by decide) ⟨by decide, (g_in 299 (by decide +kernel) (by decide +kernel)), Or.inl ⟨rfl, rfl⟩⟩) (fun a9 => ?_)
  show g_Go E X _ h9 false _ _ 9 _ [.ref a9]
  refine g_astore_n hX (L' := [_, _, _, _]) dL_amount_9 rfl (by decide) (by first | rfl | exact g_rfr _) rfl 10 rfl ?_
  refine g_iconst hX dL_amount_10 (v := 1) (by decide) 11 rfl ?_
  exact g_iret hX rfl rfl dL_amount_11 ⟨rfl, A, ⟨rfl, rfl, rfl⟩, hW⟩ rfl (by rw [hR]; decide) (by rw [hR]; decide)
set_option maxRecDepth 100000 in
set_option maxHeartbeats 4000000 in
theorem h_amount_0 {l : Launch} (hl : l.stackTraces = false) {E : g_E} {A : w_A} {S Sm : q_S} {h : g_H} (hW : w_W E A S Sm h) {x0 x1 : Int32} (hct : g_Ct l mS_amount 7 95 1 6 [.ref (A 0 0), .int x0, .int x1] E h (false, fun r h' => r = .inl 0 ∧ h' = h)) : g_Ct l mL_amount 8 110 7 107 [.ref (A 0 0), .int x0, .int x1] E h (false, fun r h' => r = .inr (some (.int 2)) ∧ ∃ B, w_same A B ∧ w_W E B S Sm h') := by
  refine g_Ct.of hl (by decide) (by first | rfl | simp [g_rfc, Value.category]) (Nat.le_of_ble_eq_true rfl) ?_
  intro X hX hXl hR
  show g_Go E X _ h true 0 0 0 [some (.ref (A 0 0)), some (.int x0), some (.int x1), none] []
  refine g_aload_n hX dL_amount_0 rfl rfl (by first | rfl | exact g_rfr _) 1 rfl ?_
  refine g_iload_n hX dL_amount_1 rfl rfl 2 rfl ?_
  refine g_iload_n hX dL_amount_2 rfl rfl 3 rfl ?_
  refine g_cV2 (wt := 0) hX (hXl.symm ▸ hct) dL_amount_3 (w_s hW) kL_66 (g_rm.of hR (by decide) (by decide)) (by first | exact Nat.zero_le _ | (rw [hR]; decide)) (by first | exact Nat.zero_le _ | (rw [hR]; decide)) (by first | decide | (simp [Value.category])) (fun q => by cases q) 6 rfl (fun v h9 hP => by cases hP.1) (fun k h9 hP => ?_)
  obtain ⟨hk9, hh9⟩ := hP
  cases hk9
  subst hh9
  refine g_Th.caught hX (g_tb_no (nm := "java/lang/IndexOutOfBoundsException") (by decide) ⟨by decide, (g_in 299 (by decide +kernel) (by decide +kernel)), Or.inr ⟨rfl, g_inc 0 rfl⟩⟩ (g_tb_hit (nm := "java/lang/IllegalArgumentException") (r := []) (by decide) ⟨by decide, (g_in 298 (by decide +kernel) (by decide +kernel)), Or.inl ⟨rfl, rfl⟩⟩)) (fun a9 => ?_)
  show g_Go E X _ h9 false _ _ 12 _ [.ref a9]
  refine g_astore_n hX (L' := [_, _, _, _]) dL_amount_12 rfl (by decide) (by first | rfl | exact g_rfr _) rfl 13 rfl ?_
  refine g_iconst hX dL_amount_13 (v := 2) (by decide) 14 rfl ?_
  exact g_iret hX rfl rfl dL_amount_14 ⟨rfl, A, ⟨rfl, rfl, rfl⟩, hW⟩ rfl (by rw [hR]; decide) (by rw [hR]; decide)
set_option maxRecDepth 100000 in
set_option maxHeartbeats 4000000 in
theorem h_amount {l : Launch} (hl : l.stackTraces = false) {E : g_E} {A : w_A} {S Sm : q_S} {h : g_H} (hW : w_W E A S Sm h) {x0 x1 : Int32} {S1 : q_S} {mc ms : Nat} (hmc : mc ≤ 7) (hms : ms ≤ 107) (hct : g_Ct l mS_amount 7 95 mc ms [.ref (A 0 0), .int x0, .int x1] E h (false, fun r h' => r = .inr none ∧ ∃ B, w_same A B ∧ w_W E B S1 Sm h')) : g_Ct l mL_amount 8 110 7 107 [.ref (A 0 0), .int x0, .int x1] E h (false, fun r h' => r = .inr (some (.int 0)) ∧ ∃ B, w_same A B ∧ w_W E B (S1) Sm h') := by
  refine g_Ct.of hl (by decide) (by first | rfl | simp [g_rfc, Value.category]) (Nat.le_of_ble_eq_true rfl) ?_
  intro X hX hXl hR
  show g_Go E X _ h true 0 0 0 [some (.ref (A 0 0)), some (.int x0), some (.int x1), none] []
  refine g_aload_n hX dL_amount_0 rfl rfl (by first | rfl | exact g_rfr _) 1 rfl ?_
  refine g_iload_n hX dL_amount_1 rfl rfl 2 rfl ?_
  refine g_iload_n hX dL_amount_2 rfl rfl 3 rfl ?_
  refine g_cV2 (wt := 0) hX (hXl.symm ▸ hct) dL_amount_3 (w_s hW) kL_66 (g_rm.of hR (by decide) (by decide)) (by rw [hR]; show 0 + mc ≤ 7; omega) (by rw [hR]; show 0 + ms ≤ 107; omega) (by first | decide | (simp [Value.category])) (fun q => by cases q) 6 rfl (fun v9 h hP => ?_) (fun k h9 hP => by cases hP.1)
  obtain ⟨hv, B, hB9, hW1⟩ := hP
  cases hv
  show g_Go E X _ h false _ _ 6 _ []
  refine g_goto hX dL_amount_6 15 (by decide) ?_
  refine g_iconst hX dL_amount_15 (v := 0) (by decide) 16 rfl ?_
  exact g_iret hX rfl rfl dL_amount_16 ⟨rfl, B, hB9, hW1⟩ rfl (by rw [hR]; show 0 + mc ≤ 7; omega) (by rw [hR]; show 0 + ms ≤ 107; omega)
set_option maxRecDepth 100000 in
set_option maxHeartbeats 4000000 in
theorem h_timing_1 {l : Launch} (hl : l.stackTraces = false) {E : g_E} {A : w_A} {S Sm : q_S} {h : g_H} (hW : w_W E A S Sm h) {x0 x1 : Int32} (hct : g_Ct l mS_timing 7 95 1 6 [.ref (A 0 0), .int x0, .int x1] E h (false, fun r h' => r = .inl 1 ∧ h' = h)) : g_Ct l mL_timing 8 112 7 107 [.ref (A 0 0), .int x0, .int x1, .ref (A 29 0)] E h (false, fun r h' => r = .inr (some (.int 1)) ∧ ∃ B, w_same A B ∧ w_W E B S Sm h') := by
  refine g_Ct.of hl (by decide) (by first | rfl | simp [g_rfc, Value.category]) (Nat.le_of_ble_eq_true rfl) ?_
  intro X hX hXl hR
  show g_Go E X _ h true 0 0 0 [some (.ref (A 0 0)), some (.int x0), some (.int x1), some (.ref (A 29 0)), none] []
  refine g_aload_n hX dL_timing_0 rfl rfl (by first | rfl | exact g_rfr _) 1 rfl ?_
  refine g_iconst hX dL_timing_1 (v := 0) (by decide) 2 rfl ?_
  refine g_aload_n hX dL_timing_2 rfl rfl (by first | rfl | exact g_rfr _) 3 rfl ?_
  refine g_iload_n hX dL_timing_3 rfl rfl 4 rfl ?_
  refine g_iload_n hX dL_timing_4 rfl rfl 5 rfl ?_
  refine g_cV2 (wt := 2) hX (hXl.symm ▸ hct) dL_timing_5 (w_s hW) kL_69 (g_rm.of hR (by decide) (by decide)) (by first | exact Nat.zero_le _ | (rw [hR]; decide)) (by first | exact Nat.zero_le _ | (rw [hR]; decide)) (by first | decide | (simp [Value.category])) (fun q => by cases q) 8 rfl (fun v h9 hP => by cases hP.1) (fun k h9 hP => ?_)
  obtain ⟨hk9, hh9⟩ := hP
  cases hk9
  subst hh9
  refine g_Th.caught hX (g_tb_hit (nm := "java/lang/IndexOutOfBoundsException") (r := []) (by decide) ⟨by decide, (g_in 299 (by decide +kernel) (by decide +kernel)), Or.inl ⟨rfl, rfl⟩⟩) (fun a9 => ?_)
  show g_Go E X _ h9 false _ _ 13 _ [.ref a9]
  refine g_astore hX (L' := [_, _, _, _, _]) dL_timing_13 (by decide) (by first | rfl | exact g_rfr _) rfl 15 rfl ?_
  refine g_iconst hX dL_timing_15 (v := 1) (by decide) 16 rfl ?_
  exact g_iret hX rfl rfl dL_timing_16 ⟨rfl, A, ⟨rfl, rfl, rfl⟩, hW⟩ rfl (by rw [hR]; decide) (by rw [hR]; decide)
set_option maxRecDepth 100000 in
set_option maxHeartbeats 4000000 in
theorem h_timing {l : Launch} (hl : l.stackTraces = false) {E : g_E} {A : w_A} {S Sm : q_S} {h : g_H} (hW : w_W E A S Sm h) {x0 x1 : Int32} {v : Int32} {S1 : q_S} {mc ms : Nat} (hmc : mc ≤ 7) (hms : ms ≤ 107) (hct : g_Ct l mS_timing 7 95 mc ms [.ref (A 0 0), .int x0, .int x1] E h (false, fun r h' => r = .inr (some (.int v)) ∧ ∃ B, w_same A B ∧ w_W E B S1 Sm h')) : g_Ct l mL_timing 8 112 7 107 [.ref (A 0 0), .int x0, .int x1, .ref (A 29 0)] E h (false, fun r h' => r = .inr (some (.int 0)) ∧ ∃ B, w_same A B ∧ w_W E B (q_up2 S1 22 0 v) Sm h') := by
  refine g_Ct.of hl (by decide) (by first | rfl | simp [g_rfc, Value.category]) (Nat.le_of_ble_eq_true rfl) ?_
  intro X hX hXl hR
  show g_Go E X _ h true 0 0 0 [some (.ref (A 0 0)), some (.int x0), some (.int x1), some (.ref (A 29 0)), none] []
  refine g_aload_n hX dL_timing_0 rfl rfl (by first | rfl | exact g_rfr _) 1 rfl ?_
  refine g_iconst hX dL_timing_1 (v := 0) (by decide) 2 rfl ?_
  refine g_aload_n hX dL_timing_2 rfl rfl (by first | rfl | exact g_rfr _) 3 rfl ?_
  refine g_iload_n hX dL_timing_3 rfl rfl 4 rfl ?_
  refine g_iload_n hX dL_timing_4 rfl rfl 5 rfl ?_
  refine g_cV2 (wt := 2) hX (hXl.symm ▸ hct) dL_timing_5 (w_s hW) kL_69 (g_rm.of hR (by decide) (by decide)) (by rw [hR]; show 0 + mc ≤ 7; omega) (by rw [hR]; show 0 + ms ≤ 107; omega) (by first | decide | (simp [Value.category])) (fun q => by cases q) 8 rfl (fun v9 h hP => ?_) (fun k h9 hP => by cases hP.1)
  obtain ⟨hv, B, hB9, hW1⟩ := hP
  cases hv
  show g_Go E X _ h false _ _ 8 _ [.int v, .int 0, .ref (A 29 0)]
  have h29 : h (A 29 0) = some (w_cell E B S1 29 0) := by rw [← hB9.2.1]; exact w_c hW1 29 0 (by decide) ⟨rfl, by decide⟩
  have z29 : E.H0.size ≤ A 29 0 := by rw [← hB9.2.1]; exact w_cb hW1 29 0 (by decide) ⟨rfl, by decide⟩
  refine g_i2l hX dL_timing_8 rfl 9 rfl ?_
  refine g_last hX dL_timing_9 h29 z29 (g_ix.nat (k := 0) (by decide) (by decide)) 10 rfl ?_
  refine g_swapL (g := fun _ => v.toInt64) (fun j hj => (if_pos (by omega)).trans rfl) ?_
  rw [← hB9.2.1]
  refine g_stepC hW1 29 0 (q_up2 S1 22 0 v) (by decide) ⟨rfl, by decide⟩ ⟨rfl, rfl, rfl, rfl, rfl, rfl, rfl⟩ w_uc22 rfl (fun h hW2 => ?_)
  refine g_goto hX dL_timing_10 17 (by decide) ?_
  refine g_iconst hX dL_timing_17 (v := 0) (by decide) 18 rfl ?_
  exact g_iret hX rfl rfl dL_timing_18 ⟨rfl, B, hB9, hW2⟩ rfl (by rw [hR]; show 0 + mc ≤ 7; omega) (by rw [hR]; show 0 + ms ≤ 107; omega)
set_option maxRecDepth 100000 in
set_option maxHeartbeats 4000000 in
theorem h_jump_1 {l : Launch} (hl : l.stackTraces = false) {E : g_E} {A : w_A} {S Sm : q_S} {h : g_H} (hW : w_W E A S Sm h) {x0 : Int32} (hct : g_Ct l mS_jump 6 82 1 6 [.ref (A 0 0), .int x0] E h (false, fun r h' => r = .inl 1 ∧ h' = h)) : g_Ct l mL_jump 7 95 7 107 [.ref (A 0 0), .int x0] E h (false, fun r h' => r = .inr (some (.int 1)) ∧ ∃ B, w_same A B ∧ w_W E B S Sm h') := by
  refine g_Ct.of hl (by decide) (by first | rfl | simp [g_rfc, Value.category]) (Nat.le_of_ble_eq_true rfl) ?_
  intro X hX hXl hR
  show g_Go E X _ h true 0 0 0 [some (.ref (A 0 0)), some (.int x0), none] []
  refine g_aload_n hX dL_jump_0 rfl rfl (by first | rfl | exact g_rfr _) 1 rfl ?_
  refine g_iload_n hX dL_jump_1 rfl rfl 2 rfl ?_
  refine g_cV1 (wt := 0) hX (hXl.symm ▸ hct) dL_jump_2 (w_s hW) kL_72 (g_rm.of hR (by decide) (by decide)) (by first | exact Nat.zero_le _ | (rw [hR]; decide)) (by first | exact Nat.zero_le _ | (rw [hR]; decide)) (by first | decide | (simp [Value.category])) (fun q => by cases q) 5 rfl (fun v h9 hP => by cases hP.1) (fun k h9 hP => ?_)
  obtain ⟨hk9, hh9⟩ := hP
  cases hk9
  subst hh9
  refine g_Th.caught hX (g_tb_hit (nm := "java/lang/IndexOutOfBoundsException") (r := []) (by decide) ⟨by decide, (g_in 299 (by decide +kernel) (by decide +kernel)), Or.inl ⟨rfl, rfl⟩⟩) (fun a9 => ?_)
  show g_Go E X _ h9 false _ _ 8 _ [.ref a9]
  refine g_astore_n hX (L' := [_, _, _]) dL_jump_8 rfl (by decide) (by first | rfl | exact g_rfr _) rfl 9 rfl ?_
  refine g_iconst hX dL_jump_9 (v := 1) (by decide) 10 rfl ?_
  exact g_iret hX rfl rfl dL_jump_10 ⟨rfl, A, ⟨rfl, rfl, rfl⟩, hW⟩ rfl (by rw [hR]; decide) (by rw [hR]; decide)
set_option maxRecDepth 100000 in
set_option maxHeartbeats 4000000 in
theorem h_jump {l : Launch} (hl : l.stackTraces = false) {E : g_E} {A : w_A} {S Sm : q_S} {h : g_H} (hW : w_W E A S Sm h) {x0 : Int32} {S1 : q_S} {mc ms : Nat} (hmc : mc ≤ 7) (hms : ms ≤ 107) (hct : g_Ct l mS_jump 6 82 mc ms [.ref (A 0 0), .int x0] E h (false, fun r h' => r = .inr none ∧ ∃ B, w_same A B ∧ w_W E B S1 Sm h')) : g_Ct l mL_jump 7 95 7 107 [.ref (A 0 0), .int x0] E h (false, fun r h' => r = .inr (some (.int 0)) ∧ ∃ B, w_same A B ∧ w_W E B (S1) Sm h') := by
  refine g_Ct.of hl (by decide) (by first | rfl | simp [g_rfc, Value.category]) (Nat.le_of_ble_eq_true rfl) ?_
  intro X hX hXl hR
  show g_Go E X _ h true 0 0 0 [some (.ref (A 0 0)), some (.int x0), none] []
  refine g_aload_n hX dL_jump_0 rfl rfl (by first | rfl | exact g_rfr _) 1 rfl ?_
  refine g_iload_n hX dL_jump_1 rfl rfl 2 rfl ?_
  refine g_cV1 (wt := 0) hX (hXl.symm ▸ hct) dL_jump_2 (w_s hW) kL_72 (g_rm.of hR (by decide) (by decide)) (by rw [hR]; show 0 + mc ≤ 7; omega) (by rw [hR]; show 0 + ms ≤ 107; omega) (by first | decide | (simp [Value.category])) (fun q => by cases q) 5 rfl (fun v9 h hP => ?_) (fun k h9 hP => by cases hP.1)
  obtain ⟨hv, B, hB9, hW1⟩ := hP
  cases hv
  show g_Go E X _ h false _ _ 5 _ []
  refine g_goto hX dL_jump_5 11 (by decide) ?_
  refine g_iconst hX dL_jump_11 (v := 0) (by decide) 12 rfl ?_
  exact g_iret hX rfl rfl dL_jump_12 ⟨rfl, B, hB9, hW1⟩ rfl (by rw [hR]; show 0 + mc ≤ 7; omega) (by rw [hR]; show 0 + ms ≤ 107; omega)
set_option maxRecDepth 100000 in
set_option maxHeartbeats 4000000 in
theorem h_tick_0 {l : Launch} (hl : l.stackTraces = false) {E : g_E} {A : w_A} {S Sm : q_S} {h : g_H} (hW : w_W E A S Sm h) {x0 : Int32} (hct : g_Ct l mS_tick 6 82 1 6 [.ref (A 0 0), .int x0] E h (false, fun r h' => r = .inl 0 ∧ h' = h)) : g_Ct l mL_tick 7 95 7 107 [.ref (A 0 0), .int x0] E h (false, fun r h' => r = .inr (some (.int 1)) ∧ ∃ B, w_same A B ∧ w_W E B S Sm h') := by
  refine g_Ct.of hl (by decide) (by first | rfl | simp [g_rfc, Value.category]) (Nat.le_of_ble_eq_true rfl) ?_
  intro X hX hXl hR
  show g_Go E X _ h true 0 0 0 [some (.ref (A 0 0)), some (.int x0), none] []
  refine g_aload_n hX dL_tick_0 rfl rfl (by first | rfl | exact g_rfr _) 1 rfl ?_
  refine g_iload_n hX dL_tick_1 rfl rfl 2 rfl ?_
  refine g_cV1 (wt := 0) hX (hXl.symm ▸ hct) dL_tick_2 (w_s hW) kL_76 (g_rm.of hR (by decide) (by decide)) (by first | exact Nat.zero_le _ | (rw [hR]; decide)) (by first | exact Nat.zero_le _ | (rw [hR]; decide)) (by first | decide | (simp [Value.category])) (fun q => by cases q) 5 rfl (fun v h9 hP => by cases hP.1) (fun k h9 hP => ?_)
  obtain ⟨hk9, hh9⟩ := hP
  cases hk9
  subst hh9
  refine g_Th.caught hX (g_tb_hit (nm := "java/lang/IllegalArgumentException") (r := []) (by decide) ⟨by decide, (g_in 298 (by decide +kernel) (by decide +kernel)), Or.inl ⟨rfl, rfl⟩⟩) (fun a9 => ?_)
  show g_Go E X _ h9 false _ _ 8 _ [.ref a9]
  refine g_astore_n hX (L' := [_, _, _]) dL_tick_8 rfl (by decide) (by first | rfl | exact g_rfr _) rfl 9 rfl ?_
  refine g_iconst hX dL_tick_9 (v := 1) (by decide) 10 rfl ?_
  exact g_iret hX rfl rfl dL_tick_10 ⟨rfl, A, ⟨rfl, rfl, rfl⟩, hW⟩ rfl (by rw [hR]; decide) (by rw [hR]; decide)
set_option maxRecDepth 100000 in
set_option maxHeartbeats 4000000 in
theorem h_tick {l : Launch} (hl : l.stackTraces = false) {E : g_E} {A : w_A} {S Sm : q_S} {h : g_H} (hW : w_W E A S Sm h) {x0 : Int32} {S1 : q_S} {mc ms : Nat} (hmc : mc ≤ 7) (hms : ms ≤ 107) (hct : g_Ct l mS_tick 6 82 mc ms [.ref (A 0 0), .int x0] E h (false, fun r h' => r = .inr none ∧ ∃ B, w_same A B ∧ w_W E B S1 Sm h')) : g_Ct l mL_tick 7 95 7 107 [.ref (A 0 0), .int x0] E h (false, fun r h' => r = .inr (some (.int 0)) ∧ ∃ B, w_same A B ∧ w_W E B (S1) Sm h') := by
  refine g_Ct.of hl (by decide) (by first | rfl | simp [g_rfc, Value.category]) (Nat.le_of_ble_eq_true rfl) ?_
  intro X hX hXl hR
  show g_Go E X _ h true 0 0 0 [some (.ref (A 0 0)), some (.int x0), none] []
  refine g_aload_n hX dL_tick_0 rfl rfl (by first | rfl | exact g_rfr _) 1 rfl ?_
  refine g_iload_n hX dL_tick_1 rfl rfl 2 rfl ?_
  refine g_cV1 (wt := 0) hX (hXl.symm ▸ hct) dL_tick_2 (w_s hW) kL_76 (g_rm.of hR (by decide) (by decide)) (by rw [hR]; show 0 + mc ≤ 7; omega) (by rw [hR]; show 0 + ms ≤ 107; omega) (by first | decide | (simp [Value.category])) (fun q => by cases q) 5 rfl (fun v9 h hP => ?_) (fun k h9 hP => by cases hP.1)
  obtain ⟨hv, B, hB9, hW1⟩ := hP
  cases hv
  show g_Go E X _ h false _ _ 5 _ []
  refine g_goto hX dL_tick_5 11 (by decide) ?_
  refine g_iconst hX dL_tick_11 (v := 0) (by decide) 12 rfl ?_
  exact g_iret hX rfl rfl dL_tick_12 ⟨rfl, B, hB9, hW1⟩ rfl (by rw [hR]; show 0 + mc ≤ 7; omega) (by rw [hR]; show 0 + ms ≤ 107; omega)
set_option maxRecDepth 100000 in
set_option maxHeartbeats 4000000 in
theorem h_now_1 {l : Launch} (hl : l.stackTraces = false) {E : g_E} {A : w_A} {S Sm : q_S} {h : g_H} (hW : w_W E A S Sm h) {x0 x1 : Int32} (hct : g_Ct l mS_now 7 99 1 6 [.ref (A 0 0), .int x0, .int x1] E h (false, fun r h' => r = .inl 1 ∧ h' = h)) : g_Ct l mL_now 8 116 7 107 [.ref (A 0 0), .int x0, .int x1, .ref (A 29 0)] E h (false, fun r h' => r = .inr (some (.int 1)) ∧ ∃ B, w_same A B ∧ w_W E B S Sm h') := by
  refine g_Ct.of hl (by decide) (by first | rfl | simp [g_rfc, Value.category]) (Nat.le_of_ble_eq_true rfl) ?_
  intro X hX hXl hR
  show g_Go E X _ h true 0 0 0 [some (.ref (A 0 0)), some (.int x0), some (.int x1), some (.ref (A 29 0)), none] []
  refine g_aload_n hX dL_now_0 rfl rfl (by first | rfl | exact g_rfr _) 1 rfl ?_
  refine g_iconst hX dL_now_1 (v := 0) (by decide) 2 rfl ?_
  refine g_aload_n hX dL_now_2 rfl rfl (by first | rfl | exact g_rfr _) 3 rfl ?_
  refine g_iload_n hX dL_now_3 rfl rfl 4 rfl ?_
  refine g_iload_n hX dL_now_4 rfl rfl 5 rfl ?_
  refine g_cV2 (wt := 2) hX (hXl.symm ▸ hct) dL_now_5 (w_s hW) kL_79 (g_rm.of hR (by decide) (by decide)) (by first | exact Nat.zero_le _ | (rw [hR]; decide)) (by first | exact Nat.zero_le _ | (rw [hR]; decide)) (by first | decide | (simp [Value.category])) (fun q => by cases q) 8 rfl (fun v h9 hP => by cases hP.1) (fun k h9 hP => ?_)
  obtain ⟨hk9, hh9⟩ := hP
  cases hk9
  subst hh9
  refine g_Th.caught hX (g_tb_hit (nm := "java/lang/IndexOutOfBoundsException") (r := []) (by decide) ⟨by decide, (g_in 299 (by decide +kernel) (by decide +kernel)), Or.inl ⟨rfl, rfl⟩⟩) (fun a9 => ?_)
  show g_Go E X _ h9 false _ _ 13 _ [.ref a9]
  refine g_astore hX (L' := [_, _, _, _, _]) dL_now_13 (by decide) (by first | rfl | exact g_rfr _) rfl 15 rfl ?_
  refine g_iconst hX dL_now_15 (v := 1) (by decide) 16 rfl ?_
  exact g_iret hX rfl rfl dL_now_16 ⟨rfl, A, ⟨rfl, rfl, rfl⟩, hW⟩ rfl (by rw [hR]; decide) (by rw [hR]; decide)
set_option maxRecDepth 100000 in
set_option maxHeartbeats 4000000 in
theorem h_now_0 {l : Launch} (hl : l.stackTraces = false) {E : g_E} {A : w_A} {S Sm : q_S} {h : g_H} (hW : w_W E A S Sm h) {x0 x1 : Int32} (hct : g_Ct l mS_now 7 99 1 6 [.ref (A 0 0), .int x0, .int x1] E h (false, fun r h' => r = .inl 0 ∧ h' = h)) : g_Ct l mL_now 8 116 7 107 [.ref (A 0 0), .int x0, .int x1, .ref (A 29 0)] E h (false, fun r h' => r = .inr (some (.int 2)) ∧ ∃ B, w_same A B ∧ w_W E B S Sm h') := by
  refine g_Ct.of hl (by decide) (by first | rfl | simp [g_rfc, Value.category]) (Nat.le_of_ble_eq_true rfl) ?_
  intro X hX hXl hR
  show g_Go E X _ h true 0 0 0 [some (.ref (A 0 0)), some (.int x0), some (.int x1), some (.ref (A 29 0)), none] []
  refine g_aload_n hX dL_now_0 rfl rfl (by first | rfl | exact g_rfr _) 1 rfl ?_
  refine g_iconst hX dL_now_1 (v := 0) (by decide) 2 rfl ?_
  refine g_aload_n hX dL_now_2 rfl rfl (by first | rfl | exact g_rfr _) 3 rfl ?_
  refine g_iload_n hX dL_now_3 rfl rfl 4 rfl ?_
  refine g_iload_n hX dL_now_4 rfl rfl 5 rfl ?_
  refine g_cV2 (wt := 2) hX (hXl.symm ▸ hct) dL_now_5 (w_s hW) kL_79 (g_rm.of hR (by decide) (by decide)) (by first | exact Nat.zero_le _ | (rw [hR]; decide)) (by first | exact Nat.zero_le _ | (rw [hR]; decide)) (by first | decide | (simp [Value.category])) (fun q => by cases q) 8 rfl (fun v h9 hP => by cases hP.1) (fun k h9 hP => ?_)
  obtain ⟨hk9, hh9⟩ := hP
  cases hk9
  subst hh9
  refine g_Th.caught hX (g_tb_no (nm := "java/lang/IndexOutOfBoundsException") (by decide) ⟨by decide, (g_in 299 (by decide +kernel) (by decide +kernel)), Or.inr ⟨rfl, g_inc 0 rfl⟩⟩ (g_tb_hit (nm := "java/lang/IllegalArgumentException") (r := []) (by decide) ⟨by decide, (g_in 298 (by decide +kernel) (by decide +kernel)), Or.inl ⟨rfl, rfl⟩⟩)) (fun a9 => ?_)
  show g_Go E X _ h9 false _ _ 17 _ [.ref a9]
  refine g_astore hX (L' := [_, _, _, _, _]) dL_now_17 (by decide) (by first | rfl | exact g_rfr _) rfl 19 rfl ?_
  refine g_iconst hX dL_now_19 (v := 2) (by decide) 20 rfl ?_
  exact g_iret hX rfl rfl dL_now_20 ⟨rfl, A, ⟨rfl, rfl, rfl⟩, hW⟩ rfl (by rw [hR]; decide) (by rw [hR]; decide)
set_option maxRecDepth 100000 in
set_option maxHeartbeats 4000000 in
theorem h_now {l : Launch} (hl : l.stackTraces = false) {E : g_E} {A : w_A} {S Sm : q_S} {h : g_H} (hW : w_W E A S Sm h) {x0 x1 : Int32} {v : Int32} {S1 : q_S} {mc ms : Nat} (hmc : mc ≤ 7) (hms : ms ≤ 107) (hct : g_Ct l mS_now 7 99 mc ms [.ref (A 0 0), .int x0, .int x1] E h (false, fun r h' => r = .inr (some (.int v)) ∧ ∃ B, w_same A B ∧ w_W E B S1 Sm h')) : g_Ct l mL_now 8 116 7 107 [.ref (A 0 0), .int x0, .int x1, .ref (A 29 0)] E h (false, fun r h' => r = .inr (some (.int 0)) ∧ ∃ B, w_same A B ∧ w_W E B (q_up2 S1 22 0 v) Sm h') := by
  refine g_Ct.of hl (by decide) (by first | rfl | simp [g_rfc, Value.category]) (Nat.le_of_ble_eq_true rfl) ?_
  intro X hX hXl hR
  show g_Go E X _ h true 0 0 0 [some (.ref (A 0 0)), some (.int x0), some (.int x1), some (.ref (A 29 0)), none] []
  refine g_aload_n hX dL_now_0 rfl rfl (by first | rfl | exact g_rfr _) 1 rfl ?_
  refine g_iconst hX dL_now_1 (v := 0) (by decide) 2 rfl ?_
  refine g_aload_n hX dL_now_2 rfl rfl (by first | rfl | exact g_rfr _) 3 rfl ?_
  refine g_iload_n hX dL_now_3 rfl rfl 4 rfl ?_
  refine g_iload_n hX dL_now_4 rfl rfl 5 rfl ?_
  refine g_cV2 (wt := 2) hX (hXl.symm ▸ hct) dL_now_5 (w_s hW) kL_79 (g_rm.of hR (by decide) (by decide)) (by rw [hR]; show 0 + mc ≤ 7; omega) (by rw [hR]; show 0 + ms ≤ 107; omega) (by first | decide | (simp [Value.category])) (fun q => by cases q) 8 rfl (fun v9 h hP => ?_) (fun k h9 hP => by cases hP.1)
  obtain ⟨hv, B, hB9, hW1⟩ := hP
  cases hv
  show g_Go E X _ h false _ _ 8 _ [.int v, .int 0, .ref (A 29 0)]
  have h29 : h (A 29 0) = some (w_cell E B S1 29 0) := by rw [← hB9.2.1]; exact w_c hW1 29 0 (by decide) ⟨rfl, by decide⟩
  have z29 : E.H0.size ≤ A 29 0 := by rw [← hB9.2.1]; exact w_cb hW1 29 0 (by decide) ⟨rfl, by decide⟩
  refine g_i2l hX dL_now_8 rfl 9 rfl ?_
  refine g_last hX dL_now_9 h29 z29 (g_ix.nat (k := 0) (by decide) (by decide)) 10 rfl ?_
  refine g_swapL (g := fun _ => v.toInt64) (fun j hj => (if_pos (by omega)).trans rfl) ?_
  rw [← hB9.2.1]
  refine g_stepC hW1 29 0 (q_up2 S1 22 0 v) (by decide) ⟨rfl, by decide⟩ ⟨rfl, rfl, rfl, rfl, rfl, rfl, rfl⟩ w_uc22 rfl (fun h hW2 => ?_)
  refine g_goto hX dL_now_10 21 (by decide) ?_
  refine g_iconst hX dL_now_21 (v := 0) (by decide) 22 rfl ?_
  exact g_iret hX rfl rfl dL_now_22 ⟨rfl, B, hB9, hW2⟩ rfl (by rw [hR]; show 0 + mc ≤ 7; omega) (by rw [hR]; show 0 + ms ≤ 107; omega)
