/-! the law's loop, and its start -/
theorem q_room6 {L i : Nat} (hL : L ≤ 3072) (hi : i ≤ 4000) (h : ¬ nI L - 6 < nI i) : i + 6 ≤ L := by
  by_cases h6 : 6 ≤ L
  · obtain ⟨m, rfl⟩ : ∃ m, L = m + 6 := ⟨L - 6, by omega⟩
    have e : nI (m + 6) - 6 = nI m := by
      rw [← nI_add]
      show nI m + 6 - 6 = nI m
      exact Int32.add_sub_cancel _ _
    rw [e] at h
    by_cases hm : m < i
    · exact absurd (nI_lt hm (by omega)) h
    · omega
  · have h9 : L = 0 ∨ L = 1 ∨ L = 2 ∨ L = 3 ∨ L = 4 ∨ L = 5 := by omega
    exfalso
    rw [Int32.lt_iff_toInt_lt, nI_toInt (by omega)] at h
    rcases h9 with rfl | rfl | rfl | rfl | rfl | rfl
    · rw [show (nI 0 - 6).toInt = -6 from by decide] at h; omega
    · rw [show (nI 1 - 6).toInt = -5 from by decide] at h; omega
    · rw [show (nI 2 - 6).toInt = -4 from by decide] at h; omega
    · rw [show (nI 3 - 6).toInt = -3 from by decide] at h; omega
    · rw [show (nI 4 - 6).toInt = -2 from by decide] at h; omega
    · rw [show (nI 5 - 6).toInt = -1 from by decide] at h; omega
theorem i_S0 : w_I q_S0 := by
  refine ⟨⟨Nat.zero_le _, Nat.zero_le _, Nat.zero_le _, fun p hp => absurd hp (Nat.not_lt_zero _), fun j hj => absurd hj (Nat.not_lt_zero _), fun e he => absurd he (Nat.not_lt_zero _)⟩, ⟨fun p hp => absurd hp (Nat.not_lt_zero _), fun j hj => absurd hj (Nat.not_lt_zero _), fun i => Or.inl rfl, fun e he => absurd he (Nat.not_lt_zero _), fun e he => absurd he (Nat.not_lt_zero _), Or.inl ⟨rfl, rfl, rfl⟩⟩, fun t h1 _ => absurd h1 (Nat.not_lt_zero _), fun t => Nat.zero_le _, Nat.zero_le _, rfl, fun i _ => ⟨rfl, rfl⟩, Nat.zero_le _, ⟨4, Nat.le_refl _, ?_⟩, fun j h => absurd rfl h⟩
  show q_th0 6 = nI 4
  decide
set_option maxRecDepth 100000 in
set_option maxHeartbeats 4000000 in
theorem lp_law {E : g_E} {X : g_X} {nm ds : String} {tb : List (Nat × Nat × Nat × Nat)} (hX : g_ok E X (mLaw nm ds tb)) (hR : X.R = { frames := 14, cells := 601024, slots := 7293034, locals := 520 }) {b L : Nat} {xs : Nat → Int32} (hT : va_T .int b L (fun j => .int (xs j)) (fun q => E.H0.size ≤ q) X.s E.H0) (hL : L ≤ 3072) : ∀ (r k : Nat) (A : w_A) (S : q_S) (h : g_H) (cs ss : Nat), L < 6 * k + 6 + 6 * r → k ≤ 512 → w_I S → w_W E A S S h → cs ≤ 40 + 7 * k → ss ≤ 1400 + 107 * k → g_Go E X lw_fin h false cs ss 23 [some (.ref b), some (.ref (A 0 0)), some (.ref (A 30 0)), some (.ref (A 29 0)), some (.int (nI (6 * k))), none, none] [] := by
  intro r
  induction r with
  | zero =>
    intro k A S h cs ss hr hk5 hI hW hcs hss
    refine g_iload hX dL_law_23 rfl 25 rfl ?_
    refine g_aload_n hX dL_law_25 rfl rfl (by first | rfl | exact g_rfr _) 26 rfl ?_
    refine g_alenT hX dL_law_26 hT 27 rfl ?_
    refine g_bipush hX dL_law_27 (v := 6) (by decide) 29 rfl ?_
    refine g_isub hX dL_law_29 30 rfl ?_
    refine g_icmp_gt hX dL_law_30 1453 33 (by decide) rfl (fun c30 => ?_) (fun c30 => ?_)
    · refine g_iconst hX dL_law_1453 (v := 1) (by decide) 1454 rfl ?_
      exact g_iret hX rfl rfl dL_law_1454 rfl rfl (by rw [hR]; show cs ≤ 601024; omega) (by rw [hR]; show ss ≤ 7293034; omega)
    · exact absurd (q_room6 hL (by omega) c30) (by omega)
  | succ r ih =>
    intro k A S h cs ss hr hk5 hI hW hcs hss
    refine g_iload hX dL_law_23 rfl 25 rfl ?_
    refine g_aload_n hX dL_law_25 rfl rfl (by first | rfl | exact g_rfr _) 26 rfl ?_
    refine g_alenT hX dL_law_26 hT 27 rfl ?_
    refine g_bipush hX dL_law_27 (v := 6) (by decide) 29 rfl ?_
    refine g_isub hX dL_law_29 30 rfl ?_
    refine g_icmp_gt hX dL_law_30 1453 33 (by decide) rfl (fun c30 => ?_) (fun c30 => ?_)
    · refine g_iconst hX dL_law_1453 (v := 1) (by decide) 1454 rfl ?_
      exact g_iret hX rfl rfl dL_law_1454 rfl rfl (by rw [hR]; show cs ≤ 601024; omega) (by rw [hR]; show ss ≤ 7293034; omega)
    · refine g_aload_n hX dL_law_33 rfl rfl (by first | rfl | exact g_rfr _) 34 rfl ?_
      refine g_iload hX dL_law_34 rfl 36 rfl ?_
      refine g_ialdT hX dL_law_36 hT (g_ix.nat (show 6 * k < L by have := q_room6 hL (show 6 * k ≤ 4000 by omega) c30; omega) (by omega)) 37 rfl ?_
      refine g_bipush hX dL_law_37 (v := 31) (by decide) 39 rfl ?_
      refine g_iand hX dL_law_39 40 rfl ?_
      have hk := q_room6 hL (show 6 * k ≤ 4000 by omega) c30
      have kk : ∀ (B : w_A) (T : q_S) (h : g_H) (cs ss : Nat), w_I T → w_W E B T T h → cs ≤ 47 + 7 * k → ss ≤ 1507 + 107 * k → g_Go E X lw_fin h false cs ss 1447 [some (.ref b), some (.ref (B 0 0)), some (.ref (B 30 0)), some (.ref (B 29 0)), some (.int (nI (6 * k))), none, none] [] := by
        intro B T h cs ss hI hW hcs hss
        refine g_iinc hX (L' := [_, _, _, _, _, _, _]) dL_law_1447 rfl (q_six k) rfl 1450 rfl ?_
        refine g_goto hX dL_law_1450 23 (by decide) ?_
        exact ih (k + 1) B T h cs ss (by omega) (by omega) hI hW (by omega) (by omega)
      generalize xs (6 * k) &&& 31 = y
      rcases q_sw y 22 (by decide) with ⟨j, hj, rfl⟩ | hy
      · have h23 : j = 0 ∨ j = 1 ∨ j = 2 ∨ j = 3 ∨ j = 4 ∨ j = 5 ∨ j = 6 ∨ j = 7 ∨ j = 8 ∨ j = 9 ∨ j = 10 ∨ j = 11 ∨ j = 12 ∨ j = 13 ∨ j = 14 ∨ j = 15 ∨ j = 16 ∨ j = 17 ∨ j = 18 ∨ j = 19 ∨ j = 20 ∨ j = 21 ∨ j = 22 := by omega
        rcases h23 with rfl | rfl | rfl | rfl | rfl | rfl | rfl | rfl | rfl | rfl | rfl | rfl | rfl | rfl | rfl | rfl | rfl | rfl | rfl | rfl | rfl | rfl | rfl
        · refine g_tableIn hX (off := 108) 148 dL_law_40 (by decide) (by decide) (by decide) (by decide) ?_
          exact lo_page hX hR hT hL hk hI hW hcs hss kk
        · refine g_tableIn hX (off := 176) 216 dL_law_40 (by decide) (by decide) (by decide) (by decide) ?_
          exact lo_shape hX hR hT hL hk hI hW hcs hss kk
        · refine g_tableIn hX (off := 244) 284 dL_law_40 (by decide) (by decide) (by decide) (by decide) ?_
          exact lo_theme hX hR hT hL hk hI hW hcs hss kk
        · refine g_tableIn hX (off := 292) 332 dL_law_40 (by decide) (by decide) (by decide) (by decide) ?_
          exact lo_set hX hR hT hL hk hI hW hcs hss kk
        · refine g_tableIn hX (off := 352) 392 dL_law_40 (by decide) (by decide) (by decide) (by decide) ?_
          exact lo_unset hX hR hT hL hk hI hW hcs hss kk
        · refine g_tableIn hX (off := 427) 467 dL_law_40 (by decide) (by decide) (by decide) (by decide) ?_
          exact lo_resolved hX hR hT hL hk hI hW hcs hss kk
        · refine g_tableIn hX (off := 495) 535 dL_law_40 (by decide) (by decide) (by decide) (by decide) ?_
          exact lo_origin hX hR hT hL hk hI hW hcs hss kk
        · refine g_tableIn hX (off := 563) 603 dL_law_40 (by decide) (by decide) (by decide) (by decide) ?_
          exact lo_binding hX hR hT hL hk hI hW hcs hss kk
        · refine g_tableIn hX (off := 619) 659 dL_law_40 (by decide) (by decide) (by decide) (by decide) ?_
          exact lo_write hX hR hT hL hk hI hW hcs hss kk
        · refine g_tableIn hX (off := 699) 739 dL_law_40 (by decide) (by decide) (by decide) (by decide) ?_
          exact lo_scale hX hR hT hL hk hI hW hcs hss kk
        · refine g_tableIn hX (off := 755) 795 dL_law_40 (by decide) (by decide) (by decide) (by decide) ?_
          exact lo_lines hX hR hT hL hk hI hW hcs hss kk
        · refine g_tableIn hX (off := 811) 851 dL_law_40 (by decide) (by decide) (by decide) (by decide) ?_
          exact lo_line hX hR hT hL hk hI hW hcs hss kk
        · refine g_tableIn hX (off := 891) 931 dL_law_40 (by decide) (by decide) (by decide) (by decide) ?_
          exact lo_number hX hR hT hL hk hI hW hcs hss kk
        · refine g_tableIn hX (off := 959) 999 dL_law_40 (by decide) (by decide) (by decide) (by decide) ?_
          exact lo_effect hX hR hT hL hk hI hW hcs hss kk
        · refine g_tableIn hX (off := 1063) 1103 dL_law_40 (by decide) (by decide) (by decide) (by decide) ?_
          exact lo_amount hX hR hT hL hk hI hW hcs hss kk
        · refine g_tableIn hX (off := 1111) 1151 dL_law_40 (by decide) (by decide) (by decide) (by decide) ?_
          exact lo_timing hX hR hT hL hk hI hW hcs hss kk
        · refine g_tableIn hX (off := 1179) 1219 dL_law_40 (by decide) (by decide) (by decide) (by decide) ?_
          exact lo_click hX hR hT hL hk hI hW hcs hss kk
        · refine g_tableIn hX (off := 1192) 1232 dL_law_40 (by decide) (by decide) (by decide) (by decide) ?_
          exact lo_back hX hR hT hL hk hI hW hcs hss kk
        · refine g_tableIn hX (off := 1205) 1245 dL_law_40 (by decide) (by decide) (by decide) (by decide) ?_
          exact lo_jump hX hR hT hL hk hI hW hcs hss kk
        · refine g_tableIn hX (off := 1241) 1281 dL_law_40 (by decide) (by decide) (by decide) (by decide) ?_
          exact lo_tick hX hR hT hL hk hI hW hcs hss kk
        · refine g_tableIn hX (off := 1277) 1317 dL_law_40 (by decide) (by decide) (by decide) (by decide) ?_
          exact lo_state hX hR hT hL hk hI hW hcs hss kk
        · refine g_tableIn hX (off := 1302) 1342 dL_law_40 (by decide) (by decide) (by decide) (by decide) ?_
          exact lo_now hX hR hT hL hk hI hW hcs hss kk
        · refine g_tableIn hX (off := 1370) 1410 dL_law_40 (by decide) (by decide) (by decide) (by decide) ?_
          exact lo_pixel hX hR hT hL hk hI hW hcs hss kk
      · refine g_tableOut hX 1447 dL_law_40 hy (by decide) ?_
        exact kk A S h cs ss hI hW (by omega) (by omega)
theorem w_start {E : g_E} {B : w_A} {h : g_H} {q : Nat} (hG : w_G E (w_uA B 29 0 q) (w_LV (29 :: [51, 50, 49, 48, 47, 46, 45, 44, 43, 42, 41, 40, 39, 38, 37, 36, 35, 34, 33, 32, 31, 30, 28, 27, 26, 25, 24, 22, 20, 18, 16, 1, 0])) (w_uc (fun k i => w_cell E B q_S0 k i) 29 0 (.inl (E.D.1 102, 1, .inr (.inl (fun _ => 0))))) h) : w_W E (w_uA B 29 0 q) q_S0 q_S0 h := by
  refine hG.fin (fun k i hk => ?_)
  by_cases hlt : k < 30
  case neg =>
    have h51 := w_ltag hk
    have hi := (w_lvM (by omega) h51 i).mp hk
    subst hi
    refine ⟨⟨rfl, ?_⟩, ?_⟩
    · rcases w_tags (by omega) h51 with rfl | rfl | rfl | rfl | rfl | rfl | rfl | rfl | rfl | rfl | rfl | rfl | rfl | rfl | rfl | rfl | rfl | rfl | rfl | rfl | rfl | rfl <;> decide
    · rw [w_uc_tag _ (by omega), w_pkM (by omega)]
      exact w_uM (fun t h1 h2 => by rw [w_uA_tag _ (by omega)]) (by omega) h51
  unfold w_lv at hk
  rw [w_pkC hlt] at hk ⊢
  rcases w_tagsC hlt with rfl | rfl | rfl | rfl | rfl | rfl | rfl | rfl | rfl | rfl | rfl | rfl | rfl | rfl | rfl | rfl | rfl | rfl | rfl | rfl | rfl | rfl | rfl | rfl | rfl | rfl | rfl | rfl | rfl | rfl
  · obtain ⟨rfl, -⟩ := hk
    exact ⟨⟨rfl, by decide⟩, w_u0 (A := B) (B := w_uA B 29 0 q) (S := q_S0) rfl rfl rfl rfl rfl rfl⟩
  · obtain ⟨rfl, -⟩ := hk
    exact ⟨⟨rfl, by decide⟩, w_u1 (A := B) (B := w_uA B 29 0 q) (S := q_S0) ⟩
  · exact absurd hk (Nat.not_lt_zero _)
  · exact absurd hk (Nat.not_lt_zero _)
  · exact absurd hk.1 (Nat.not_lt_zero _)
  · exact absurd hk (Nat.not_lt_zero _)
  · exact absurd hk.1 (Nat.not_lt_zero _)
  · exact absurd hk (Nat.not_lt_zero _)
  · exact absurd hk (Nat.not_lt_zero _)
  · exact absurd hk (Nat.not_lt_zero _)
  · exact absurd hk (Nat.not_lt_zero _)
  · exact absurd hk.1 (Nat.not_lt_zero _)
  · exact absurd hk (Nat.not_lt_zero _)
  · exact absurd hk.1 (Nat.not_lt_zero _)
  · exact absurd hk.1 (Nat.not_lt_zero _)
  · exact absurd hk (Nat.not_lt_zero _)
  · obtain ⟨rfl, -⟩ := hk
    exact ⟨⟨rfl, by decide⟩, w_u16 (A := B) (B := w_uA B 29 0 q) (S := q_S0) rfl⟩
  · exact absurd rfl hk.2
  · obtain ⟨rfl, -⟩ := hk
    exact ⟨⟨rfl, by decide⟩, w_u18 (A := B) (B := w_uA B 29 0 q) (S := q_S0) rfl⟩
  · exact absurd rfl hk.2
  · obtain ⟨rfl, -⟩ := hk
    exact ⟨⟨rfl, by decide⟩, w_u20 (A := B) (B := w_uA B 29 0 q) (S := q_S0) rfl⟩
  · exact absurd rfl hk.2
  · obtain ⟨rfl, -⟩ := hk
    exact ⟨⟨rfl, by decide⟩, w_u22 (A := B) (B := w_uA B 29 0 q) (S := q_S0) rfl⟩
  · exact absurd rfl hk.2
  · obtain ⟨rfl, -⟩ := hk
    exact ⟨⟨rfl, by decide⟩, w_u24 (A := B) (B := w_uA B 29 0 q) (S := q_S0) rfl rfl rfl rfl⟩
  · obtain ⟨rfl, -⟩ := hk
    exact ⟨⟨rfl, by decide⟩, w_u25 (A := B) (B := w_uA B 29 0 q) (S := q_S0) ⟩
  · obtain ⟨rfl, -⟩ := hk
    exact ⟨⟨rfl, by decide⟩, w_u26 (A := B) (B := w_uA B 29 0 q) (S := q_S0) ⟩
  · obtain ⟨rfl, -⟩ := hk
    exact ⟨⟨rfl, by decide⟩, w_u27 (A := B) (B := w_uA B 29 0 q) (S := q_S0) ⟩
  · obtain ⟨rfl, -⟩ := hk
    exact ⟨⟨rfl, by decide⟩, w_u28 (A := B) (B := w_uA B 29 0 q) (S := q_S0) ⟩
  · obtain ⟨rfl, -⟩ := hk
    refine ⟨⟨rfl, by decide⟩, ?_⟩
    rw [w_uc_same]
    rfl
set_option maxRecDepth 100000 in
set_option maxHeartbeats 4000000 in
theorem c_law {E : g_E} {X : g_X} {nm ds : String} {tb : List (Nat × Nat × Nat × Nat)} (hX : g_ok E X (mLaw nm ds tb)) (hR : X.R = { frames := 14, cells := 601024, slots := 7293034, locals := 520 }) {b L : Nat} {xs : Nat → Int32} (hT : va_T .int b L (fun j => .int (xs j)) (fun q => E.H0.size ≤ q) X.s E.H0) (hL : L ≤ 3072) : g_Go E X lw_fin (fun _ => none) true 0 0 0 [some (.ref b), none, none, none, none, none, none] [] := by
  have hG0 : w_G E (fun _ _ => 0) (w_LV []) (fun _ _ => g_L0 E) (fun _ => none) := ⟨fun k i hk => absurd hk.2 List.not_mem_nil, fun k i hk => absurd hk.2 List.not_mem_nil, fun k i k' i' hk => absurd hk.2 List.not_mem_nil⟩
  refine g_new hX dL_law_0 nL_8 (by rw [hR]; decide) (by rw [hR]; decide) 3 rfl (fun q1 hq1 zq1 => ?_)
  refine w_step (w_newL hG0 0 (.inr (0, [.null, .null, .null, .null, .null, .null, .int 0, .int 0, .int 0])) hq1 zq1) (fun h hG => ?_)
  refine g_dup hX dL_law_3 rfl 4 rfl ?_
  refine g_cI0 (wt := 1) hX (c_S_init hX.tr hG (w_uA_same _ _ _ _)) dL_law_4 kL_82 (g_rm.of hR (by decide) (by decide)) (by first | exact Nat.zero_le _ | (rw [hR]; decide)) (by first | exact Nat.zero_le _ | (rw [hR]; decide)) (by first | decide | (simp [Value.category])) (fun q => by cases q) 7 rfl (fun v h hP => ?_) (fun k h hP => by cases hP.1)
  obtain ⟨hv, B1, e1, hG⟩ := hP
  cases hv
  show g_Go E X _ h false _ _ 7 _ [.ref q1]
  refine g_astore_n hX (L' := [_, _, _, _, _, _, _]) dL_law_7 rfl (Nat.le_of_ble_eq_true rfl) (by first | rfl | exact g_rfr _) rfl 8 rfl ?_
  refine g_new hX dL_law_8 nL_83 (by rw [hR]; decide) (by rw [hR]; decide) 11 rfl (fun q2 hq2 zq2 => ?_)
  refine w_step (w_newL hG 30 (.inr (7, [.int 0, .int 0, .null, .null, .int 0, .null, .null, .null, .null, .null, .null, .null, .null, .null, .int 0, .null, .null, .null, .null, .null, .null, .int 0, .int 0, .int 0, .int 0, .null, .null, .null, .null])) hq2 zq2) (fun h hG => ?_)
  refine g_dup hX dL_law_11 rfl 12 rfl ?_
  refine g_cI0 (wt := 1) hX (c_M_init (C := B1) hX.tr (fun t ht => w_uA_tag _ (by omega)) hG (w_uA_same _ _ _ _)) dL_law_12 kL_85 (g_rm.of hR (by decide) (by decide)) (by first | exact Nat.zero_le _ | (rw [hR]; decide)) (by first | exact Nat.zero_le _ | (rw [hR]; decide)) (by first | decide | (simp [Value.category])) (fun q => by cases q) 15 rfl (fun v h hP => ?_) (fun k h hP => by cases hP.1)
  obtain ⟨hv, B2, e2, e3, hG⟩ := hP
  cases hv
  show g_Go E X _ h false _ _ 15 _ [.ref q2]
  refine g_astore_n hX (L' := [_, _, _, _, _, _, _]) dL_law_15 rfl (Nat.le_of_ble_eq_true rfl) (by first | rfl | exact g_rfr _) rfl 16 rfl ?_
  refine g_iconst hX dL_law_16 (v := 1) (by decide) 17 rfl ?_
  refine g_newa (t := 2) (N := 1) (a0 := (1, .inr (.inl (fun _ => 0)))) hX dL_law_17 a_long rfl rfl (fun C q => by cases q) (fun _ => rfl) (by decide) (by decide) (by decide) (by rw [hR]; decide) (by rw [hR]; decide) 19 rfl (fun q3 hq3 zq3 => ?_)
  refine w_step (w_newL hG 29 (.inl (E.D.1 102, 1, .inr (.inl (fun _ => 0)))) hq3 zq3) (fun h hG => ?_)
  refine g_astore_n hX (L' := [_, _, _, _, _, _, _]) dL_law_19 rfl (Nat.le_of_ble_eq_true rfl) (by first | rfl | exact g_rfr _) rfl 20 rfl ?_
  refine g_iconst hX dL_law_20 (v := 0) (by decide) 21 rfl ?_
  refine g_istore hX (L' := [_, _, _, _, _, _, _]) dL_law_21 (Nat.le_of_ble_eq_true rfl) rfl 23 rfl ?_
  have hl := lp_law hX hR hT hL 512 0 (w_uA B2 29 0 q3) q_S0 h _ _ (by omega) (by decide) i_S0 (w_start hG) (show 37 ≤ 40 + 7 * 0 by decide) (show 1350 ≤ 1400 + 107 * 0 by decide)
  rw [show w_uA B2 29 0 q3 0 0 = q1 from e2.trans e1, show w_uA B2 29 0 q3 30 0 = q2 from e3, w_uA_same] at hl
  exact hl
