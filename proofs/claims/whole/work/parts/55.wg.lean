/-! worlds with cells of any kind, for steps that leave the one state for a while -/
def w_G (E : g_E) (A : w_A) (lv : Nat → Nat → Prop) (cl : Nat → Nat → va_E) (h : g_H) : Prop :=
  (∀ k i, lv k i → h (A k i) = some (cl k i)) ∧ (∀ k i, lv k i → E.H0.size ≤ A k i) ∧ ∀ k i k' i', lv k i → lv k' i' → A k i = A k' i' → k = k' ∧ i = i'
def w_uA (A : w_A) (k0 i0 a : Nat) : w_A := fun k i => if k = k0 ∧ i = i0 then a else A k i
def w_ul (lv : Nat → Nat → Prop) (k0 i0 : Nat) : Nat → Nat → Prop := fun k i => (k = k0 ∧ i = i0) ∨ lv k i
def w_uc (cl : Nat → Nat → va_E) (k0 i0 : Nat) (e : va_E) : Nat → Nat → va_E := fun k i => if k = k0 ∧ i = i0 then e else cl k i
theorem w_W.g {E : g_E} {A : w_A} {Sc Sm : q_S} {h : g_H} (hW : w_W E A Sc Sm h) : w_G E A (w_lv Sc Sm) (fun k i => w_cell E A (w_pk Sc Sm k) k i) h := hW
theorem w_uA_same (A : w_A) (k0 i0 a : Nat) : w_uA A k0 i0 a k0 i0 = a := if_pos ⟨rfl, rfl⟩
theorem w_uA_ne (A : w_A) {k0 i0 a k i : Nat} (h : ¬ (k = k0 ∧ i = i0)) : w_uA A k0 i0 a k i = A k i := if_neg h
/-- a cell is made: the tag (k0, i0) is there from now on -/
theorem w_G.new {E : g_E} {A : w_A} {lv : Nat → Nat → Prop} {cl : Nat → Nat → va_E} {h : g_H} (hG : w_G E A lv cl h) (k0 i0 : Nat) {a : Nat} (e : va_E) (hf : h a = none) (hb : E.H0.size ≤ a) : w_G E (w_uA A k0 i0 a) (w_ul lv k0 i0) (w_uc cl k0 i0 e) (g_set h a e) := by
  have hne : ∀ k i, lv k i → A k i ≠ a := fun k i hk q => by
    have h1 := hG.1 k i hk
    rw [q, hf] at h1
    cases h1
  refine ⟨fun k i hk => ?_, fun k i hk => ?_, fun k i k' i' h1 h2 he => ?_⟩
  · by_cases hq : k = k0 ∧ i = i0
    · rw [show w_uA A k0 i0 a k i = a from if_pos hq, show w_uc cl k0 i0 e k i = e from if_pos hq, g_set_same]
    · rw [w_uA_ne A hq, show w_uc cl k0 i0 e k i = cl k i from if_neg hq, g_set_ne h e (hne k i (hk.resolve_left hq))]
      exact hG.1 k i (hk.resolve_left hq)
  · by_cases hq : k = k0 ∧ i = i0
    · rw [show w_uA A k0 i0 a k i = a from if_pos hq]
      exact hb
    · rw [w_uA_ne A hq]
      exact hG.2.1 k i (hk.resolve_left hq)
  · by_cases hq : k = k0 ∧ i = i0
    · by_cases hq' : k' = k0 ∧ i' = i0
      · exact ⟨hq.1.trans hq'.1.symm, hq.2.trans hq'.2.symm⟩
      · rw [show w_uA A k0 i0 a k i = a from if_pos hq, w_uA_ne A hq'] at he
        exact absurd he.symm (hne k' i' (h2.resolve_left hq'))
    · by_cases hq' : k' = k0 ∧ i' = i0
      · rw [w_uA_ne A hq, show w_uA A k0 i0 a k' i' = a from if_pos hq'] at he
        exact absurd he (hne k i (h1.resolve_left hq))
      · rw [w_uA_ne A hq, w_uA_ne A hq'] at he
        exact hG.2.2 k i k' i' (h1.resolve_left hq) (h2.resolve_left hq') he
/-- a cell is written -/
theorem w_G.put {E : g_E} {A : w_A} {lv : Nat → Nat → Prop} {cl : Nat → Nat → va_E} {h : g_H} (hG : w_G E A lv cl h) {k0 i0 : Nat} (h0 : lv k0 i0) (e : va_E) : w_G E A lv (w_uc cl k0 i0 e) (g_set h (A k0 i0) e) := by
  refine ⟨fun k i hk => ?_, hG.2.1, hG.2.2⟩
  by_cases hq : k = k0 ∧ i = i0
  · rw [show w_uc cl k0 i0 e k i = e from if_pos hq, hq.1, hq.2, g_set_same]
  · rw [show w_uc cl k0 i0 e k i = cl k i from if_neg hq, g_set_ne h e (fun q => hq (hG.2.2 k i k0 i0 hk h0 q))]
    exact hG.1 k i hk
theorem w_G.fin {E : g_E} {A : w_A} {lv : Nat → Nat → Prop} {cl : Nat → Nat → va_E} {h : g_H} {Sc Sm : q_S} (hG : w_G E A lv cl h) (hl : ∀ k i, w_lv Sc Sm k i → lv k i ∧ cl k i = w_cell E A (w_pk Sc Sm k) k i) : w_W E A Sc Sm h :=
  ⟨fun k i hk => by rw [hG.1 k i (hl k i hk).1, (hl k i hk).2], fun k i hk => hG.2.1 k i (hl k i hk).1, fun k i k' i' h1 h2 => hG.2.2 k i k' i' (hl k i h1).1 (hl k' i' h2).1⟩
theorem g_set_set (h : g_H) (a : Nat) (e1 e2 : va_E) : g_set (g_set h a e1) a e2 = g_set h a e2 := by
  funext q
  unfold g_set
  split <;> rfl
theorem g_set_comm (h : g_H) {a b : Nat} (e1 e2 : va_E) (hn : a ≠ b) : g_set (g_set h a e1) b e2 = g_set (g_set h b e2) a e1 := by
  funext q
  unfold g_set
  by_cases h1 : q = a
  · subst h1
    rw [if_neg hn, if_pos rfl, if_pos rfl]
  · by_cases h2 : q = b
    · subst h2
      rw [if_pos rfl, if_neg h1, if_pos rfl]
    · rw [if_neg h2, if_neg h1, if_neg h1, if_neg h2]
theorem w_tagsC {k : Nat} (h2 : k < 30) : k = 0 ∨ k = 1 ∨ k = 2 ∨ k = 3 ∨ k = 4 ∨ k = 5 ∨ k = 6 ∨ k = 7 ∨ k = 8 ∨ k = 9 ∨ k = 10 ∨ k = 11 ∨ k = 12 ∨ k = 13 ∨ k = 14 ∨ k = 15 ∨ k = 16 ∨ k = 17 ∨ k = 18 ∨ k = 19 ∨ k = 20 ∨ k = 21 ∨ k = 22 ∨ k = 23 ∨ k = 24 ∨ k = 25 ∨ k = 26 ∨ k = 27 ∨ k = 28 ∨ k = 29 := by omega
theorem w_liveK {S : q_S} {k i : Nat} (hk : k < 30) {T : q_S} (h : w_live S k i) (hc : q_np S = q_np T ∧ q_ns S = q_ns T ∧ q_ne S = q_ne T ∧ S.1 3 = T.1 3 ∧ S.1 2 = T.1 2 ∧ S.1 5 = T.1 5 ∧ S.2 0 = T.2 0) : w_live T k i := by
  obtain ⟨h1, h2, h3, h4, h5, h6, h7⟩ := hc
  rcases w_tagsC hk with rfl | rfl | rfl | rfl | rfl | rfl | rfl | rfl | rfl | rfl | rfl | rfl | rfl | rfl | rfl | rfl | rfl | rfl | rfl | rfl | rfl | rfl | rfl | rfl | rfl | rfl | rfl | rfl | rfl | rfl
  all_goals first
    | exact h
    | (simp only [w_live, q_on, q_eon, q_eof, q_sl, w_pars, q_home, q_kind, q_np, q_ns, q_ne] at h ⊢
       simp only [q_np, q_ns, q_ne] at h1 h2 h3
       first
         | (rw [← h1]; exact h)
         | (rw [← h2]; exact h)
         | (rw [← h3]; exact h)
         | (simp only [← h1, ← h2, ← h3, ← h4, ← h5, ← h6, ← h7]; exact h))
theorem w_sa_c {S T : q_S} (h : q_sl S = q_sl T) (h3 : S.1 0 3 = T.1 0 3) : w_slideAt S = w_slideAt T := by
  unfold w_slideAt
  rw [h, show q_at S = q_at T from h3]
theorem q_sl_c {S T : q_S} (h0 : S.1 0 0 = T.1 0 0) (h : S.2 0 = T.2 0) : q_sl S = q_sl T := by
  unfold q_sl
  rw [show q_np S = q_np T from h0]
  simp only [q_kind, h]
theorem w_t0 {E : g_E} {A : w_A} {S T : q_S} (h0 : q_sl S = q_sl T) (h1 : S.1 0 3 = T.1 0 3) (h2 : S.1 0 4 = T.1 0 4) (h3 : S.2 13 0 = T.2 13 0) (i : Nat) : w_cell E A S 0 i = w_cell E A T 0 i := by
  show Sum.inr (0, [Value.ref (A 1 0), .ref (A 16 0), .ref (A 18 0), .ref (A 20 0), .ref (A 22 0), .ref (A 24 0), .int (w_slideAt S), .int (nI (S.1 0 4)), .int (S.2 13 0)]) = Sum.inr (0, [Value.ref (A 1 0), .ref (A 16 0), .ref (A 18 0), .ref (A 20 0), .ref (A 22 0), .ref (A 24 0), .int (w_slideAt T), .int (nI (T.1 0 4)), .int (T.2 13 0)])
  rw [w_sa_c h0 h1, h2, h3]
theorem w_t15 {E : g_E} {A : w_A} {S T : q_S} (h : q_ea S T) (h7 : S.2 7 = T.2 7) (h11 : S.2 11 = T.2 11) (i : Nat) : w_cell E A S 15 i = w_cell E A T 15 i := by
  show Sum.inr (4, [Value.ref (A 2 (q_epage S i)), .int (S.2 7 i), .int (nI (q_build S i)), .int (q_base S i), .int (q_start S i), .int (q_end S i), .int (S.2 10 i), .int (S.2 11 i)]) = Sum.inr (4, [Value.ref (A 2 (q_epage T i)), .int (T.2 7 i), .int (nI (q_build T i)), .int (q_base T i), .int (q_start T i), .int (q_end T i), .int (T.2 10 i), .int (T.2 11 i)])
  rw [q_epage_ea h, q_build_ea h, q_base_ea h, q_start_ea h, q_end_ea h, h7, h11, h.2.2.2.2]
theorem w_t1 {E : g_E} {A : w_A} {S T : q_S} (h0 : S.2 4 = T.2 4) (i : Nat) : w_cell E A S 1 i = w_cell E A T 1 i := by
  simp only [w_cell, w_data, w_pars, q_on, q_eon, q_eof, q_sl, q_home, q_kind, q_slot, q_par, q_np, q_ns, q_ne, h0]
theorem w_t2 {E : g_E} {A : w_A} {S T : q_S} (h0 : S.2 0 = T.2 0) (h1 : S.1 1 = T.1 1) (i : Nat) : w_cell E A S 2 i = w_cell E A T 2 i := by
  simp only [w_cell, w_data, w_pars, q_on, q_eon, q_eof, q_sl, q_home, q_kind, q_slot, q_par, q_np, q_ns, q_ne, h0, h1]
theorem w_t3 {E : g_E} {A : w_A} {S T : q_S} (h0 : S.1 0 1 = T.1 0 1) (h1 : S.1 2 = T.1 2) (i : Nat) : w_cell E A S 3 i = w_cell E A T 3 i := by
  simp only [w_cell, w_data, w_pars, q_on, q_eon, q_eof, q_sl, q_home, q_kind, q_slot, q_par, q_np, q_ns, q_ne, h0, h1]
theorem w_t4 {E : g_E} {A : w_A} {S T : q_S} (h0 : S.1 0 1 = T.1 0 1) (h1 : S.1 2 = T.1 2) (i : Nat) : w_cell E A S 4 i = w_cell E A T 4 i := by
  simp only [w_cell, w_data, w_pars, q_on, q_eon, q_eof, q_sl, q_home, q_kind, q_slot, q_par, q_np, q_ns, q_ne, h0, h1]
theorem w_t5 {E : g_E} {A : w_A} {S T : q_S} (h0 : S.1 0 2 = T.1 0 2) (h1 : S.1 2 = T.1 2) (h2 : S.1 5 = T.1 5) (i : Nat) : w_cell E A S 5 i = w_cell E A T 5 i := by
  simp only [w_cell, w_data, w_pars, q_on, q_eon, q_eof, q_sl, q_home, q_kind, q_slot, q_par, q_np, q_ns, q_ne, h0, h1, h2]
theorem w_t6 {E : g_E} {A : w_A} {S T : q_S} (h0 : S.1 0 2 = T.1 0 2) (h1 : S.1 2 = T.1 2) (h2 : S.1 5 = T.1 5) (i : Nat) : w_cell E A S 6 i = w_cell E A T 6 i := by
  simp only [w_cell, w_data, w_pars, q_on, q_eon, q_eof, q_sl, q_home, q_kind, q_slot, q_par, q_np, q_ns, q_ne, h0, h1, h2]
theorem w_t7 {E : g_E} {A : w_A} {S T : q_S} (h0 : S.1 2 = T.1 2) (h1 : S.2 1 = T.2 1) (i : Nat) : w_cell E A S 7 i = w_cell E A T 7 i := by
  simp only [w_cell, w_data, w_pars, q_on, q_eon, q_eof, q_sl, q_home, q_kind, q_slot, q_par, q_np, q_ns, q_ne, h0, h1]
theorem w_t8 {E : g_E} {A : w_A} {S T : q_S} (h0 : S.2 2 = T.2 2) (i : Nat) : w_cell E A S 8 i = w_cell E A T 8 i := by
  simp only [w_cell, w_data, w_pars, q_on, q_eon, q_eof, q_sl, q_home, q_kind, q_slot, q_par, q_np, q_ns, q_ne, h0]
theorem w_t9 {E : g_E} {A : w_A} {S T : q_S} (h0 : S.2 3 = T.2 3) (i : Nat) : w_cell E A S 9 i = w_cell E A T 9 i := by
  simp only [w_cell, w_data, w_pars, q_on, q_eon, q_eof, q_sl, q_home, q_kind, q_slot, q_par, q_np, q_ns, q_ne, h0]
theorem w_t10 {E : g_E} {A : w_A} {S T : q_S} (h0 : S.1 3 = T.1 3) (i : Nat) : w_cell E A S 10 i = w_cell E A T 10 i := by
  simp only [w_cell, w_data, w_pars, q_on, q_eon, q_eof, q_sl, q_home, q_kind, q_slot, q_par, q_np, q_ns, q_ne, h0]
theorem w_t11 {E : g_E} {A : w_A} {S T : q_S} (h0 : S.1 3 = T.1 3) (i : Nat) : w_cell E A S 11 i = w_cell E A T 11 i := by
  simp only [w_cell, w_data, w_pars, q_on, q_eon, q_eof, q_sl, q_home, q_kind, q_slot, q_par, q_np, q_ns, q_ne, h0]
theorem w_t12 {E : g_E} {A : w_A} {S T : q_S} (h0 : S.1 0 2 = T.1 0 2) (h1 : S.1 5 = T.1 5) (i : Nat) : w_cell E A S 12 i = w_cell E A T 12 i := by
  simp only [w_cell, w_data, w_pars, q_on, q_eon, q_eof, q_sl, q_home, q_kind, q_slot, q_par, q_np, q_ns, q_ne, h0, h1]
theorem w_t13 {E : g_E} {A : w_A} {S T : q_S} (h0 : S.1 0 2 = T.1 0 2) (h1 : S.1 5 = T.1 5) (i : Nat) : w_cell E A S 13 i = w_cell E A T 13 i := by
  simp only [w_cell, w_data, w_pars, q_on, q_eon, q_eof, q_sl, q_home, q_kind, q_slot, q_par, q_np, q_ns, q_ne, h0, h1]
theorem w_t14 {E : g_E} {A : w_A} {S T : q_S} (h0 : S.2 5 = T.2 5) (h1 : S.2 12 = T.2 12) (i : Nat) : w_cell E A S 14 i = w_cell E A T 14 i := by
  simp only [w_cell, w_data, w_pars, q_on, q_eon, q_eof, q_sl, q_home, q_kind, q_slot, q_par, q_np, q_ns, q_ne, h0, h1]
theorem w_t16 {E : g_E} {A : w_A} {S T : q_S} (h0 : S.1 0 0 = T.1 0 0) (i : Nat) : w_cell E A S 16 i = w_cell E A T 16 i := by
  simp only [w_cell, w_data, w_pars, q_on, q_eon, q_eof, q_sl, q_home, q_kind, q_slot, q_par, q_np, q_ns, q_ne, h0]
theorem w_t17 {E : g_E} {A : w_A} {S T : q_S} (h0 : S.1 0 0 = T.1 0 0) (i : Nat) : w_cell E A S 17 i = w_cell E A T 17 i := by
  simp only [w_cell, w_data, w_pars, q_on, q_eon, q_eof, q_sl, q_home, q_kind, q_slot, q_par, q_np, q_ns, q_ne, h0]
theorem w_t18 {E : g_E} {A : w_A} {S T : q_S} (h0 : S.1 0 0 = T.1 0 0) (h1 : S.2 0 = T.2 0) (i : Nat) : w_cell E A S 18 i = w_cell E A T 18 i := by
  simp only [w_cell, w_data, w_pars, q_on, q_eon, q_eof, q_sl, q_home, q_kind, q_slot, q_par, q_np, q_ns, q_ne, h0, h1]
theorem w_t19 {E : g_E} {A : w_A} {S T : q_S} (h0 : S.1 0 0 = T.1 0 0) (h1 : S.2 0 = T.2 0) (i : Nat) : w_cell E A S 19 i = w_cell E A T 19 i := by
  simp only [w_cell, w_data, w_pars, q_on, q_eon, q_eof, q_sl, q_home, q_kind, q_slot, q_par, q_np, q_ns, q_ne, h0, h1]
theorem w_t20 {E : g_E} {A : w_A} {S T : q_S} (h0 : S.1 0 1 = T.1 0 1) (i : Nat) : w_cell E A S 20 i = w_cell E A T 20 i := by
  simp only [w_cell, w_data, w_pars, q_on, q_eon, q_eof, q_sl, q_home, q_kind, q_slot, q_par, q_np, q_ns, q_ne, h0]
theorem w_t21 {E : g_E} {A : w_A} {S T : q_S} (h0 : S.1 0 1 = T.1 0 1) (i : Nat) : w_cell E A S 21 i = w_cell E A T 21 i := by
  simp only [w_cell, w_data, w_pars, q_on, q_eon, q_eof, q_sl, q_home, q_kind, q_slot, q_par, q_np, q_ns, q_ne, h0]
theorem w_t22 {E : g_E} {A : w_A} {S T : q_S} (h0 : S.1 0 2 = T.1 0 2) (i : Nat) : w_cell E A S 22 i = w_cell E A T 22 i := by
  simp only [w_cell, w_data, w_pars, q_on, q_eon, q_eof, q_sl, q_home, q_kind, q_slot, q_par, q_np, q_ns, q_ne, h0]
theorem w_t23 {E : g_E} {A : w_A} {S T : q_S} (h0 : S.1 0 2 = T.1 0 2) (i : Nat) : w_cell E A S 23 i = w_cell E A T 23 i := by
  simp only [w_cell, w_data, w_pars, q_on, q_eon, q_eof, q_sl, q_home, q_kind, q_slot, q_par, q_np, q_ns, q_ne, h0]
theorem w_t24 {E : g_E} {A : w_A} {S T : q_S} (h0 : S.1 0 6 = T.1 0 6) (i : Nat) : w_cell E A S 24 i = w_cell E A T 24 i := by
  simp only [w_cell, w_data, w_pars, q_on, q_eon, q_eof, q_sl, q_home, q_kind, q_slot, q_par, q_np, q_ns, q_ne, h0]
theorem w_t25 {E : g_E} {A : w_A} {S T : q_S} (h0 : S.2 18 = T.2 18) (i : Nat) : w_cell E A S 25 i = w_cell E A T 25 i := by
  simp only [w_cell, w_data, w_pars, q_on, q_eon, q_eof, q_sl, q_home, q_kind, q_slot, q_par, q_np, q_ns, q_ne, h0]
theorem w_t26 {E : g_E} {A : w_A} {S T : q_S} (h0 : S.2 19 = T.2 19) (i : Nat) : w_cell E A S 26 i = w_cell E A T 26 i := by
  simp only [w_cell, w_data, w_pars, q_on, q_eon, q_eof, q_sl, q_home, q_kind, q_slot, q_par, q_np, q_ns, q_ne, h0]
theorem w_t27 {E : g_E} {A : w_A} {S T : q_S} (h0 : S.2 20 = T.2 20) (i : Nat) : w_cell E A S 27 i = w_cell E A T 27 i := by
  simp only [w_cell, w_data, w_pars, q_on, q_eon, q_eof, q_sl, q_home, q_kind, q_slot, q_par, q_np, q_ns, q_ne, h0]
theorem w_t28 {E : g_E} {A : w_A} {S T : q_S} (h0 : S.2 21 = T.2 21) (i : Nat) : w_cell E A S 28 i = w_cell E A T 28 i := by
  simp only [w_cell, w_data, w_pars, q_on, q_eon, q_eof, q_sl, q_home, q_kind, q_slot, q_par, q_np, q_ns, q_ne, h0]
theorem w_t29 {E : g_E} {A : w_A} {S T : q_S} (h0 : S.2 22 = T.2 22) (i : Nat) : w_cell E A S 29 i = w_cell E A T 29 i := by
  simp only [w_cell, w_data, w_pars, q_on, q_eon, q_eof, q_sl, q_home, q_kind, q_slot, q_par, q_np, q_ns, q_ne, h0]
theorem q_7ne {i j a b : Nat} (hn : ¬ i = j) (ha : a < 7) (hb : b < 7) : ¬ 7 * i + a = 7 * j + b := by omega
theorem w_uc2x {E : g_E} {A : w_A} {S : q_S} {j p : Nat} (hp : p < 7) {v : Int32} {i : Nat} (hn : ¬ i = j) : w_cell E A (q_up2 S 2 (7 * j + p) v) 8 i = w_cell E A S 8 i := by
  show g_bools E 7 _ = g_bools E 7 _
  congr 3
  funext pr
  by_cases h : pr < 7
  · rw [if_pos h, if_pos h]
    show upd (S.2 2) (7 * j + p) v (7 * i + pr) = _
    exact if_neg (q_7ne hn h hp)
  · rw [if_neg h, if_neg h]
theorem w_uc3x {E : g_E} {A : w_A} {S : q_S} {j p : Nat} (hp : p < 7) {v : Int32} {i : Nat} (hn : ¬ i = j) : w_cell E A (q_up2 S 3 (7 * j + p) v) 9 i = w_cell E A S 9 i := by
  show g_ints E 7 _ = g_ints E 7 _
  congr 3
  funext pr
  by_cases h : pr < 7
  · rw [if_pos h, if_pos h]
    show upd (S.2 3) (7 * j + p) v (7 * i + pr) = _
    exact if_neg (q_7ne hn h hp)
  · rw [if_neg h, if_neg h]
theorem w_uc11x {E : g_E} {A : w_A} {S : q_S} {j : Nat} {v : Int32} {i : Nat} (hn : ¬ i = j) : w_cell E A (q_up2 S 11 j v) 15 i = w_cell E A S 15 i := by
  have h : q_ea (q_up2 S 11 j v) S := ⟨rfl, rfl, rfl, rfl, rfl⟩
  show Sum.inr (4, [Value.ref (A 2 (q_epage (q_up2 S 11 j v) i)), .int (S.2 7 i), .int (nI (q_build (q_up2 S 11 j v) i)), .int (q_base (q_up2 S 11 j v) i), .int (q_start (q_up2 S 11 j v) i), .int (q_end (q_up2 S 11 j v) i), .int (S.2 10 i), .int (upd (S.2 11) j v i)]) = Sum.inr (4, [Value.ref (A 2 (q_epage S i)), .int (S.2 7 i), .int (nI (q_build S i)), .int (q_base S i), .int (q_start S i), .int (q_end S i), .int (S.2 10 i), .int (S.2 11 i)])
  rw [q_epage_ea h, q_build_ea h, q_base_ea h, q_start_ea h, q_end_ea h, show upd (S.2 11) j v i = S.2 11 i from if_neg hn]
theorem w_uc4 {E : g_E} {A : w_A} {S : q_S} {p : Nat} {v : Int32} : ∀ k i, k < 30 → w_live S k i → ¬ (k = 1 ∧ i = 0) → w_cell E A (q_up2 S 4 p v) k i = w_cell E A S k i := by
  intro k i h1 hl h3
  rcases w_tagsC h1 with rfl | rfl | rfl | rfl | rfl | rfl | rfl | rfl | rfl | rfl | rfl | rfl | rfl | rfl | rfl | rfl | rfl | rfl | rfl | rfl | rfl | rfl | rfl | rfl | rfl | rfl | rfl | rfl | rfl | rfl
  · exact w_t0 (S := q_up2 S 4 p v) (T := S) (q_sl_c rfl rfl) rfl rfl rfl i
  · exact absurd ⟨rfl, hl.1⟩ h3
  · exact w_t2 (S := q_up2 S 4 p v) (T := S) rfl rfl i
  · exact w_t3 (S := q_up2 S 4 p v) (T := S) rfl rfl i
  · exact w_t4 (S := q_up2 S 4 p v) (T := S) rfl rfl i
  · exact w_t5 (S := q_up2 S 4 p v) (T := S) rfl rfl rfl i
  · exact w_t6 (S := q_up2 S 4 p v) (T := S) rfl rfl rfl i
  · exact w_t7 (S := q_up2 S 4 p v) (T := S) rfl rfl i
  · exact w_t8 (S := q_up2 S 4 p v) (T := S) rfl i
  · exact w_t9 (S := q_up2 S 4 p v) (T := S) rfl i
  · exact w_t10 (S := q_up2 S 4 p v) (T := S) rfl i
  · exact w_t11 (S := q_up2 S 4 p v) (T := S) rfl i
  · exact w_t12 (S := q_up2 S 4 p v) (T := S) rfl rfl i
  · exact w_t13 (S := q_up2 S 4 p v) (T := S) rfl rfl i
  · exact w_t14 (S := q_up2 S 4 p v) (T := S) rfl rfl i
  · exact w_t15 (S := q_up2 S 4 p v) (T := S) ⟨rfl, rfl, rfl, rfl, rfl⟩ rfl rfl i
  · exact w_t16 (S := q_up2 S 4 p v) (T := S) rfl i
  · exact w_t17 (S := q_up2 S 4 p v) (T := S) rfl i
  · exact w_t18 (S := q_up2 S 4 p v) (T := S) rfl rfl i
  · exact w_t19 (S := q_up2 S 4 p v) (T := S) rfl rfl i
  · exact w_t20 (S := q_up2 S 4 p v) (T := S) rfl i
  · exact w_t21 (S := q_up2 S 4 p v) (T := S) rfl i
  · exact w_t22 (S := q_up2 S 4 p v) (T := S) rfl i
  · exact w_t23 (S := q_up2 S 4 p v) (T := S) rfl i
  · exact w_t24 (S := q_up2 S 4 p v) (T := S) rfl i
  · exact w_t25 (S := q_up2 S 4 p v) (T := S) rfl i
  · exact w_t26 (S := q_up2 S 4 p v) (T := S) rfl i
  · exact w_t27 (S := q_up2 S 4 p v) (T := S) rfl i
  · exact w_t28 (S := q_up2 S 4 p v) (T := S) rfl i
  · exact w_t29 (S := q_up2 S 4 p v) (T := S) rfl i
theorem w_uc2 {E : g_E} {A : w_A} {S : q_S} {j p : Nat} (hp : p < 7) {v : Int32} : ∀ k i, k < 30 → w_live S k i → ¬ (k = 8 ∧ i = j) → w_cell E A (q_up2 S 2 (7 * j + p) v) k i = w_cell E A S k i := by
  intro k i h1 hl h3
  rcases w_tagsC h1 with rfl | rfl | rfl | rfl | rfl | rfl | rfl | rfl | rfl | rfl | rfl | rfl | rfl | rfl | rfl | rfl | rfl | rfl | rfl | rfl | rfl | rfl | rfl | rfl | rfl | rfl | rfl | rfl | rfl | rfl
  · exact w_t0 (S := q_up2 S 2 (7 * j + p) v) (T := S) (q_sl_c rfl rfl) rfl rfl rfl i
  · exact w_t1 (S := q_up2 S 2 (7 * j + p) v) (T := S) rfl i
  · exact w_t2 (S := q_up2 S 2 (7 * j + p) v) (T := S) rfl rfl i
  · exact w_t3 (S := q_up2 S 2 (7 * j + p) v) (T := S) rfl rfl i
  · exact w_t4 (S := q_up2 S 2 (7 * j + p) v) (T := S) rfl rfl i
  · exact w_t5 (S := q_up2 S 2 (7 * j + p) v) (T := S) rfl rfl rfl i
  · exact w_t6 (S := q_up2 S 2 (7 * j + p) v) (T := S) rfl rfl rfl i
  · exact w_t7 (S := q_up2 S 2 (7 * j + p) v) (T := S) rfl rfl i
  · exact w_uc2x hp (fun q => h3 ⟨rfl, q⟩)
  · exact w_t9 (S := q_up2 S 2 (7 * j + p) v) (T := S) rfl i
  · exact w_t10 (S := q_up2 S 2 (7 * j + p) v) (T := S) rfl i
  · exact w_t11 (S := q_up2 S 2 (7 * j + p) v) (T := S) rfl i
  · exact w_t12 (S := q_up2 S 2 (7 * j + p) v) (T := S) rfl rfl i
  · exact w_t13 (S := q_up2 S 2 (7 * j + p) v) (T := S) rfl rfl i
  · exact w_t14 (S := q_up2 S 2 (7 * j + p) v) (T := S) rfl rfl i
  · exact w_t15 (S := q_up2 S 2 (7 * j + p) v) (T := S) ⟨rfl, rfl, rfl, rfl, rfl⟩ rfl rfl i
  · exact w_t16 (S := q_up2 S 2 (7 * j + p) v) (T := S) rfl i
  · exact w_t17 (S := q_up2 S 2 (7 * j + p) v) (T := S) rfl i
  · exact w_t18 (S := q_up2 S 2 (7 * j + p) v) (T := S) rfl rfl i
  · exact w_t19 (S := q_up2 S 2 (7 * j + p) v) (T := S) rfl rfl i
  · exact w_t20 (S := q_up2 S 2 (7 * j + p) v) (T := S) rfl i
  · exact w_t21 (S := q_up2 S 2 (7 * j + p) v) (T := S) rfl i
  · exact w_t22 (S := q_up2 S 2 (7 * j + p) v) (T := S) rfl i
  · exact w_t23 (S := q_up2 S 2 (7 * j + p) v) (T := S) rfl i
  · exact w_t24 (S := q_up2 S 2 (7 * j + p) v) (T := S) rfl i
  · exact w_t25 (S := q_up2 S 2 (7 * j + p) v) (T := S) rfl i
  · exact w_t26 (S := q_up2 S 2 (7 * j + p) v) (T := S) rfl i
  · exact w_t27 (S := q_up2 S 2 (7 * j + p) v) (T := S) rfl i
  · exact w_t28 (S := q_up2 S 2 (7 * j + p) v) (T := S) rfl i
  · exact w_t29 (S := q_up2 S 2 (7 * j + p) v) (T := S) rfl i
theorem w_uc3 {E : g_E} {A : w_A} {S : q_S} {j p : Nat} (hp : p < 7) {v : Int32} : ∀ k i, k < 30 → w_live S k i → ¬ (k = 9 ∧ i = j) → w_cell E A (q_up2 S 3 (7 * j + p) v) k i = w_cell E A S k i := by
  intro k i h1 hl h3
  rcases w_tagsC h1 with rfl | rfl | rfl | rfl | rfl | rfl | rfl | rfl | rfl | rfl | rfl | rfl | rfl | rfl | rfl | rfl | rfl | rfl | rfl | rfl | rfl | rfl | rfl | rfl | rfl | rfl | rfl | rfl | rfl | rfl
  · exact w_t0 (S := q_up2 S 3 (7 * j + p) v) (T := S) (q_sl_c rfl rfl) rfl rfl rfl i
  · exact w_t1 (S := q_up2 S 3 (7 * j + p) v) (T := S) rfl i
  · exact w_t2 (S := q_up2 S 3 (7 * j + p) v) (T := S) rfl rfl i
  · exact w_t3 (S := q_up2 S 3 (7 * j + p) v) (T := S) rfl rfl i
  · exact w_t4 (S := q_up2 S 3 (7 * j + p) v) (T := S) rfl rfl i
  · exact w_t5 (S := q_up2 S 3 (7 * j + p) v) (T := S) rfl rfl rfl i
  · exact w_t6 (S := q_up2 S 3 (7 * j + p) v) (T := S) rfl rfl rfl i
  · exact w_t7 (S := q_up2 S 3 (7 * j + p) v) (T := S) rfl rfl i
  · exact w_t8 (S := q_up2 S 3 (7 * j + p) v) (T := S) rfl i
  · exact w_uc3x hp (fun q => h3 ⟨rfl, q⟩)
  · exact w_t10 (S := q_up2 S 3 (7 * j + p) v) (T := S) rfl i
  · exact w_t11 (S := q_up2 S 3 (7 * j + p) v) (T := S) rfl i
  · exact w_t12 (S := q_up2 S 3 (7 * j + p) v) (T := S) rfl rfl i
  · exact w_t13 (S := q_up2 S 3 (7 * j + p) v) (T := S) rfl rfl i
  · exact w_t14 (S := q_up2 S 3 (7 * j + p) v) (T := S) rfl rfl i
  · exact w_t15 (S := q_up2 S 3 (7 * j + p) v) (T := S) ⟨rfl, rfl, rfl, rfl, rfl⟩ rfl rfl i
  · exact w_t16 (S := q_up2 S 3 (7 * j + p) v) (T := S) rfl i
  · exact w_t17 (S := q_up2 S 3 (7 * j + p) v) (T := S) rfl i
  · exact w_t18 (S := q_up2 S 3 (7 * j + p) v) (T := S) rfl rfl i
  · exact w_t19 (S := q_up2 S 3 (7 * j + p) v) (T := S) rfl rfl i
  · exact w_t20 (S := q_up2 S 3 (7 * j + p) v) (T := S) rfl i
  · exact w_t21 (S := q_up2 S 3 (7 * j + p) v) (T := S) rfl i
  · exact w_t22 (S := q_up2 S 3 (7 * j + p) v) (T := S) rfl i
  · exact w_t23 (S := q_up2 S 3 (7 * j + p) v) (T := S) rfl i
  · exact w_t24 (S := q_up2 S 3 (7 * j + p) v) (T := S) rfl i
  · exact w_t25 (S := q_up2 S 3 (7 * j + p) v) (T := S) rfl i
  · exact w_t26 (S := q_up2 S 3 (7 * j + p) v) (T := S) rfl i
  · exact w_t27 (S := q_up2 S 3 (7 * j + p) v) (T := S) rfl i
  · exact w_t28 (S := q_up2 S 3 (7 * j + p) v) (T := S) rfl i
  · exact w_t29 (S := q_up2 S 3 (7 * j + p) v) (T := S) rfl i
theorem w_uc11 {E : g_E} {A : w_A} {S : q_S} {j : Nat} {v : Int32} : ∀ k i, k < 30 → w_live S k i → ¬ (k = 15 ∧ i = j) → w_cell E A (q_up2 S 11 j v) k i = w_cell E A S k i := by
  intro k i h1 hl h3
  rcases w_tagsC h1 with rfl | rfl | rfl | rfl | rfl | rfl | rfl | rfl | rfl | rfl | rfl | rfl | rfl | rfl | rfl | rfl | rfl | rfl | rfl | rfl | rfl | rfl | rfl | rfl | rfl | rfl | rfl | rfl | rfl | rfl
  · exact w_t0 (S := q_up2 S 11 j v) (T := S) (q_sl_c rfl rfl) rfl rfl rfl i
  · exact w_t1 (S := q_up2 S 11 j v) (T := S) rfl i
  · exact w_t2 (S := q_up2 S 11 j v) (T := S) rfl rfl i
  · exact w_t3 (S := q_up2 S 11 j v) (T := S) rfl rfl i
  · exact w_t4 (S := q_up2 S 11 j v) (T := S) rfl rfl i
  · exact w_t5 (S := q_up2 S 11 j v) (T := S) rfl rfl rfl i
  · exact w_t6 (S := q_up2 S 11 j v) (T := S) rfl rfl rfl i
  · exact w_t7 (S := q_up2 S 11 j v) (T := S) rfl rfl i
  · exact w_t8 (S := q_up2 S 11 j v) (T := S) rfl i
  · exact w_t9 (S := q_up2 S 11 j v) (T := S) rfl i
  · exact w_t10 (S := q_up2 S 11 j v) (T := S) rfl i
  · exact w_t11 (S := q_up2 S 11 j v) (T := S) rfl i
  · exact w_t12 (S := q_up2 S 11 j v) (T := S) rfl rfl i
  · exact w_t13 (S := q_up2 S 11 j v) (T := S) rfl rfl i
  · exact w_t14 (S := q_up2 S 11 j v) (T := S) rfl rfl i
  · exact w_uc11x (fun q => h3 ⟨rfl, q⟩)
  · exact w_t16 (S := q_up2 S 11 j v) (T := S) rfl i
  · exact w_t17 (S := q_up2 S 11 j v) (T := S) rfl i
  · exact w_t18 (S := q_up2 S 11 j v) (T := S) rfl rfl i
  · exact w_t19 (S := q_up2 S 11 j v) (T := S) rfl rfl i
  · exact w_t20 (S := q_up2 S 11 j v) (T := S) rfl i
  · exact w_t21 (S := q_up2 S 11 j v) (T := S) rfl i
  · exact w_t22 (S := q_up2 S 11 j v) (T := S) rfl i
  · exact w_t23 (S := q_up2 S 11 j v) (T := S) rfl i
  · exact w_t24 (S := q_up2 S 11 j v) (T := S) rfl i
  · exact w_t25 (S := q_up2 S 11 j v) (T := S) rfl i
  · exact w_t26 (S := q_up2 S 11 j v) (T := S) rfl i
  · exact w_t27 (S := q_up2 S 11 j v) (T := S) rfl i
  · exact w_t28 (S := q_up2 S 11 j v) (T := S) rfl i
  · exact w_t29 (S := q_up2 S 11 j v) (T := S) rfl i
theorem w_uc13 {E : g_E} {A : w_A} {S : q_S} {t : Int32} : ∀ k i, k < 30 → w_live S k i → ¬ (k = 0 ∧ i = 0) → w_cell E A (q_up2 S 13 0 t) k i = w_cell E A S k i := by
  intro k i h1 hl h3
  rcases w_tagsC h1 with rfl | rfl | rfl | rfl | rfl | rfl | rfl | rfl | rfl | rfl | rfl | rfl | rfl | rfl | rfl | rfl | rfl | rfl | rfl | rfl | rfl | rfl | rfl | rfl | rfl | rfl | rfl | rfl | rfl | rfl
  · exact absurd ⟨rfl, hl.1⟩ h3
  · exact w_t1 (S := q_up2 S 13 0 t) (T := S) rfl i
  · exact w_t2 (S := q_up2 S 13 0 t) (T := S) rfl rfl i
  · exact w_t3 (S := q_up2 S 13 0 t) (T := S) rfl rfl i
  · exact w_t4 (S := q_up2 S 13 0 t) (T := S) rfl rfl i
  · exact w_t5 (S := q_up2 S 13 0 t) (T := S) rfl rfl rfl i
  · exact w_t6 (S := q_up2 S 13 0 t) (T := S) rfl rfl rfl i
  · exact w_t7 (S := q_up2 S 13 0 t) (T := S) rfl rfl i
  · exact w_t8 (S := q_up2 S 13 0 t) (T := S) rfl i
  · exact w_t9 (S := q_up2 S 13 0 t) (T := S) rfl i
  · exact w_t10 (S := q_up2 S 13 0 t) (T := S) rfl i
  · exact w_t11 (S := q_up2 S 13 0 t) (T := S) rfl i
  · exact w_t12 (S := q_up2 S 13 0 t) (T := S) rfl rfl i
  · exact w_t13 (S := q_up2 S 13 0 t) (T := S) rfl rfl i
  · exact w_t14 (S := q_up2 S 13 0 t) (T := S) rfl rfl i
  · exact w_t15 (S := q_up2 S 13 0 t) (T := S) ⟨rfl, rfl, rfl, rfl, rfl⟩ rfl rfl i
  · exact w_t16 (S := q_up2 S 13 0 t) (T := S) rfl i
  · exact w_t17 (S := q_up2 S 13 0 t) (T := S) rfl i
  · exact w_t18 (S := q_up2 S 13 0 t) (T := S) rfl rfl i
  · exact w_t19 (S := q_up2 S 13 0 t) (T := S) rfl rfl i
  · exact w_t20 (S := q_up2 S 13 0 t) (T := S) rfl i
  · exact w_t21 (S := q_up2 S 13 0 t) (T := S) rfl i
  · exact w_t22 (S := q_up2 S 13 0 t) (T := S) rfl i
  · exact w_t23 (S := q_up2 S 13 0 t) (T := S) rfl i
  · exact w_t24 (S := q_up2 S 13 0 t) (T := S) rfl i
  · exact w_t25 (S := q_up2 S 13 0 t) (T := S) rfl i
  · exact w_t26 (S := q_up2 S 13 0 t) (T := S) rfl i
  · exact w_t27 (S := q_up2 S 13 0 t) (T := S) rfl i
  · exact w_t28 (S := q_up2 S 13 0 t) (T := S) rfl i
  · exact w_t29 (S := q_up2 S 13 0 t) (T := S) rfl i
theorem w_uc_sh {E : g_E} {A : w_A} {S : q_S} {a c : Nat} {t : Int32} : ∀ k i, k < 30 → w_live S k i → ¬ (k = 0 ∧ i = 0) → w_cell E A (q_up2 (q_up1 (q_up1 S 0 3 a) 0 4 c) 13 0 t) k i = w_cell E A S k i := by
  intro k i h1 hl h3
  rcases w_tagsC h1 with rfl | rfl | rfl | rfl | rfl | rfl | rfl | rfl | rfl | rfl | rfl | rfl | rfl | rfl | rfl | rfl | rfl | rfl | rfl | rfl | rfl | rfl | rfl | rfl | rfl | rfl | rfl | rfl | rfl | rfl
  · exact absurd ⟨rfl, hl.1⟩ h3
  · exact w_t1 (S := q_up2 (q_up1 (q_up1 S 0 3 a) 0 4 c) 13 0 t) (T := S) rfl i
  · exact w_t2 (S := q_up2 (q_up1 (q_up1 S 0 3 a) 0 4 c) 13 0 t) (T := S) rfl rfl i
  · exact w_t3 (S := q_up2 (q_up1 (q_up1 S 0 3 a) 0 4 c) 13 0 t) (T := S) rfl rfl i
  · exact w_t4 (S := q_up2 (q_up1 (q_up1 S 0 3 a) 0 4 c) 13 0 t) (T := S) rfl rfl i
  · exact w_t5 (S := q_up2 (q_up1 (q_up1 S 0 3 a) 0 4 c) 13 0 t) (T := S) rfl rfl rfl i
  · exact w_t6 (S := q_up2 (q_up1 (q_up1 S 0 3 a) 0 4 c) 13 0 t) (T := S) rfl rfl rfl i
  · exact w_t7 (S := q_up2 (q_up1 (q_up1 S 0 3 a) 0 4 c) 13 0 t) (T := S) rfl rfl i
  · exact w_t8 (S := q_up2 (q_up1 (q_up1 S 0 3 a) 0 4 c) 13 0 t) (T := S) rfl i
  · exact w_t9 (S := q_up2 (q_up1 (q_up1 S 0 3 a) 0 4 c) 13 0 t) (T := S) rfl i
  · exact w_t10 (S := q_up2 (q_up1 (q_up1 S 0 3 a) 0 4 c) 13 0 t) (T := S) rfl i
  · exact w_t11 (S := q_up2 (q_up1 (q_up1 S 0 3 a) 0 4 c) 13 0 t) (T := S) rfl i
  · exact w_t12 (S := q_up2 (q_up1 (q_up1 S 0 3 a) 0 4 c) 13 0 t) (T := S) rfl rfl i
  · exact w_t13 (S := q_up2 (q_up1 (q_up1 S 0 3 a) 0 4 c) 13 0 t) (T := S) rfl rfl i
  · exact w_t14 (S := q_up2 (q_up1 (q_up1 S 0 3 a) 0 4 c) 13 0 t) (T := S) rfl rfl i
  · exact w_t15 (S := q_up2 (q_up1 (q_up1 S 0 3 a) 0 4 c) 13 0 t) (T := S) ⟨rfl, rfl, rfl, rfl, rfl⟩ rfl rfl i
  · exact w_t16 (S := q_up2 (q_up1 (q_up1 S 0 3 a) 0 4 c) 13 0 t) (T := S) rfl i
  · exact w_t17 (S := q_up2 (q_up1 (q_up1 S 0 3 a) 0 4 c) 13 0 t) (T := S) rfl i
  · exact w_t18 (S := q_up2 (q_up1 (q_up1 S 0 3 a) 0 4 c) 13 0 t) (T := S) rfl rfl i
  · exact w_t19 (S := q_up2 (q_up1 (q_up1 S 0 3 a) 0 4 c) 13 0 t) (T := S) rfl rfl i
  · exact w_t20 (S := q_up2 (q_up1 (q_up1 S 0 3 a) 0 4 c) 13 0 t) (T := S) rfl i
  · exact w_t21 (S := q_up2 (q_up1 (q_up1 S 0 3 a) 0 4 c) 13 0 t) (T := S) rfl i
  · exact w_t22 (S := q_up2 (q_up1 (q_up1 S 0 3 a) 0 4 c) 13 0 t) (T := S) rfl i
  · exact w_t23 (S := q_up2 (q_up1 (q_up1 S 0 3 a) 0 4 c) 13 0 t) (T := S) rfl i
  · exact w_t24 (S := q_up2 (q_up1 (q_up1 S 0 3 a) 0 4 c) 13 0 t) (T := S) rfl i
  · exact w_t25 (S := q_up2 (q_up1 (q_up1 S 0 3 a) 0 4 c) 13 0 t) (T := S) rfl i
  · exact w_t26 (S := q_up2 (q_up1 (q_up1 S 0 3 a) 0 4 c) 13 0 t) (T := S) rfl i
  · exact w_t27 (S := q_up2 (q_up1 (q_up1 S 0 3 a) 0 4 c) 13 0 t) (T := S) rfl i
  · exact w_t28 (S := q_up2 (q_up1 (q_up1 S 0 3 a) 0 4 c) 13 0 t) (T := S) rfl i
  · exact w_t29 (S := q_up2 (q_up1 (q_up1 S 0 3 a) 0 4 c) 13 0 t) (T := S) rfl i
theorem w_uc18 {E : g_E} {A : w_A} {S : q_S} {x : Nat} {v : Int32} : ∀ k i, k < 30 → w_live S k i → ¬ (k = 25 ∧ i = 0) → w_cell E A (q_up2 S 18 x v) k i = w_cell E A S k i := by
  intro k i h1 hl h3
  rcases w_tagsC h1 with rfl | rfl | rfl | rfl | rfl | rfl | rfl | rfl | rfl | rfl | rfl | rfl | rfl | rfl | rfl | rfl | rfl | rfl | rfl | rfl | rfl | rfl | rfl | rfl | rfl | rfl | rfl | rfl | rfl | rfl
  · exact w_t0 (S := q_up2 S 18 x v) (T := S) (q_sl_c rfl rfl) rfl rfl rfl i
  · exact w_t1 (S := q_up2 S 18 x v) (T := S) rfl i
  · exact w_t2 (S := q_up2 S 18 x v) (T := S) rfl rfl i
  · exact w_t3 (S := q_up2 S 18 x v) (T := S) rfl rfl i
  · exact w_t4 (S := q_up2 S 18 x v) (T := S) rfl rfl i
  · exact w_t5 (S := q_up2 S 18 x v) (T := S) rfl rfl rfl i
  · exact w_t6 (S := q_up2 S 18 x v) (T := S) rfl rfl rfl i
  · exact w_t7 (S := q_up2 S 18 x v) (T := S) rfl rfl i
  · exact w_t8 (S := q_up2 S 18 x v) (T := S) rfl i
  · exact w_t9 (S := q_up2 S 18 x v) (T := S) rfl i
  · exact w_t10 (S := q_up2 S 18 x v) (T := S) rfl i
  · exact w_t11 (S := q_up2 S 18 x v) (T := S) rfl i
  · exact w_t12 (S := q_up2 S 18 x v) (T := S) rfl rfl i
  · exact w_t13 (S := q_up2 S 18 x v) (T := S) rfl rfl i
  · exact w_t14 (S := q_up2 S 18 x v) (T := S) rfl rfl i
  · exact w_t15 (S := q_up2 S 18 x v) (T := S) ⟨rfl, rfl, rfl, rfl, rfl⟩ rfl rfl i
  · exact w_t16 (S := q_up2 S 18 x v) (T := S) rfl i
  · exact w_t17 (S := q_up2 S 18 x v) (T := S) rfl i
  · exact w_t18 (S := q_up2 S 18 x v) (T := S) rfl rfl i
  · exact w_t19 (S := q_up2 S 18 x v) (T := S) rfl rfl i
  · exact w_t20 (S := q_up2 S 18 x v) (T := S) rfl i
  · exact w_t21 (S := q_up2 S 18 x v) (T := S) rfl i
  · exact w_t22 (S := q_up2 S 18 x v) (T := S) rfl i
  · exact w_t23 (S := q_up2 S 18 x v) (T := S) rfl i
  · exact w_t24 (S := q_up2 S 18 x v) (T := S) rfl i
  · exact absurd ⟨rfl, hl.1⟩ h3
  · exact w_t26 (S := q_up2 S 18 x v) (T := S) rfl i
  · exact w_t27 (S := q_up2 S 18 x v) (T := S) rfl i
  · exact w_t28 (S := q_up2 S 18 x v) (T := S) rfl i
  · exact w_t29 (S := q_up2 S 18 x v) (T := S) rfl i
theorem w_uc19 {E : g_E} {A : w_A} {S : q_S} {x : Nat} {v : Int32} : ∀ k i, k < 30 → w_live S k i → ¬ (k = 26 ∧ i = 0) → w_cell E A (q_up2 S 19 x v) k i = w_cell E A S k i := by
  intro k i h1 hl h3
  rcases w_tagsC h1 with rfl | rfl | rfl | rfl | rfl | rfl | rfl | rfl | rfl | rfl | rfl | rfl | rfl | rfl | rfl | rfl | rfl | rfl | rfl | rfl | rfl | rfl | rfl | rfl | rfl | rfl | rfl | rfl | rfl | rfl
  · exact w_t0 (S := q_up2 S 19 x v) (T := S) (q_sl_c rfl rfl) rfl rfl rfl i
  · exact w_t1 (S := q_up2 S 19 x v) (T := S) rfl i
  · exact w_t2 (S := q_up2 S 19 x v) (T := S) rfl rfl i
  · exact w_t3 (S := q_up2 S 19 x v) (T := S) rfl rfl i
  · exact w_t4 (S := q_up2 S 19 x v) (T := S) rfl rfl i
  · exact w_t5 (S := q_up2 S 19 x v) (T := S) rfl rfl rfl i
  · exact w_t6 (S := q_up2 S 19 x v) (T := S) rfl rfl rfl i
  · exact w_t7 (S := q_up2 S 19 x v) (T := S) rfl rfl i
  · exact w_t8 (S := q_up2 S 19 x v) (T := S) rfl i
  · exact w_t9 (S := q_up2 S 19 x v) (T := S) rfl i
  · exact w_t10 (S := q_up2 S 19 x v) (T := S) rfl i
  · exact w_t11 (S := q_up2 S 19 x v) (T := S) rfl i
  · exact w_t12 (S := q_up2 S 19 x v) (T := S) rfl rfl i
  · exact w_t13 (S := q_up2 S 19 x v) (T := S) rfl rfl i
  · exact w_t14 (S := q_up2 S 19 x v) (T := S) rfl rfl i
  · exact w_t15 (S := q_up2 S 19 x v) (T := S) ⟨rfl, rfl, rfl, rfl, rfl⟩ rfl rfl i
  · exact w_t16 (S := q_up2 S 19 x v) (T := S) rfl i
  · exact w_t17 (S := q_up2 S 19 x v) (T := S) rfl i
  · exact w_t18 (S := q_up2 S 19 x v) (T := S) rfl rfl i
  · exact w_t19 (S := q_up2 S 19 x v) (T := S) rfl rfl i
  · exact w_t20 (S := q_up2 S 19 x v) (T := S) rfl i
  · exact w_t21 (S := q_up2 S 19 x v) (T := S) rfl i
  · exact w_t22 (S := q_up2 S 19 x v) (T := S) rfl i
  · exact w_t23 (S := q_up2 S 19 x v) (T := S) rfl i
  · exact w_t24 (S := q_up2 S 19 x v) (T := S) rfl i
  · exact w_t25 (S := q_up2 S 19 x v) (T := S) rfl i
  · exact absurd ⟨rfl, hl.1⟩ h3
  · exact w_t27 (S := q_up2 S 19 x v) (T := S) rfl i
  · exact w_t28 (S := q_up2 S 19 x v) (T := S) rfl i
  · exact w_t29 (S := q_up2 S 19 x v) (T := S) rfl i
theorem w_uc20 {E : g_E} {A : w_A} {S : q_S} {x : Nat} {v : Int32} : ∀ k i, k < 30 → w_live S k i → ¬ (k = 27 ∧ i = 0) → w_cell E A (q_up2 S 20 x v) k i = w_cell E A S k i := by
  intro k i h1 hl h3
  rcases w_tagsC h1 with rfl | rfl | rfl | rfl | rfl | rfl | rfl | rfl | rfl | rfl | rfl | rfl | rfl | rfl | rfl | rfl | rfl | rfl | rfl | rfl | rfl | rfl | rfl | rfl | rfl | rfl | rfl | rfl | rfl | rfl
  · exact w_t0 (S := q_up2 S 20 x v) (T := S) (q_sl_c rfl rfl) rfl rfl rfl i
  · exact w_t1 (S := q_up2 S 20 x v) (T := S) rfl i
  · exact w_t2 (S := q_up2 S 20 x v) (T := S) rfl rfl i
  · exact w_t3 (S := q_up2 S 20 x v) (T := S) rfl rfl i
  · exact w_t4 (S := q_up2 S 20 x v) (T := S) rfl rfl i
  · exact w_t5 (S := q_up2 S 20 x v) (T := S) rfl rfl rfl i
  · exact w_t6 (S := q_up2 S 20 x v) (T := S) rfl rfl rfl i
  · exact w_t7 (S := q_up2 S 20 x v) (T := S) rfl rfl i
  · exact w_t8 (S := q_up2 S 20 x v) (T := S) rfl i
  · exact w_t9 (S := q_up2 S 20 x v) (T := S) rfl i
  · exact w_t10 (S := q_up2 S 20 x v) (T := S) rfl i
  · exact w_t11 (S := q_up2 S 20 x v) (T := S) rfl i
  · exact w_t12 (S := q_up2 S 20 x v) (T := S) rfl rfl i
  · exact w_t13 (S := q_up2 S 20 x v) (T := S) rfl rfl i
  · exact w_t14 (S := q_up2 S 20 x v) (T := S) rfl rfl i
  · exact w_t15 (S := q_up2 S 20 x v) (T := S) ⟨rfl, rfl, rfl, rfl, rfl⟩ rfl rfl i
  · exact w_t16 (S := q_up2 S 20 x v) (T := S) rfl i
  · exact w_t17 (S := q_up2 S 20 x v) (T := S) rfl i
  · exact w_t18 (S := q_up2 S 20 x v) (T := S) rfl rfl i
  · exact w_t19 (S := q_up2 S 20 x v) (T := S) rfl rfl i
  · exact w_t20 (S := q_up2 S 20 x v) (T := S) rfl i
  · exact w_t21 (S := q_up2 S 20 x v) (T := S) rfl i
  · exact w_t22 (S := q_up2 S 20 x v) (T := S) rfl i
  · exact w_t23 (S := q_up2 S 20 x v) (T := S) rfl i
  · exact w_t24 (S := q_up2 S 20 x v) (T := S) rfl i
  · exact w_t25 (S := q_up2 S 20 x v) (T := S) rfl i
  · exact w_t26 (S := q_up2 S 20 x v) (T := S) rfl i
  · exact absurd ⟨rfl, hl.1⟩ h3
  · exact w_t28 (S := q_up2 S 20 x v) (T := S) rfl i
  · exact w_t29 (S := q_up2 S 20 x v) (T := S) rfl i
theorem w_uc21 {E : g_E} {A : w_A} {S : q_S} {x : Nat} {v : Int32} : ∀ k i, k < 30 → w_live S k i → ¬ (k = 28 ∧ i = 0) → w_cell E A (q_up2 S 21 x v) k i = w_cell E A S k i := by
  intro k i h1 hl h3
  rcases w_tagsC h1 with rfl | rfl | rfl | rfl | rfl | rfl | rfl | rfl | rfl | rfl | rfl | rfl | rfl | rfl | rfl | rfl | rfl | rfl | rfl | rfl | rfl | rfl | rfl | rfl | rfl | rfl | rfl | rfl | rfl | rfl
  · exact w_t0 (S := q_up2 S 21 x v) (T := S) (q_sl_c rfl rfl) rfl rfl rfl i
  · exact w_t1 (S := q_up2 S 21 x v) (T := S) rfl i
  · exact w_t2 (S := q_up2 S 21 x v) (T := S) rfl rfl i
  · exact w_t3 (S := q_up2 S 21 x v) (T := S) rfl rfl i
  · exact w_t4 (S := q_up2 S 21 x v) (T := S) rfl rfl i
  · exact w_t5 (S := q_up2 S 21 x v) (T := S) rfl rfl rfl i
  · exact w_t6 (S := q_up2 S 21 x v) (T := S) rfl rfl rfl i
  · exact w_t7 (S := q_up2 S 21 x v) (T := S) rfl rfl i
  · exact w_t8 (S := q_up2 S 21 x v) (T := S) rfl i
  · exact w_t9 (S := q_up2 S 21 x v) (T := S) rfl i
  · exact w_t10 (S := q_up2 S 21 x v) (T := S) rfl i
  · exact w_t11 (S := q_up2 S 21 x v) (T := S) rfl i
  · exact w_t12 (S := q_up2 S 21 x v) (T := S) rfl rfl i
  · exact w_t13 (S := q_up2 S 21 x v) (T := S) rfl rfl i
  · exact w_t14 (S := q_up2 S 21 x v) (T := S) rfl rfl i
  · exact w_t15 (S := q_up2 S 21 x v) (T := S) ⟨rfl, rfl, rfl, rfl, rfl⟩ rfl rfl i
  · exact w_t16 (S := q_up2 S 21 x v) (T := S) rfl i
  · exact w_t17 (S := q_up2 S 21 x v) (T := S) rfl i
  · exact w_t18 (S := q_up2 S 21 x v) (T := S) rfl rfl i
  · exact w_t19 (S := q_up2 S 21 x v) (T := S) rfl rfl i
  · exact w_t20 (S := q_up2 S 21 x v) (T := S) rfl i
  · exact w_t21 (S := q_up2 S 21 x v) (T := S) rfl i
  · exact w_t22 (S := q_up2 S 21 x v) (T := S) rfl i
  · exact w_t23 (S := q_up2 S 21 x v) (T := S) rfl i
  · exact w_t24 (S := q_up2 S 21 x v) (T := S) rfl i
  · exact w_t25 (S := q_up2 S 21 x v) (T := S) rfl i
  · exact w_t26 (S := q_up2 S 21 x v) (T := S) rfl i
  · exact w_t27 (S := q_up2 S 21 x v) (T := S) rfl i
  · exact absurd ⟨rfl, hl.1⟩ h3
  · exact w_t29 (S := q_up2 S 21 x v) (T := S) rfl i
theorem w_uc06 {E : g_E} {A : w_A} {S : q_S} {c : Nat} : ∀ k i, k < 30 → w_live S k i → ¬ (k = 24 ∧ i = 0) → w_cell E A (q_up1 S 0 6 c) k i = w_cell E A S k i := by
  intro k i h1 hl h3
  rcases w_tagsC h1 with rfl | rfl | rfl | rfl | rfl | rfl | rfl | rfl | rfl | rfl | rfl | rfl | rfl | rfl | rfl | rfl | rfl | rfl | rfl | rfl | rfl | rfl | rfl | rfl | rfl | rfl | rfl | rfl | rfl | rfl
  · exact w_t0 (S := q_up1 S 0 6 c) (T := S) (q_sl_c rfl rfl) rfl rfl rfl i
  · exact w_t1 (S := q_up1 S 0 6 c) (T := S) rfl i
  · exact w_t2 (S := q_up1 S 0 6 c) (T := S) rfl rfl i
  · exact w_t3 (S := q_up1 S 0 6 c) (T := S) rfl rfl i
  · exact w_t4 (S := q_up1 S 0 6 c) (T := S) rfl rfl i
  · exact w_t5 (S := q_up1 S 0 6 c) (T := S) rfl rfl rfl i
  · exact w_t6 (S := q_up1 S 0 6 c) (T := S) rfl rfl rfl i
  · exact w_t7 (S := q_up1 S 0 6 c) (T := S) rfl rfl i
  · exact w_t8 (S := q_up1 S 0 6 c) (T := S) rfl i
  · exact w_t9 (S := q_up1 S 0 6 c) (T := S) rfl i
  · exact w_t10 (S := q_up1 S 0 6 c) (T := S) rfl i
  · exact w_t11 (S := q_up1 S 0 6 c) (T := S) rfl i
  · exact w_t12 (S := q_up1 S 0 6 c) (T := S) rfl rfl i
  · exact w_t13 (S := q_up1 S 0 6 c) (T := S) rfl rfl i
  · exact w_t14 (S := q_up1 S 0 6 c) (T := S) rfl rfl i
  · exact w_t15 (S := q_up1 S 0 6 c) (T := S) ⟨rfl, rfl, rfl, rfl, rfl⟩ rfl rfl i
  · exact w_t16 (S := q_up1 S 0 6 c) (T := S) rfl i
  · exact w_t17 (S := q_up1 S 0 6 c) (T := S) rfl i
  · exact w_t18 (S := q_up1 S 0 6 c) (T := S) rfl rfl i
  · exact w_t19 (S := q_up1 S 0 6 c) (T := S) rfl rfl i
  · exact w_t20 (S := q_up1 S 0 6 c) (T := S) rfl i
  · exact w_t21 (S := q_up1 S 0 6 c) (T := S) rfl i
  · exact w_t22 (S := q_up1 S 0 6 c) (T := S) rfl i
  · exact w_t23 (S := q_up1 S 0 6 c) (T := S) rfl i
  · exact absurd ⟨rfl, hl.1⟩ h3
  · exact w_t25 (S := q_up1 S 0 6 c) (T := S) rfl i
  · exact w_t26 (S := q_up1 S 0 6 c) (T := S) rfl i
  · exact w_t27 (S := q_up1 S 0 6 c) (T := S) rfl i
  · exact w_t28 (S := q_up1 S 0 6 c) (T := S) rfl i
  · exact w_t29 (S := q_up1 S 0 6 c) (T := S) rfl i
theorem w_uc22 {E : g_E} {A : w_A} {S : q_S} {v : Int32} : ∀ k i, k < 30 → w_live S k i → ¬ (k = 29 ∧ i = 0) → w_cell E A (q_up2 S 22 0 v) k i = w_cell E A S k i := by
  intro k i h1 hl h3
  rcases w_tagsC h1 with rfl | rfl | rfl | rfl | rfl | rfl | rfl | rfl | rfl | rfl | rfl | rfl | rfl | rfl | rfl | rfl | rfl | rfl | rfl | rfl | rfl | rfl | rfl | rfl | rfl | rfl | rfl | rfl | rfl | rfl
  · exact w_t0 (S := q_up2 S 22 0 v) (T := S) (q_sl_c rfl rfl) rfl rfl rfl i
  · exact w_t1 (S := q_up2 S 22 0 v) (T := S) rfl i
  · exact w_t2 (S := q_up2 S 22 0 v) (T := S) rfl rfl i
  · exact w_t3 (S := q_up2 S 22 0 v) (T := S) rfl rfl i
  · exact w_t4 (S := q_up2 S 22 0 v) (T := S) rfl rfl i
  · exact w_t5 (S := q_up2 S 22 0 v) (T := S) rfl rfl rfl i
  · exact w_t6 (S := q_up2 S 22 0 v) (T := S) rfl rfl rfl i
  · exact w_t7 (S := q_up2 S 22 0 v) (T := S) rfl rfl i
  · exact w_t8 (S := q_up2 S 22 0 v) (T := S) rfl i
  · exact w_t9 (S := q_up2 S 22 0 v) (T := S) rfl i
  · exact w_t10 (S := q_up2 S 22 0 v) (T := S) rfl i
  · exact w_t11 (S := q_up2 S 22 0 v) (T := S) rfl i
  · exact w_t12 (S := q_up2 S 22 0 v) (T := S) rfl rfl i
  · exact w_t13 (S := q_up2 S 22 0 v) (T := S) rfl rfl i
  · exact w_t14 (S := q_up2 S 22 0 v) (T := S) rfl rfl i
  · exact w_t15 (S := q_up2 S 22 0 v) (T := S) ⟨rfl, rfl, rfl, rfl, rfl⟩ rfl rfl i
  · exact w_t16 (S := q_up2 S 22 0 v) (T := S) rfl i
  · exact w_t17 (S := q_up2 S 22 0 v) (T := S) rfl i
  · exact w_t18 (S := q_up2 S 22 0 v) (T := S) rfl rfl i
  · exact w_t19 (S := q_up2 S 22 0 v) (T := S) rfl rfl i
  · exact w_t20 (S := q_up2 S 22 0 v) (T := S) rfl i
  · exact w_t21 (S := q_up2 S 22 0 v) (T := S) rfl i
  · exact w_t22 (S := q_up2 S 22 0 v) (T := S) rfl i
  · exact w_t23 (S := q_up2 S 22 0 v) (T := S) rfl i
  · exact w_t24 (S := q_up2 S 22 0 v) (T := S) rfl i
  · exact w_t25 (S := q_up2 S 22 0 v) (T := S) rfl i
  · exact w_t26 (S := q_up2 S 22 0 v) (T := S) rfl i
  · exact w_t27 (S := q_up2 S 22 0 v) (T := S) rfl i
  · exact w_t28 (S := q_up2 S 22 0 v) (T := S) rfl i
  · exact absurd ⟨rfl, hl.1⟩ h3
/-- one cell of the stage's is written -/
theorem w_putC {E : g_E} {A : w_A} {Sc Sm Tc : q_S} {h : g_H} {k0 i0 : Nat} (hW : w_W E A Sc Sm h) (hk0 : k0 < 30) (h0 : w_live Sc k0 i0) (hl : q_np Tc = q_np Sc ∧ q_ns Tc = q_ns Sc ∧ q_ne Tc = q_ne Sc ∧ Tc.1 3 = Sc.1 3 ∧ Tc.1 2 = Sc.1 2 ∧ Tc.1 5 = Sc.1 5 ∧ Tc.2 0 = Sc.2 0) (hc : ∀ k i, k < 30 → w_live Sc k i → ¬ (k = k0 ∧ i = i0) → w_cell E A Tc k i = w_cell E A Sc k i) {e : va_E} (he : e = w_cell E A Tc k0 i0) : w_W E A Tc Sm (g_set h (A k0 i0) e) := by
  refine hW.put (by unfold w_lv; rw [w_pkC hk0]; exact h0) (fun k i hk => ?_) (fun k i hk hn => ?_) (by rw [w_pkC hk0]; exact he)
  · by_cases hlt : k < 30
    · unfold w_lv at hk ⊢
      rw [w_pkC hlt] at hk ⊢
      exact w_liveK hlt hk hl
    · exact (w_lvM (by omega) (w_ltag hk) i).mpr ((w_lvM (by omega) (w_ltag hk) i).mp hk)
  · by_cases hlt : k < 30
    · have hk' : w_live Sc k i := by
        unfold w_lv at hk
        rw [w_pkC hlt] at hk
        exact w_liveK hlt hk hl
      rw [w_pkC hlt, w_pkC hlt]
      exact hc k i hlt hk' hn
    · rw [w_pkM (by omega), w_pkM (by omega)]
/-- the entries that the stage's cells hold -/
def q_cea (S T : q_S) : Prop := (S.1 0 0 = T.1 0 0 ∧ S.1 0 1 = T.1 0 1 ∧ S.1 0 2 = T.1 0 2 ∧ S.1 0 3 = T.1 0 3 ∧ S.1 0 4 = T.1 0 4 ∧ S.1 0 6 = T.1 0 6) ∧ (S.1 1 = T.1 1 ∧ S.1 2 = T.1 2 ∧ S.1 3 = T.1 3 ∧ S.1 5 = T.1 5) ∧ (S.2 0 = T.2 0 ∧ S.2 1 = T.2 1 ∧ S.2 2 = T.2 2 ∧ S.2 3 = T.2 3 ∧ S.2 4 = T.2 4 ∧ S.2 5 = T.2 5) ∧ (S.2 7 = T.2 7 ∧ S.2 8 = T.2 8 ∧ S.2 9 = T.2 9 ∧ S.2 10 = T.2 10 ∧ S.2 11 = T.2 11 ∧ S.2 12 = T.2 12) ∧ (S.2 13 0 = T.2 13 0 ∧ S.2 18 = T.2 18 ∧ S.2 19 = T.2 19 ∧ S.2 20 = T.2 20 ∧ S.2 21 = T.2 21 ∧ S.2 22 = T.2 22)
/-- the entries that the reference's cells hold -/
def q_mea (S T : q_S) : Prop := (S.1 0 0 = T.1 0 0 ∧ S.1 0 1 = T.1 0 1 ∧ S.1 0 2 = T.1 0 2 ∧ S.1 0 3 = T.1 0 3 ∧ S.1 0 4 = T.1 0 4 ∧ S.1 0 5 = T.1 0 5) ∧ (S.1 1 = T.1 1 ∧ S.1 2 = T.1 2 ∧ S.1 3 = T.1 3 ∧ S.1 4 = T.1 4 ∧ S.1 5 = T.1 5) ∧ (S.2 0 = T.2 0 ∧ S.2 1 = T.2 1 ∧ S.2 2 = T.2 2 ∧ S.2 3 = T.2 3 ∧ S.2 4 = T.2 4 ∧ S.2 5 = T.2 5 ∧ S.2 6 = T.2 6) ∧ (S.2 7 = T.2 7 ∧ S.2 8 = T.2 8 ∧ S.2 9 = T.2 9 ∧ S.2 10 = T.2 10 ∧ S.2 11 = T.2 11) ∧ (S.2 13 0 = T.2 13 0 ∧ S.2 13 1 = T.2 13 1 ∧ S.2 14 = T.2 14 ∧ S.2 15 = T.2 15 ∧ S.2 16 = T.2 16 ∧ S.2 17 = T.2 17)
theorem w_cellC {E : g_E} {A : w_A} {S T : q_S} (h : q_cea S T) (k i : Nat) (hk : k < 30) : w_cell E A S k i = w_cell E A T k i := by
  obtain ⟨⟨a0, a1, a2, a3, a4, a6⟩, ⟨b1, b2, b3, b5⟩, ⟨c0, c1, c2, c3, c4, c5⟩, ⟨d7, d8, d9, d10, d11, d12⟩, e0, e18, e19, e20, e21, e22⟩ := id h
  rcases w_tagsC hk with rfl | rfl | rfl | rfl | rfl | rfl | rfl | rfl | rfl | rfl | rfl | rfl | rfl | rfl | rfl | rfl | rfl | rfl | rfl | rfl | rfl | rfl | rfl | rfl | rfl | rfl | rfl | rfl | rfl | rfl
  · exact w_t0 (q_sl_c a0 c0) a3 a4 e0 i
  · exact w_t1 c4 i
  · exact w_t2 c0 b1 i
  · exact w_t3 a1 b2 i
  · exact w_t4 a1 b2 i
  · exact w_t5 a2 b2 b5 i
  · exact w_t6 a2 b2 b5 i
  · exact w_t7 b2 c1 i
  · exact w_t8 c2 i
  · exact w_t9 c3 i
  · exact w_t10 b3 i
  · exact w_t11 b3 i
  · exact w_t12 a2 b5 i
  · exact w_t13 a2 b5 i
  · exact w_t14 c5 d12 i
  · exact w_t15 ⟨b2, b5, d8, d9, d10⟩ d7 d11 i
  · exact w_t16 a0 i
  · exact w_t17 a0 i
  · exact w_t18 a0 c0 i
  · exact w_t19 a0 c0 i
  · exact w_t20 a1 i
  · exact w_t21 a1 i
  · exact w_t22 a2 i
  · exact w_t23 a2 i
  · exact w_t24 a6 i
  · exact w_t25 e18 i
  · exact w_t26 e19 i
  · exact w_t27 e20 i
  · exact w_t28 e21 i
  · exact w_t29 e22 i
theorem w_cellM {E : g_E} {A : w_A} {S T : q_S} (h : q_mea S T) (k : Nat) (h1 : 30 ≤ k) (h2 : k ≤ 51) : w_cell E A S k 0 = w_cell E A T k 0 := by
  obtain ⟨⟨a0, a1, a2, a3, a4, a5⟩, ⟨b1, b2, b3, b4, b5⟩, ⟨c0, c1, c2, c3, c4, c5, c6⟩, ⟨d7, d8, d9, d10, d11⟩, e0, e1, e14, e15, e16, e17⟩ := id h
  rcases w_tags h1 h2 with rfl | rfl | rfl | rfl | rfl | rfl | rfl | rfl | rfl | rfl | rfl | rfl | rfl | rfl | rfl | rfl | rfl | rfl | rfl | rfl | rfl | rfl
  all_goals simp only [w_cell, q_np, q_ns, q_ne, q_at, q_clicks, q_time, a0, a1, a2, a3, a4, a5, b1, b2, b3, b4, b5, c0, c1, c2, c3, c4, c5, c6, d7, d8, d9, d10, d11, e0, e1, e14, e15, e16, e17]
theorem w_W.cong {E : g_E} {A : w_A} {Sc Sm Tc Tm : q_S} {h : g_H} (hW : w_W E A Sc Sm h) (hc : q_cea Tc Sc) (hm : q_mea Tm Sm) : w_W E A Tc Tm h := by
  have hl : ∀ k i, w_lv Tc Tm k i → w_lv Sc Sm k i := fun k i hk => by
    by_cases hlt : k < 30
    · unfold w_lv at hk ⊢
      rw [w_pkC hlt] at hk ⊢
      exact w_liveK hlt hk ⟨hc.1.1, hc.1.2.1, hc.1.2.2.1, hc.2.1.2.2.1, hc.2.1.2.1, hc.2.1.2.2.2, hc.2.2.1.1⟩
    · exact (w_lvM (by omega) (w_ltag hk) i).mpr ((w_lvM (by omega) (w_ltag hk) i).mp hk)
  refine ⟨fun k i hk => ?_, fun k i hk => hW.2.1 k i (hl k i hk), fun k i k' i' h1 h2 => hW.2.2 k i k' i' (hl k i h1) (hl k' i' h2)⟩
  rw [hW.1 k i (hl k i hk)]
  by_cases hlt : k < 30
  · rw [w_pkC hlt, w_pkC hlt, w_cellC hc k i hlt]
  · have hi := (w_lvM (by omega) (w_ltag hk) i).mp hk
    subst hi
    rw [w_pkM (by omega), w_pkM (by omega), w_cellM hm k (by omega) (w_ltag hk)]
theorem g_stepC {E : g_E} {X : g_X} {P : g_P} {A : w_A} {Sc Sm : q_S} {h : g_H} {z : Bool} {cs ss pc : Nat} {L : List (Option Value)} {st : List Value} (hW : w_W E A Sc Sm h) (k0 i0 : Nat) (Tc : q_S) (hk0 : k0 < 30) (h0 : w_live Sc k0 i0) (hl : q_np Tc = q_np Sc ∧ q_ns Tc = q_ns Sc ∧ q_ne Tc = q_ne Sc ∧ Tc.1 3 = Sc.1 3 ∧ Tc.1 2 = Sc.1 2 ∧ Tc.1 5 = Sc.1 5 ∧ Tc.2 0 = Sc.2 0) (hc : ∀ k i, k < 30 → w_live Sc k i → ¬ (k = k0 ∧ i = i0) → w_cell E A Tc k i = w_cell E A Sc k i) {e : va_E} (he : e = w_cell E A Tc k0 i0)
    (kk : ∀ h1 : g_H, w_W E A Tc Sm h1 → g_Go E X P h1 z cs ss pc L st) : g_Go E X P (g_set h (A k0 i0) e) z cs ss pc L st := kk _ (w_putC hW hk0 h0 hl hc he)
