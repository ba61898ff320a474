/-! the world: which cells the class and the reference have, and what they hold, of the one state S; A gives the places -/
abbrev w_A : Type := Nat → Nat → Nat
def w_list (E : g_E) (dd n : Nat) : va_E := .inr (6, [.ref (if n = 0 then E.ad 2 else dd), .int (nI n), .int (nI n)])
def w_data (E : g_E) (xs : List Nat) (g : Nat → Nat) : va_E := g_refs E (l_cap xs.length) (fun j => (xs[j]?).map g)
def w_pars (S : q_S) (j : Nat) : List Nat := (List.range (S.1 3 j)).map (fun q => 4 * j + q)
def w_slideAt (S : q_S) : Int32 := if q_sl S = [] then -1 else nI (q_at S)
def w_cell (E : g_E) (A : w_A) (S : q_S) (k i : Nat) : va_E := match k with
  | 0 => .inr (0, [.ref (A 1 0), .ref (A 16 0), .ref (A 18 0), .ref (A 20 0), .ref (A 22 0), .ref (A 24 0), .int (w_slideAt S), .int (nI (q_clicks S)), .int (q_time S)])
  | 1 => g_ints E 7 (S.2 4)
  | 2 => .inr (1, [.int (q_kind S i), va_rf ((q_par S i).map (A 2)), .ref (A 3 i), .ref (A 5 i)])
  | 3 => w_list E (A 4 i) (q_on S i).length
  | 4 => w_data E (q_on S i) (A 7)
  | 5 => w_list E (A 6 i) (q_eon S i).length
  | 6 => w_data E (q_eon S i) (A 15)
  | 7 => .inr (2, [.int (nI i), .ref (A 2 (q_home S i)), .int (q_slot S i), .ref (A 8 i), .ref (A 9 i), .ref (A 10 i), .ref (A 12 i)])
  | 8 => g_bools E 7 (fun pr => if pr < 7 then S.2 2 (7 * i + pr) else 0)
  | 9 => g_ints E 7 (fun pr => if pr < 7 then S.2 3 (7 * i + pr) else 0)
  | 10 => w_list E (A 11 i) (w_pars S i).length
  | 11 => w_data E (w_pars S i) (A 14)
  | 12 => w_list E (A 13 i) (q_eof S i).length
  | 13 => w_data E (q_eof S i) (A 15)
  | 14 => .inr (3, [.int (S.2 5 i), .int (S.2 12 i)])
  | 15 => .inr (4, [.ref (A 2 (q_epage S i)), .int (S.2 7 i), .int (nI (q_build S i)), .int (q_base S i), .int (q_start S i), .int (q_end S i), .int (S.2 10 i), .int (S.2 11 i)])
  | 16 => w_list E (A 17 0) (List.range (q_np S)).length
  | 17 => w_data E (List.range (q_np S)) (A 2)
  | 18 => w_list E (A 19 0) (q_sl S).length
  | 19 => w_data E (q_sl S) (A 2)
  | 20 => w_list E (A 21 0) (List.range (q_ns S)).length
  | 21 => w_data E (List.range (q_ns S)) (A 7)
  | 22 => w_list E (A 23 0) (List.range (q_ne S)).length
  | 23 => w_data E (List.range (q_ne S)) (A 15)
  | 24 => .inr (5, [.ref (A 25 0), .ref (A 26 0), .ref (A 27 0), .ref (A 28 0), .int (nI (S.1 0 6))])
  | 25 => g_ints E 16 (S.2 18)
  | 26 => g_ints E 16 (S.2 19)
  | 27 => g_ints E 16 (S.2 20)
  | 28 => g_ints E 16 (S.2 21)
  | 29 => .inl (E.D.1 102, 1, .inr (.inl (fun _ => (S.2 22 0).toInt64)))
  | 30 => .inr (7, [.int (S.2 13 1), .int (nI (q_np S)), .ref (A 31 0), .ref (A 32 0), .int (nI (q_ns S)), .ref (A 33 0), .ref (A 34 0), .ref (A 35 0), .ref (A 36 0), .ref (A 37 0), .ref (A 38 0), .ref (A 39 0), .ref (A 40 0), .ref (A 41 0), .int (nI (q_ne S)), .ref (A 42 0), .ref (A 43 0), .ref (A 44 0), .ref (A 45 0), .ref (A 46 0), .ref (A 47 0), .int (nI (q_at S)), .int (nI (q_clicks S)), .int (q_time S), .int (nI (S.1 0 5)), .ref (A 48 0), .ref (A 49 0), .ref (A 50 0), .ref (A 51 0)])
  | 31 => g_ints E 12 (S.2 0)
  | 32 => g_ints E 12 (fun p => nI (S.1 1 p) - 1)
  | 33 => g_ints E 24 (fun j => nI (S.1 2 j))
  | 34 => g_ints E 24 (S.2 1)
  | 35 => g_bools E 168 (S.2 2)
  | 36 => g_ints E 168 (S.2 3)
  | 37 => g_ints E 7 (S.2 4)
  | 38 => g_ints E 24 (fun j => nI (S.1 3 j))
  | 39 => g_ints E 96 (S.2 5)
  | 40 => g_ints E 96 (fun t => nI (S.1 4 t))
  | 41 => g_ints E 384 (S.2 6)
  | 42 => g_ints E 24 (fun e => nI (S.1 5 e))
  | 43 => g_ints E 24 (S.2 7)
  | 44 => g_ints E 24 (S.2 8)
  | 45 => g_ints E 24 (S.2 9)
  | 46 => g_ints E 24 (S.2 10)
  | 47 => g_ints E 24 (S.2 11)
  | 48 => g_ints E 16 (S.2 14)
  | 49 => g_ints E 16 (S.2 15)
  | 50 => g_ints E 16 (S.2 16)
  | _ => g_ints E 16 (S.2 17)
def w_live (S : q_S) (k i : Nat) : Prop := match k with
  | 2 => i < q_np S
  | 3 => i < q_np S
  | 4 => i < q_np S ∧ q_on S i ≠ []
  | 5 => i < q_np S
  | 6 => i < q_np S ∧ q_eon S i ≠ []
  | 7 => i < q_ns S
  | 8 => i < q_ns S
  | 9 => i < q_ns S
  | 10 => i < q_ns S
  | 11 => i < q_ns S ∧ w_pars S i ≠ []
  | 12 => i < q_ns S
  | 13 => i < q_ns S ∧ q_eof S i ≠ []
  | 14 => i / 4 < q_ns S ∧ i % 4 < S.1 3 (i / 4)
  | 15 => i < q_ne S
  | 17 => i = 0 ∧ q_np S ≠ 0
  | 19 => i = 0 ∧ q_sl S ≠ []
  | 21 => i = 0 ∧ q_ns S ≠ 0
  | 23 => i = 0 ∧ q_ne S ≠ 0
  | _ => i = 0 ∧ k ≤ 51
/-- the class's cells are of Sc, the reference's of Sm -/
def w_pk (Sc Sm : q_S) (k : Nat) : q_S := if k < 30 then Sc else Sm
def w_lv (Sc Sm : q_S) (k i : Nat) : Prop := w_live (w_pk Sc Sm k) k i
/-- the view h holds the world -/
def w_W (E : g_E) (A : w_A) (Sc Sm : q_S) (h : g_H) : Prop :=
  (∀ k i, w_lv Sc Sm k i → h (A k i) = some (w_cell E A (w_pk Sc Sm k) k i)) ∧ (∀ k i, w_lv Sc Sm k i → E.H0.size ≤ A k i) ∧ ∀ k i k' i', w_lv Sc Sm k i → w_lv Sc Sm k' i' → A k i = A k' i' → k = k' ∧ i = i'
/-- one cell is written: the other cells hold what they held -/
theorem w_W.put {E : g_E} {A : w_A} {Sc Sm Sc' Sm' : q_S} {h : g_H} {k0 i0 : Nat} (hW : w_W E A Sc Sm h) (h0 : w_lv Sc Sm k0 i0) (hl : ∀ k i, w_lv Sc' Sm' k i → w_lv Sc Sm k i) (hc : ∀ k i, w_lv Sc' Sm' k i → ¬ (k = k0 ∧ i = i0) → w_cell E A (w_pk Sc' Sm' k) k i = w_cell E A (w_pk Sc Sm k) k i) {e : va_E} (he : e = w_cell E A (w_pk Sc' Sm' k0) k0 i0) : w_W E A Sc' Sm' (g_set h (A k0 i0) e) := by
  refine ⟨fun k i hk => ?_, fun k i hk => hW.2.1 k i (hl k i hk), fun k i k' i' h1 h2 => hW.2.2 k i k' i' (hl k i h1) (hl k' i' h2)⟩
  by_cases hq : k = k0 ∧ i = i0
  · obtain ⟨rfl, rfl⟩ := hq
    rw [g_set_same, he]
  · have hn : A k i ≠ A k0 i0 := fun q => hq (hW.2.2 k i k0 i0 (hl k i hk) h0 q)
    rw [g_set_ne h e hn, hc k i hk hq]
    exact hW.1 k i (hl k i hk)
/-- the reference's cells -/
def r_W (E : g_E) (A : w_A) (S : q_S) (h : g_H) : Prop := ∀ t, 30 ≤ t → t ≤ 51 → h (A t 0) = some (w_cell E A S t 0)
theorem w_liveM {S : q_S} {t : Nat} (h1 : 30 ≤ t) (h2 : t ≤ 51) (i : Nat) : w_live S t i ↔ i = 0 := by
  have h3 : t = 30 ∨ t = 31 ∨ t = 32 ∨ t = 33 ∨ t = 34 ∨ t = 35 ∨ t = 36 ∨ t = 37 ∨ t = 38 ∨ t = 39 ∨ t = 40 ∨ t = 41 ∨ t = 42 ∨ t = 43 ∨ t = 44 ∨ t = 45 ∨ t = 46 ∨ t = 47 ∨ t = 48 ∨ t = 49 ∨ t = 50 ∨ t = 51 := by omega
  rcases h3 with rfl | rfl | rfl | rfl | rfl | rfl | rfl | rfl | rfl | rfl | rfl | rfl | rfl | rfl | rfl | rfl | rfl | rfl | rfl | rfl | rfl | rfl <;> exact ⟨fun q => q.1, fun q => ⟨q, by decide⟩⟩
theorem w_lvM {Sc Sm : q_S} {t : Nat} (h1 : 30 ≤ t) (h2 : t ≤ 51) (i : Nat) : w_lv Sc Sm t i ↔ i = 0 := w_liveM h1 h2 i
theorem w_pkM {Sc Sm : q_S} {t : Nat} (h1 : 30 ≤ t) : w_pk Sc Sm t = Sm := if_neg (by omega)
theorem w_pkC {Sc Sm : q_S} {t : Nat} (h1 : t < 30) : w_pk Sc Sm t = Sc := if_pos h1
theorem w_W.r {E : g_E} {A : w_A} {Sc Sm : q_S} {h : g_H} (hW : w_W E A Sc Sm h) : r_W E A Sm h := fun t h1 h2 => by
  have h3 := hW.1 t 0 ((w_lvM h1 h2 0).mpr rfl)
  rw [w_pkM h1] at h3
  exact h3
theorem w_ltag {Sc Sm : q_S} {k i : Nat} (h : w_lv Sc Sm k i) : k ≤ 51 := by
  apply Classical.byContradiction
  intro h1
  unfold w_lv w_live at h
  split at h <;> first | omega | exact absurd h.2 h1
/-- one cell of the reference's is written -/
theorem w_putM {E : g_E} {A : w_A} {Sc Sm Sm' : q_S} {h : g_H} {k0 : Nat} (hW : w_W E A Sc Sm h) (h1 : 30 ≤ k0) (h2 : k0 ≤ 51) (hc : ∀ k, 30 ≤ k → k ≤ 51 → ¬ k = k0 → w_cell E A Sm' k 0 = w_cell E A Sm k 0) {e : va_E} (he : e = w_cell E A Sm' k0 0) : w_W E A Sc Sm' (g_set h (A k0 0) e) := by
  refine hW.put ((w_lvM h1 h2 0).mpr rfl) (fun k i hk => ?_) (fun k i hk hn => ?_) (by rw [w_pkM h1]; exact he)
  · by_cases hlt : k < 30
    · unfold w_lv at hk ⊢
      rw [w_pkC hlt] at hk ⊢
      exact hk
    · exact (w_lvM (by omega) (w_ltag hk) i).mpr ((w_lvM (by omega) (w_ltag hk) i).mp hk)
  · by_cases hlt : k < 30
    · rw [w_pkC hlt, w_pkC hlt]
    · have hi := (w_lvM (by omega) (w_ltag hk) i).mp hk
      subst hi
      rw [w_pkM (by omega), w_pkM (by omega)]
      exact hc k (by omega) (w_ltag hk) (fun q => hn ⟨q, rfl⟩)
theorem w_baseM {E : g_E} {A : w_A} {Sc Sm : q_S} {h : g_H} (hW : w_W E A Sc Sm h) (t : Nat) (h1 : 30 ≤ t) (h2 : t ≤ 51) : E.H0.size ≤ A t 0 := hW.2.1 t 0 ((w_lvM h1 h2 0).mpr rfl)
theorem w_ar {E : g_E} {A : w_A} {S : q_S} {h : g_H} (hW : r_W E A S h) (t : Nat) (ht : 30 ≤ t ∧ t ≤ 51) : h (A t 0) = some (w_cell E A S t 0) := hW t ht.1 ht.2
theorem w_m {E : g_E} {A : w_A} {S : q_S} {h : g_H} (hW : r_W E A S h) : h (A 30 0) = some (w_cell E A S 30 0) := hW 30 (by decide) (by decide)
/-- a list of the world is an ArrayList -/
theorem w_lst {E : g_E} {h : g_H} {b dd : Nat} {xs : List Nat} {g : Nat → Nat} (h1 : h b = some (w_list E dd xs.length)) (h2 : xs ≠ [] → h dd = some (w_data E xs g)) (h3 : xs.length ≤ 33) : l_at E h b dd xs.length (fun j => (xs[j]?).map g) := ⟨h1, fun hn => h2 (fun q => hn (by rw [q]; rfl)), h3⟩
/-- the numbers stay within their bounds -/
def w_B (S : q_S) : Prop := q_np S ≤ 12 ∧ q_ns S ≤ 24 ∧ q_ne S ≤ 24 ∧ (∀ p, p < q_np S → S.1 1 p ≤ p) ∧ (∀ j, j < q_ns S → q_home S j < q_np S ∧ S.1 3 j ≤ 4) ∧ (∀ e, e < q_ne S → S.1 5 e < q_ns S)
