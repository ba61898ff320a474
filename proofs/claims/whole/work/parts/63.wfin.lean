/-! which places a cell names; the world behind a method that makes cells -/
theorem w_uA_tag (A : w_A) {k0 i0 a t x : Nat} (h : ¬ t = k0) : w_uA A k0 i0 a t x = A t x := if_neg (fun q => h q.1)
theorem w_uA_ix (A : w_A) {k0 i0 a t x : Nat} (h : ¬ x = i0) : w_uA A k0 i0 a t x = A t x := if_neg (fun q => h q.2)
theorem w_uc_tag (cl : Nat → Nat → va_E) {k0 i0 t x : Nat} {e : va_E} (h : ¬ t = k0) : w_uc cl k0 i0 e t x = cl t x := if_neg (fun q => h q.1)
theorem w_uc_ix (cl : Nat → Nat → va_E) {k0 i0 t x : Nat} {e : va_E} (h : ¬ x = i0) : w_uc cl k0 i0 e t x = cl t x := if_neg (fun q => h q.2)
theorem w_uc_same (cl : Nat → Nat → va_E) (k0 i0 : Nat) (e : va_E) : w_uc cl k0 i0 e k0 i0 = e := if_pos ⟨rfl, rfl⟩
theorem w_par_c {r : Option Nat} {g g' : Nat → Nat} (h : ∀ q, r = some q → g q = g' q) : r.map g = r.map g' := by
  cases r with
  | none => rfl
  | some q => exact congrArg some (h q rfl)
theorem w_u0 {E : g_E} {A B : w_A} {S : q_S} {i : Nat} (h0 : A 1 0 = B 1 0) (h1 : A 16 0 = B 16 0) (h2 : A 18 0 = B 18 0) (h3 : A 20 0 = B 20 0) (h4 : A 22 0 = B 22 0) (h5 : A 24 0 = B 24 0) : w_cell E A S 0 i = w_cell E B S 0 i := by
  simp only [w_cell, h0, h1, h2, h3, h4, h5]
theorem w_u1 {E : g_E} {A B : w_A} {S : q_S} {i : Nat}  : w_cell E A S 1 i = w_cell E B S 1 i := by
  simp only [w_cell]
theorem w_u2 {E : g_E} {A B : w_A} {S : q_S} {i : Nat} (h0 : ∀ q, q_par S i = some q → A 2 q = B 2 q) (h1 : A 3 i = B 3 i) (h2 : A 5 i = B 5 i) : w_cell E A S 2 i = w_cell E B S 2 i := by
  simp only [w_cell, w_par_c h0, h1, h2]
theorem w_u3 {E : g_E} {A B : w_A} {S : q_S} {i : Nat} (h0 : A 4 i = B 4 i) : w_cell E A S 3 i = w_cell E B S 3 i := by
  simp only [w_cell, h0]
theorem w_u4 {E : g_E} {A B : w_A} {S : q_S} {i : Nat} (h0 : ∀ x, x ∈ q_on S i → A 7 x = B 7 x) : w_cell E A S 4 i = w_cell E B S 4 i := by
  simp only [w_cell, w_data_c h0]
theorem w_u5 {E : g_E} {A B : w_A} {S : q_S} {i : Nat} (h0 : A 6 i = B 6 i) : w_cell E A S 5 i = w_cell E B S 5 i := by
  simp only [w_cell, h0]
theorem w_u6 {E : g_E} {A B : w_A} {S : q_S} {i : Nat} (h0 : ∀ x, x ∈ q_eon S i → A 15 x = B 15 x) : w_cell E A S 6 i = w_cell E B S 6 i := by
  simp only [w_cell, w_data_c h0]
theorem w_u7 {E : g_E} {A B : w_A} {S : q_S} {i : Nat} (h0 : A 2 (q_home S i) = B 2 (q_home S i)) (h1 : A 8 i = B 8 i) (h2 : A 9 i = B 9 i) (h3 : A 10 i = B 10 i) (h4 : A 12 i = B 12 i) : w_cell E A S 7 i = w_cell E B S 7 i := by
  simp only [w_cell, h0, h1, h2, h3, h4]
theorem w_u8 {E : g_E} {A B : w_A} {S : q_S} {i : Nat}  : w_cell E A S 8 i = w_cell E B S 8 i := by
  simp only [w_cell]
theorem w_u9 {E : g_E} {A B : w_A} {S : q_S} {i : Nat}  : w_cell E A S 9 i = w_cell E B S 9 i := by
  simp only [w_cell]
theorem w_u10 {E : g_E} {A B : w_A} {S : q_S} {i : Nat} (h0 : A 11 i = B 11 i) : w_cell E A S 10 i = w_cell E B S 10 i := by
  simp only [w_cell, h0]
theorem w_u11 {E : g_E} {A B : w_A} {S : q_S} {i : Nat} (h0 : ∀ x, x ∈ w_pars S i → A 14 x = B 14 x) : w_cell E A S 11 i = w_cell E B S 11 i := by
  simp only [w_cell, w_data_c h0]
theorem w_u12 {E : g_E} {A B : w_A} {S : q_S} {i : Nat} (h0 : A 13 i = B 13 i) : w_cell E A S 12 i = w_cell E B S 12 i := by
  simp only [w_cell, h0]
theorem w_u13 {E : g_E} {A B : w_A} {S : q_S} {i : Nat} (h0 : ∀ x, x ∈ q_eof S i → A 15 x = B 15 x) : w_cell E A S 13 i = w_cell E B S 13 i := by
  simp only [w_cell, w_data_c h0]
theorem w_u14 {E : g_E} {A B : w_A} {S : q_S} {i : Nat}  : w_cell E A S 14 i = w_cell E B S 14 i := by
  simp only [w_cell]
theorem w_u15 {E : g_E} {A B : w_A} {S : q_S} {i : Nat} (h0 : A 2 (q_epage S i) = B 2 (q_epage S i)) : w_cell E A S 15 i = w_cell E B S 15 i := by
  simp only [w_cell, h0]
theorem w_u16 {E : g_E} {A B : w_A} {S : q_S} {i : Nat} (h0 : A 17 0 = B 17 0) : w_cell E A S 16 i = w_cell E B S 16 i := by
  simp only [w_cell, h0]
theorem w_u17 {E : g_E} {A B : w_A} {S : q_S} {i : Nat} (h0 : ∀ x, x ∈ List.range (q_np S) → A 2 x = B 2 x) : w_cell E A S 17 i = w_cell E B S 17 i := by
  simp only [w_cell, w_data_c h0]
theorem w_u18 {E : g_E} {A B : w_A} {S : q_S} {i : Nat} (h0 : A 19 0 = B 19 0) : w_cell E A S 18 i = w_cell E B S 18 i := by
  simp only [w_cell, h0]
theorem w_u19 {E : g_E} {A B : w_A} {S : q_S} {i : Nat} (h0 : ∀ x, x ∈ q_sl S → A 2 x = B 2 x) : w_cell E A S 19 i = w_cell E B S 19 i := by
  simp only [w_cell, w_data_c h0]
theorem w_u20 {E : g_E} {A B : w_A} {S : q_S} {i : Nat} (h0 : A 21 0 = B 21 0) : w_cell E A S 20 i = w_cell E B S 20 i := by
  simp only [w_cell, h0]
theorem w_u21 {E : g_E} {A B : w_A} {S : q_S} {i : Nat} (h0 : ∀ x, x ∈ List.range (q_ns S) → A 7 x = B 7 x) : w_cell E A S 21 i = w_cell E B S 21 i := by
  simp only [w_cell, w_data_c h0]
theorem w_u22 {E : g_E} {A B : w_A} {S : q_S} {i : Nat} (h0 : A 23 0 = B 23 0) : w_cell E A S 22 i = w_cell E B S 22 i := by
  simp only [w_cell, h0]
theorem w_u23 {E : g_E} {A B : w_A} {S : q_S} {i : Nat} (h0 : ∀ x, x ∈ List.range (q_ne S) → A 15 x = B 15 x) : w_cell E A S 23 i = w_cell E B S 23 i := by
  simp only [w_cell, w_data_c h0]
theorem w_u24 {E : g_E} {A B : w_A} {S : q_S} {i : Nat} (h0 : A 25 0 = B 25 0) (h1 : A 26 0 = B 26 0) (h2 : A 27 0 = B 27 0) (h3 : A 28 0 = B 28 0) : w_cell E A S 24 i = w_cell E B S 24 i := by
  simp only [w_cell, h0, h1, h2, h3]
theorem w_u25 {E : g_E} {A B : w_A} {S : q_S} {i : Nat}  : w_cell E A S 25 i = w_cell E B S 25 i := by
  simp only [w_cell]
theorem w_u26 {E : g_E} {A B : w_A} {S : q_S} {i : Nat}  : w_cell E A S 26 i = w_cell E B S 26 i := by
  simp only [w_cell]
theorem w_u27 {E : g_E} {A B : w_A} {S : q_S} {i : Nat}  : w_cell E A S 27 i = w_cell E B S 27 i := by
  simp only [w_cell]
theorem w_u28 {E : g_E} {A B : w_A} {S : q_S} {i : Nat}  : w_cell E A S 28 i = w_cell E B S 28 i := by
  simp only [w_cell]
theorem w_u29 {E : g_E} {A B : w_A} {S : q_S} {i : Nat}  : w_cell E A S 29 i = w_cell E B S 29 i := by
  simp only [w_cell]
theorem w_uM30 {E : g_E} {A B : w_A} {S : q_S} (h31 : A 31 0 = B 31 0) (h32 : A 32 0 = B 32 0) (h33 : A 33 0 = B 33 0) (h34 : A 34 0 = B 34 0) (h35 : A 35 0 = B 35 0) (h36 : A 36 0 = B 36 0) (h37 : A 37 0 = B 37 0) (h38 : A 38 0 = B 38 0) (h39 : A 39 0 = B 39 0) (h40 : A 40 0 = B 40 0) (h41 : A 41 0 = B 41 0) (h42 : A 42 0 = B 42 0) (h43 : A 43 0 = B 43 0) (h44 : A 44 0 = B 44 0) (h45 : A 45 0 = B 45 0) (h46 : A 46 0 = B 46 0) (h47 : A 47 0 = B 47 0) (h48 : A 48 0 = B 48 0) (h49 : A 49 0 = B 49 0) (h50 : A 50 0 = B 50 0) (h51 : A 51 0 = B 51 0) : w_cell E A S 30 0 = w_cell E B S 30 0 := by
  simp only [w_cell, h31, h32, h33, h34, h35, h36, h37, h38, h39, h40, h41, h42, h43, h44, h45, h46, h47, h48, h49, h50, h51]
theorem w_uM {E : g_E} {A B : w_A} {S : q_S} (h : ∀ t, 31 ≤ t → t ≤ 51 → A t 0 = B t 0) {k : Nat} (h1 : 30 ≤ k) (h2 : k ≤ 51) : w_cell E A S k 0 = w_cell E B S k 0 := by
  rcases w_tags h1 h2 with rfl | rfl | rfl | rfl | rfl | rfl | rfl | rfl | rfl | rfl | rfl | rfl | rfl | rfl | rfl | rfl | rfl | rfl | rfl | rfl | rfl | rfl
  · exact w_uM30 (h 31 (by decide) (by decide)) (h 32 (by decide) (by decide)) (h 33 (by decide) (by decide)) (h 34 (by decide) (by decide)) (h 35 (by decide) (by decide)) (h 36 (by decide) (by decide)) (h 37 (by decide) (by decide)) (h 38 (by decide) (by decide)) (h 39 (by decide) (by decide)) (h 40 (by decide) (by decide)) (h 41 (by decide) (by decide)) (h 42 (by decide) (by decide)) (h 43 (by decide) (by decide)) (h 44 (by decide) (by decide)) (h 45 (by decide) (by decide)) (h 46 (by decide) (by decide)) (h 47 (by decide) (by decide)) (h 48 (by decide) (by decide)) (h 49 (by decide) (by decide)) (h 50 (by decide) (by decide)) (h 51 (by decide) (by decide))
  all_goals simp only [w_cell]
theorem q_filt {f g : Nat → Bool} {n : Nat} (h : ∀ k, k < n → f k = g k) : (List.range (n + 1)).filter f = (List.range n).filter g ++ (if f n = true then [n] else []) := by
  rw [List.range_succ, List.filter_append]
  congr 1
  · exact List.filter_congr (fun k hk => h k (List.mem_range.mp hk))
  · by_cases hf : f n = true
    · rw [if_pos hf, List.filter_cons_of_pos hf]
      rfl
    · rw [if_neg hf, List.filter_cons_of_neg hf]
      rfl
theorem q_filt0 {f g : Nat → Bool} {n : Nat} (h : ∀ k, k < n → f k = g k) : (List.range n).filter f = (List.range n).filter g := List.filter_congr (fun k hk => h k (List.mem_range.mp hk))
theorem q_filtn {f : Nat → Bool} {n : Nat} (h : ∀ k, k < n → ¬ f k = true) : (List.range n).filter f = [] := List.filter_eq_nil_iff.mpr (fun k hk => h k (List.mem_range.mp hk))
def q_ept (S T : q_S) (e : Nat) : Prop := q_home S (S.1 5 e) = q_home T (T.1 5 e) ∧ S.2 8 e = T.2 8 e ∧ S.2 9 e = T.2 9 e ∧ S.2 10 e = T.2 10 e
theorem q_run_pt {S T : q_S} {p : Nat} : ∀ n, (∀ e, e < n → q_ept S T e) → q_run S p n = q_run T p n
  | 0, _ => by rw [q_run, q_run]
  | n + 1, h => by
    have ih := q_run_pt (S := S) (T := T) (p := p) n (fun e he => h e (by omega))
    obtain ⟨h1, h2, h3, h4⟩ := h n (by omega)
    rw [q_run, q_run, ih, h1, h2, h3, h4]
theorem w_t15p {E : g_E} {A : w_A} {S T : q_S} {i : Nat} (h : ∀ e, e < i + 1 → q_ept S T e) (h7 : S.2 7 i = T.2 7 i) (h11 : S.2 11 i = T.2 11 i) : w_cell E A S 15 i = w_cell E A T 15 i := by
  obtain ⟨h1, h2, h3, h4⟩ := h i (by omega)
  have he : q_epage S i = q_epage T i := h1
  have hr : q_run S (q_epage S i) (i + 1) = q_run T (q_epage T i) (i + 1) := by rw [he]; exact q_run_pt (i + 1) h
  have hb : q_build S i = q_build T i := by unfold q_build; rw [hr]
  have hs : q_base S i = q_base T i := by unfold q_base; rw [hr]
  have ht : q_start S i = q_start T i := by unfold q_start; rw [hs, h3]
  have hn : q_end S i = q_end T i := by unfold q_end; rw [hs, h3, h4]
  show Sum.inr (4, [Value.ref (A 2 (q_epage S i)), .int (S.2 7 i), .int (nI (q_build S i)), .int (q_base S i), .int (q_start S i), .int (q_end S i), .int (S.2 10 i), .int (S.2 11 i)]) = Sum.inr (4, [Value.ref (A 2 (q_epage T i)), .int (T.2 7 i), .int (nI (q_build T i)), .int (q_base T i), .int (q_start T i), .int (q_end T i), .int (T.2 10 i), .int (T.2 11 i)])
  rw [he, h7, hb, hs, ht, hn, h4, h11]
theorem q_sl_lt {S : q_S} {x : Nat} (h : x ∈ q_sl S) : x < q_np S := List.mem_range.mp (List.mem_filter.mp h).1
theorem q_sl_pg {S : q_S} {k : Int32} {pp : Nat} (hk2 : ¬ k = 2) : q_sl (q_up1 (q_up1 (q_up2 S 0 (q_np S) k) 1 (q_np S) pp) 0 0 (q_np S + 1)) = q_sl S := by
  show (List.range (q_np S + 1)).filter (fun p => decide (upd (S.2 0) (q_np S) k p = 2)) = (List.range (q_np S)).filter (fun p => decide (S.2 0 p = 2))
  rw [q_filt (g := fun p => decide (S.2 0 p = 2)) (fun p hp => by rw [show upd (S.2 0) (q_np S) k p = S.2 0 p from if_neg (by omega)]), show upd (S.2 0) (q_np S) k (q_np S) = k from if_pos rfl, if_neg (by rw [decide_eq_true_iff]; exact hk2), List.append_nil]
theorem q_sl_ps {S : q_S} {pp : Nat} : q_sl (q_up1 (q_up1 (q_up2 S 0 (q_np S) 2) 1 (q_np S) pp) 0 0 (q_np S + 1)) = q_sl S ++ [q_np S] := by
  show (List.range (q_np S + 1)).filter (fun p => decide (upd (S.2 0) (q_np S) 2 p = 2)) = (List.range (q_np S)).filter (fun p => decide (S.2 0 p = 2)) ++ [q_np S]
  rw [q_filt (g := fun p => decide (S.2 0 p = 2)) (fun p hp => by rw [show upd (S.2 0) (q_np S) 2 p = S.2 0 p from if_neg (by omega)]), show upd (S.2 0) (q_np S) 2 (q_np S) = 2 from if_pos rfl, if_pos (by decide)]
theorem q_par_np {S : q_S} {k : Int32} {pp i : Nat} (hin : ¬ i = q_np S) : q_par S i = q_par (q_up1 (q_up1 (q_up2 S 0 (q_np S) k) 1 (q_np S) pp) 0 0 (q_np S + 1)) i := by
  unfold q_par
  rw [show (q_up1 (q_up1 (q_up2 S 0 (q_np S) k) 1 (q_np S) pp) 0 0 (q_np S + 1)).1 1 i = S.1 1 i from if_neg hin]
theorem w_t2x {E : g_E} {A : w_A} {S : q_S} {k : Int32} {pp i : Nat} (hin : ¬ i = q_np S) : w_cell E A S 2 i = w_cell E A (q_up1 (q_up1 (q_up2 S 0 (q_np S) k) 1 (q_np S) pp) 0 0 (q_np S + 1)) 2 i := by
  show Sum.inr (1, [Value.int (S.2 0 i), va_rf ((q_par S i).map (A 2)), .ref (A 3 i), .ref (A 5 i)]) = Sum.inr (1, [Value.int (upd (S.2 0) (q_np S) k i), va_rf ((q_par (q_up1 (q_up1 (q_up2 S 0 (q_np S) k) 1 (q_np S) pp) 0 0 (q_np S + 1)) i).map (A 2)), .ref (A 3 i), .ref (A 5 i)])
  rw [show upd (S.2 0) (q_np S) k i = S.2 0 i from if_neg hin, ← q_par_np hin]
set_option maxRecDepth 100000 in
theorem w_page {E : g_E} {A : w_A} {S Sm : q_S} {h : g_H} (hB : w_B S) {k : Int32} {pp q q0 q1 dd : Nat} {rp : Option Nat} (hk2 : ¬ k = 2) (hrp : q_par (q_up1 (q_up1 (q_up2 S 0 (q_np S) k) 1 (q_np S) pp) 0 0 (q_np S + 1)) (q_np S) = rp) (hrl : ∀ x, rp = some x → x < q_np S) (hG : w_G E (w_uA (w_uA (w_uA (w_uA A 2 (q_np S) q) 3 (q_np S) q0) 5 (q_np S) q1) 17 0 dd) (w_ul (w_ul (w_ul (w_ul (w_lv S Sm) 2 (q_np S)) 3 (q_np S)) 5 (q_np S)) 17 0) (w_uc (w_uc (w_uc (w_uc (w_uc (w_uc (fun k i => w_cell E A (w_pk S Sm k) k i) 2 (q_np S) (.inr (1, [.int 0, .null, .null, .null]))) 3 (q_np S) (g_L0 E)) 5 (q_np S) (g_L0 E)) 2 (q_np S) (.inr (1, [.int k, va_rf (rp.map (A 2)), .ref q0, .ref q1]))) 17 0 (w_data E (List.range (q_np S) ++ [q_np S]) ((w_uA (w_uA (w_uA A 2 (q_np S) q) 3 (q_np S) q0) 5 (q_np S) q1) 2))) 16 0 (w_list E dd ((List.range (q_np S)).length + 1))) h) : w_W E (w_uA (w_uA (w_uA (w_uA A 2 (q_np S) q) 3 (q_np S) q0) 5 (q_np S) q1) 17 0 dd) (q_up1 (q_up1 (q_up2 S 0 (q_np S) k) 1 (q_np S) pp) 0 0 (q_np S + 1)) Sm h := by
  obtain ⟨hnp, hns, hne, hpar, hhome, hact⟩ := id hB
  refine hG.fin (fun k i hk => ?_)
  by_cases hlt : k < 30
  case neg =>
    have h51 := w_ltag hk
    have hi := (w_lvM (by omega) h51 i).mp hk
    subst hi
    refine ⟨Or.inr (Or.inr (Or.inr (Or.inr ((w_lvM (by omega) h51 0).mpr rfl)))), ?_⟩
    rw [w_uc_tag _ (by omega), w_uc_tag _ (by omega), w_uc_tag _ (by omega), w_uc_tag _ (by omega), w_uc_tag _ (by omega), w_uc_tag _ (by omega)]
    show w_cell E A (w_pk S Sm k) k 0 = w_cell E _ (w_pk _ Sm k) k 0
    rw [w_pkM (by omega), w_pkM (by omega)]
    exact w_uM (fun t h1 h2 => by rw [w_uA_tag _ (by omega), w_uA_tag _ (by omega), w_uA_tag _ (by omega), w_uA_tag _ (by omega)]) (by omega) h51
  unfold w_lv at hk
  rw [w_pkC hlt] at hk ⊢
  rcases w_tagsC hlt with rfl | rfl | rfl | rfl | rfl | rfl | rfl | rfl | rfl | rfl | rfl | rfl | rfl | rfl | rfl | rfl | rfl | rfl | rfl | rfl | rfl | rfl | rfl | rfl | rfl | rfl | rfl | rfl | rfl | rfl
  · exact ⟨Or.inr (Or.inr (Or.inr (Or.inr ((show w_lv S Sm 0 i from hk))))), (w_t0 (S := S) (T := q_up1 (q_up1 (q_up2 S 0 (q_np S) k) 1 (q_np S) pp) 0 0 (q_np S + 1)) (show q_sl S = q_sl (q_up1 (q_up1 (q_up2 S 0 (q_np S) k) 1 (q_np S) pp) 0 0 (q_np S + 1)) from (q_sl_pg hk2).symm) rfl rfl rfl i).trans (w_u0 (A := A) (B := (w_uA (w_uA (w_uA (w_uA A 2 (q_np S) q) 3 (q_np S) q0) 5 (q_np S) q1) 17 0 dd)) (S := q_up1 (q_up1 (q_up2 S 0 (q_np S) k) 1 (q_np S) pp) 0 0 (q_np S + 1)) rfl rfl rfl rfl rfl rfl)⟩
  · exact ⟨Or.inr (Or.inr (Or.inr (Or.inr ((show w_lv S Sm 1 i from hk))))), (w_t1 (S := S) (T := q_up1 (q_up1 (q_up2 S 0 (q_np S) k) 1 (q_np S) pp) 0 0 (q_np S + 1)) rfl i).trans (w_u1 (A := A) (B := (w_uA (w_uA (w_uA (w_uA A 2 (q_np S) q) 3 (q_np S) q0) 5 (q_np S) q1) 17 0 dd)) (S := q_up1 (q_up1 (q_up2 S 0 (q_np S) k) 1 (q_np S) pp) 0 0 (q_np S + 1)) )⟩
  · have hi : i < q_np S + 1 := hk
    by_cases hin : i = q_np S
    · subst hin
      refine ⟨Or.inr (Or.inr (Or.inr (Or.inl ⟨rfl, rfl⟩))), ?_⟩
      rw [w_uc_tag _ (by decide), w_uc_tag _ (by decide), w_uc_same]
      show _ = Sum.inr (1, [Value.int (upd (S.2 0) (q_np S) k (q_np S)), va_rf ((q_par (q_up1 (q_up1 (q_up2 S 0 (q_np S) k) 1 (q_np S) pp) 0 0 (q_np S + 1)) (q_np S)).map ((w_uA (w_uA (w_uA (w_uA A 2 (q_np S) q) 3 (q_np S) q0) 5 (q_np S) q1) 17 0 dd) 2)), .ref ((w_uA (w_uA (w_uA (w_uA A 2 (q_np S) q) 3 (q_np S) q0) 5 (q_np S) q1) 17 0 dd) 3 (q_np S)), .ref ((w_uA (w_uA (w_uA (w_uA A 2 (q_np S) q) 3 (q_np S) q0) 5 (q_np S) q1) 17 0 dd) 5 (q_np S))])
      rw [show upd (S.2 0) (q_np S) k (q_np S) = k from if_pos rfl, hrp, show (w_uA (w_uA (w_uA (w_uA A 2 (q_np S) q) 3 (q_np S) q0) 5 (q_np S) q1) 17 0 dd) 3 (q_np S) = _ from by rw [w_uA_tag _ (by decide), w_uA_tag _ (by decide), w_uA_same], show (w_uA (w_uA (w_uA (w_uA A 2 (q_np S) q) 3 (q_np S) q0) 5 (q_np S) q1) 17 0 dd) 5 (q_np S) = _ from by rw [w_uA_tag _ (by decide), w_uA_same], show rp.map ((w_uA (w_uA (w_uA (w_uA A 2 (q_np S) q) 3 (q_np S) q0) 5 (q_np S) q1) 17 0 dd) 2) = rp.map (A 2) from (w_par_c (fun x hx => (by rw [w_uA_tag _ (by decide), w_uA_tag _ (by decide), w_uA_tag _ (by decide), w_uA_ix _ (show ¬ x = q_np S from fun e9 => by have := hrl x hx; omega)])))]
    · have hold : w_lv S Sm 2 i := (show i < q_np S by omega)
      refine ⟨Or.inr (Or.inr (Or.inr (Or.inr (hold)))), ?_⟩
      rw [w_uc_tag _ (by decide), w_uc_tag _ (by decide), w_uc_ix _ hin, w_uc_tag _ (by decide), w_uc_tag _ (by decide), w_uc_ix _ hin]
      exact (w_t2x hin).trans (w_u2 (A := A) (B := (w_uA (w_uA (w_uA (w_uA A 2 (q_np S) q) 3 (q_np S) q0) 5 (q_np S) q1) 17 0 dd)) (S := q_up1 (q_up1 (q_up2 S 0 (q_np S) k) 1 (q_np S) pp) 0 0 (q_np S + 1)) (fun x hx => (by rw [w_uA_tag _ (by decide), w_uA_tag _ (by decide), w_uA_tag _ (by decide), w_uA_ix _ (show ¬ x = q_np S from fun e9 => by have := q_par_lt (show S.1 1 i ≤ i from hpar i (by omega)) ((q_par_np hin).trans hx); omega)])) (by rw [w_uA_tag _ (by decide), w_uA_tag _ (by decide), w_uA_ix _ hin, w_uA_tag _ (by decide)]) (by rw [w_uA_tag _ (by decide), w_uA_ix _ hin, w_uA_tag _ (by decide), w_uA_tag _ (by decide)]))
  · have hi : i < q_np S + 1 := hk
    by_cases hin : i = q_np S
    · subst hin
      refine ⟨Or.inr (Or.inr (Or.inl ⟨rfl, rfl⟩)), ?_⟩
      rw [w_uc_tag _ (by decide), w_uc_tag _ (by decide), w_uc_tag _ (by decide), w_uc_tag _ (by decide), w_uc_same]
      show g_L0 E = w_list E _ (q_on (q_up1 (q_up1 (q_up2 S 0 (q_np S) k) 1 (q_np S) pp) 0 0 (q_np S + 1)) (q_np S)).length
      rw [show q_on (q_up1 (q_up1 (q_up2 S 0 (q_np S) k) 1 (q_np S) pp) 0 0 (q_np S + 1)) (q_np S) = [] from (q_filtn (fun x hx => by show ¬ decide (q_home S x = q_np S) = true; rw [decide_eq_true_iff]; have := (hhome x hx).1; omega))]
      rfl
    · have hold : w_lv S Sm 3 i := (show i < q_np S by omega)
      refine ⟨Or.inr (Or.inr (Or.inr (Or.inr (hold)))), ?_⟩
      rw [w_uc_tag _ (by decide), w_uc_tag _ (by decide), w_uc_tag _ (by decide), w_uc_tag _ (by decide), w_uc_ix _ hin, w_uc_tag _ (by decide)]
      exact (w_t3 (S := S) (T := q_up1 (q_up1 (q_up2 S 0 (q_np S) k) 1 (q_np S) pp) 0 0 (q_np S + 1)) rfl rfl i).trans (w_u3 (A := A) (B := (w_uA (w_uA (w_uA (w_uA A 2 (q_np S) q) 3 (q_np S) q0) 5 (q_np S) q1) 17 0 dd)) (S := q_up1 (q_up1 (q_up2 S 0 (q_np S) k) 1 (q_np S) pp) 0 0 (q_np S + 1)) rfl)
  · have hi : i < q_np S + 1 := hk.1
    have hin : ¬ i = q_np S := fun e9 => hk.2 (by rw [e9]; exact (q_filtn (fun x hx => by show ¬ decide (q_home S x = q_np S) = true; rw [decide_eq_true_iff]; have := (hhome x hx).1; omega)))
    exact ⟨Or.inr (Or.inr (Or.inr (Or.inr ((show w_lv S Sm 4 i from ⟨show i < q_np S by omega, hk.2⟩))))), (w_t4 (S := S) (T := q_up1 (q_up1 (q_up2 S 0 (q_np S) k) 1 (q_np S) pp) 0 0 (q_np S + 1)) rfl rfl i).trans (w_u4 (A := A) (B := (w_uA (w_uA (w_uA (w_uA A 2 (q_np S) q) 3 (q_np S) q0) 5 (q_np S) q1) 17 0 dd)) (S := q_up1 (q_up1 (q_up2 S 0 (q_np S) k) 1 (q_np S) pp) 0 0 (q_np S + 1)) (fun _ _ => rfl))⟩
  · have hi : i < q_np S + 1 := hk
    by_cases hin : i = q_np S
    · subst hin
      refine ⟨Or.inr (Or.inl ⟨rfl, rfl⟩), ?_⟩
      rw [w_uc_tag _ (by decide), w_uc_tag _ (by decide), w_uc_tag _ (by decide), w_uc_same]
      show g_L0 E = w_list E _ (q_eon (q_up1 (q_up1 (q_up2 S 0 (q_np S) k) 1 (q_np S) pp) 0 0 (q_np S + 1)) (q_np S)).length
      rw [show q_eon (q_up1 (q_up1 (q_up2 S 0 (q_np S) k) 1 (q_np S) pp) 0 0 (q_np S + 1)) (q_np S) = [] from (q_filtn (fun x hx => by show ¬ decide (q_home S (S.1 5 x) = q_np S) = true; rw [decide_eq_true_iff]; have := (hhome _ (hact x hx)).1; omega))]
      rfl
    · have hold : w_lv S Sm 5 i := (show i < q_np S by omega)
      refine ⟨Or.inr (Or.inr (Or.inr (Or.inr (hold)))), ?_⟩
      rw [w_uc_tag _ (by decide), w_uc_tag _ (by decide), w_uc_tag _ (by decide), w_uc_ix _ hin, w_uc_tag _ (by decide), w_uc_tag _ (by decide)]
      exact (w_t5 (S := S) (T := q_up1 (q_up1 (q_up2 S 0 (q_np S) k) 1 (q_np S) pp) 0 0 (q_np S + 1)) rfl rfl rfl i).trans (w_u5 (A := A) (B := (w_uA (w_uA (w_uA (w_uA A 2 (q_np S) q) 3 (q_np S) q0) 5 (q_np S) q1) 17 0 dd)) (S := q_up1 (q_up1 (q_up2 S 0 (q_np S) k) 1 (q_np S) pp) 0 0 (q_np S + 1)) rfl)
  · have hi : i < q_np S + 1 := hk.1
    have hin : ¬ i = q_np S := fun e9 => hk.2 (by rw [e9]; exact (q_filtn (fun x hx => by show ¬ decide (q_home S (S.1 5 x) = q_np S) = true; rw [decide_eq_true_iff]; have := (hhome _ (hact x hx)).1; omega)))
    exact ⟨Or.inr (Or.inr (Or.inr (Or.inr ((show w_lv S Sm 6 i from ⟨show i < q_np S by omega, hk.2⟩))))), (w_t6 (S := S) (T := q_up1 (q_up1 (q_up2 S 0 (q_np S) k) 1 (q_np S) pp) 0 0 (q_np S + 1)) rfl rfl rfl i).trans (w_u6 (A := A) (B := (w_uA (w_uA (w_uA (w_uA A 2 (q_np S) q) 3 (q_np S) q0) 5 (q_np S) q1) 17 0 dd)) (S := q_up1 (q_up1 (q_up2 S 0 (q_np S) k) 1 (q_np S) pp) 0 0 (q_np S + 1)) (fun _ _ => rfl))⟩
  · exact ⟨Or.inr (Or.inr (Or.inr (Or.inr ((show w_lv S Sm 7 i from hk))))), (w_t7 (S := S) (T := q_up1 (q_up1 (q_up2 S 0 (q_np S) k) 1 (q_np S) pp) 0 0 (q_np S + 1)) rfl rfl i).trans (w_u7 (A := A) (B := (w_uA (w_uA (w_uA (w_uA A 2 (q_np S) q) 3 (q_np S) q0) 5 (q_np S) q1) 17 0 dd)) (S := q_up1 (q_up1 (q_up2 S 0 (q_np S) k) 1 (q_np S) pp) 0 0 (q_np S + 1)) (by show A 2 (q_home S i) = (w_uA (w_uA (w_uA (w_uA A 2 (q_np S) q) 3 (q_np S) q0) 5 (q_np S) q1) 17 0 dd) 2 (q_home S i); rw [w_uA_tag _ (by decide), w_uA_tag _ (by decide), w_uA_tag _ (by decide), w_uA_ix _ (show ¬ q_home S i = q_np S from fun e9 => by have := (hhome i hk).1; omega)]) rfl rfl rfl rfl)⟩
  · exact ⟨Or.inr (Or.inr (Or.inr (Or.inr ((show w_lv S Sm 8 i from hk))))), (w_t8 (S := S) (T := q_up1 (q_up1 (q_up2 S 0 (q_np S) k) 1 (q_np S) pp) 0 0 (q_np S + 1)) rfl i).trans (w_u8 (A := A) (B := (w_uA (w_uA (w_uA (w_uA A 2 (q_np S) q) 3 (q_np S) q0) 5 (q_np S) q1) 17 0 dd)) (S := q_up1 (q_up1 (q_up2 S 0 (q_np S) k) 1 (q_np S) pp) 0 0 (q_np S + 1)) )⟩
  · exact ⟨Or.inr (Or.inr (Or.inr (Or.inr ((show w_lv S Sm 9 i from hk))))), (w_t9 (S := S) (T := q_up1 (q_up1 (q_up2 S 0 (q_np S) k) 1 (q_np S) pp) 0 0 (q_np S + 1)) rfl i).trans (w_u9 (A := A) (B := (w_uA (w_uA (w_uA (w_uA A 2 (q_np S) q) 3 (q_np S) q0) 5 (q_np S) q1) 17 0 dd)) (S := q_up1 (q_up1 (q_up2 S 0 (q_np S) k) 1 (q_np S) pp) 0 0 (q_np S + 1)) )⟩
  · exact ⟨Or.inr (Or.inr (Or.inr (Or.inr ((show w_lv S Sm 10 i from hk))))), (w_t10 (S := S) (T := q_up1 (q_up1 (q_up2 S 0 (q_np S) k) 1 (q_np S) pp) 0 0 (q_np S + 1)) rfl i).trans (w_u10 (A := A) (B := (w_uA (w_uA (w_uA (w_uA A 2 (q_np S) q) 3 (q_np S) q0) 5 (q_np S) q1) 17 0 dd)) (S := q_up1 (q_up1 (q_up2 S 0 (q_np S) k) 1 (q_np S) pp) 0 0 (q_np S + 1)) rfl)⟩
  · exact ⟨Or.inr (Or.inr (Or.inr (Or.inr ((show w_lv S Sm 11 i from hk))))), (w_t11 (S := S) (T := q_up1 (q_up1 (q_up2 S 0 (q_np S) k) 1 (q_np S) pp) 0 0 (q_np S + 1)) rfl i).trans (w_u11 (A := A) (B := (w_uA (w_uA (w_uA (w_uA A 2 (q_np S) q) 3 (q_np S) q0) 5 (q_np S) q1) 17 0 dd)) (S := q_up1 (q_up1 (q_up2 S 0 (q_np S) k) 1 (q_np S) pp) 0 0 (q_np S + 1)) (fun _ _ => rfl))⟩
  · exact ⟨Or.inr (Or.inr (Or.inr (Or.inr ((show w_lv S Sm 12 i from hk))))), (w_t12 (S := S) (T := q_up1 (q_up1 (q_up2 S 0 (q_np S) k) 1 (q_np S) pp) 0 0 (q_np S + 1)) rfl rfl i).trans (w_u12 (A := A) (B := (w_uA (w_uA (w_uA (w_uA A 2 (q_np S) q) 3 (q_np S) q0) 5 (q_np S) q1) 17 0 dd)) (S := q_up1 (q_up1 (q_up2 S 0 (q_np S) k) 1 (q_np S) pp) 0 0 (q_np S + 1)) rfl)⟩
  · exact ⟨Or.inr (Or.inr (Or.inr (Or.inr ((show w_lv S Sm 13 i from hk))))), (w_t13 (S := S) (T := q_up1 (q_up1 (q_up2 S 0 (q_np S) k) 1 (q_np S) pp) 0 0 (q_np S + 1)) rfl rfl i).trans (w_u13 (A := A) (B := (w_uA (w_uA (w_uA (w_uA A 2 (q_np S) q) 3 (q_np S) q0) 5 (q_np S) q1) 17 0 dd)) (S := q_up1 (q_up1 (q_up2 S 0 (q_np S) k) 1 (q_np S) pp) 0 0 (q_np S + 1)) (fun _ _ => rfl))⟩
  · exact ⟨Or.inr (Or.inr (Or.inr (Or.inr ((show w_lv S Sm 14 i from hk))))), (w_t14 (S := S) (T := q_up1 (q_up1 (q_up2 S 0 (q_np S) k) 1 (q_np S) pp) 0 0 (q_np S + 1)) rfl rfl i).trans (w_u14 (A := A) (B := (w_uA (w_uA (w_uA (w_uA A 2 (q_np S) q) 3 (q_np S) q0) 5 (q_np S) q1) 17 0 dd)) (S := q_up1 (q_up1 (q_up2 S 0 (q_np S) k) 1 (q_np S) pp) 0 0 (q_np S + 1)) )⟩
  · exact ⟨Or.inr (Or.inr (Or.inr (Or.inr ((show w_lv S Sm 15 i from hk))))), (w_t15 (S := S) (T := q_up1 (q_up1 (q_up2 S 0 (q_np S) k) 1 (q_np S) pp) 0 0 (q_np S + 1)) ⟨rfl, rfl, rfl, rfl, rfl⟩ rfl rfl i).trans (w_u15 (A := A) (B := (w_uA (w_uA (w_uA (w_uA A 2 (q_np S) q) 3 (q_np S) q0) 5 (q_np S) q1) 17 0 dd)) (S := q_up1 (q_up1 (q_up2 S 0 (q_np S) k) 1 (q_np S) pp) 0 0 (q_np S + 1)) (by show A 2 (q_epage S i) = (w_uA (w_uA (w_uA (w_uA A 2 (q_np S) q) 3 (q_np S) q0) 5 (q_np S) q1) 17 0 dd) 2 (q_epage S i); rw [w_uA_tag _ (by decide), w_uA_tag _ (by decide), w_uA_tag _ (by decide), w_uA_ix _ (show ¬ q_epage S i = q_np S from fun e9 => by have : q_epage S i < q_np S := (hhome _ (hact i hk)).1; omega)]))⟩
  · obtain ⟨rfl, -⟩ := hk
    refine ⟨Or.inr (Or.inr (Or.inr (Or.inr ((show w_lv S Sm 16 0 from ⟨rfl, by decide⟩))))), ?_⟩
    show w_list E dd ((List.range (q_np S)).length + 1) = w_list E ((w_uA (w_uA (w_uA (w_uA A 2 (q_np S) q) 3 (q_np S) q0) 5 (q_np S) q1) 17 0 dd) 17 0) (List.range (q_np S + 1)).length
    rw [List.length_range, List.length_range]
    rfl
  · obtain ⟨rfl, -⟩ := hk
    refine ⟨Or.inl ⟨rfl, rfl⟩, ?_⟩
    show w_data E (List.range (q_np S) ++ [q_np S]) ((w_uA (w_uA (w_uA A 2 (q_np S) q) 3 (q_np S) q0) 5 (q_np S) q1) 2) = w_data E (List.range (q_np S + 1)) ((w_uA (w_uA (w_uA (w_uA A 2 (q_np S) q) 3 (q_np S) q0) 5 (q_np S) q1) 17 0 dd) 2)
    rw [List.range_succ]
    exact w_data_c (fun x hx => rfl)
  · obtain ⟨rfl, -⟩ := hk
    refine ⟨Or.inr (Or.inr (Or.inr (Or.inr ((show w_lv S Sm 18 0 from ⟨rfl, by decide⟩))))), ?_⟩
    show w_list E (A 19 0) (q_sl S).length = w_list E ((w_uA (w_uA (w_uA (w_uA A 2 (q_np S) q) 3 (q_np S) q0) 5 (q_np S) q1) 17 0 dd) 19 0) (q_sl (q_up1 (q_up1 (q_up2 S 0 (q_np S) k) 1 (q_np S) pp) 0 0 (q_np S + 1))).length
    rw [q_sl_pg hk2]
    rfl
  · have hk9 : i = 0 ∧ q_sl S ≠ [] := ⟨hk.1, fun e9 => hk.2 ((q_sl_pg hk2).trans e9)⟩
    obtain ⟨rfl, -⟩ := id hk9
    refine ⟨Or.inr (Or.inr (Or.inr (Or.inr ((show w_lv S Sm 19 0 from hk9))))), ?_⟩
    show w_data E (q_sl S) (A 2) = w_data E (q_sl (q_up1 (q_up1 (q_up2 S 0 (q_np S) k) 1 (q_np S) pp) 0 0 (q_np S + 1))) ((w_uA (w_uA (w_uA (w_uA A 2 (q_np S) q) 3 (q_np S) q0) 5 (q_np S) q1) 17 0 dd) 2)
    rw [q_sl_pg hk2]
    exact w_data_c (fun x hx => (by rw [w_uA_tag _ (by decide), w_uA_tag _ (by decide), w_uA_tag _ (by decide), w_uA_ix _ (show ¬ x = q_np S from fun e9 => by have := q_sl_lt hx; omega)]))
  · exact ⟨Or.inr (Or.inr (Or.inr (Or.inr ((show w_lv S Sm 20 i from hk))))), (w_t20 (S := S) (T := q_up1 (q_up1 (q_up2 S 0 (q_np S) k) 1 (q_np S) pp) 0 0 (q_np S + 1)) rfl i).trans (w_u20 (A := A) (B := (w_uA (w_uA (w_uA (w_uA A 2 (q_np S) q) 3 (q_np S) q0) 5 (q_np S) q1) 17 0 dd)) (S := q_up1 (q_up1 (q_up2 S 0 (q_np S) k) 1 (q_np S) pp) 0 0 (q_np S + 1)) rfl)⟩
  · exact ⟨Or.inr (Or.inr (Or.inr (Or.inr ((show w_lv S Sm 21 i from hk))))), (w_t21 (S := S) (T := q_up1 (q_up1 (q_up2 S 0 (q_np S) k) 1 (q_np S) pp) 0 0 (q_np S + 1)) rfl i).trans (w_u21 (A := A) (B := (w_uA (w_uA (w_uA (w_uA A 2 (q_np S) q) 3 (q_np S) q0) 5 (q_np S) q1) 17 0 dd)) (S := q_up1 (q_up1 (q_up2 S 0 (q_np S) k) 1 (q_np S) pp) 0 0 (q_np S + 1)) (fun _ _ => rfl))⟩
  · exact ⟨Or.inr (Or.inr (Or.inr (Or.inr ((show w_lv S Sm 22 i from hk))))), (w_t22 (S := S) (T := q_up1 (q_up1 (q_up2 S 0 (q_np S) k) 1 (q_np S) pp) 0 0 (q_np S + 1)) rfl i).trans (w_u22 (A := A) (B := (w_uA (w_uA (w_uA (w_uA A 2 (q_np S) q) 3 (q_np S) q0) 5 (q_np S) q1) 17 0 dd)) (S := q_up1 (q_up1 (q_up2 S 0 (q_np S) k) 1 (q_np S) pp) 0 0 (q_np S + 1)) rfl)⟩
  · exact ⟨Or.inr (Or.inr (Or.inr (Or.inr ((show w_lv S Sm 23 i from hk))))), (w_t23 (S := S) (T := q_up1 (q_up1 (q_up2 S 0 (q_np S) k) 1 (q_np S) pp) 0 0 (q_np S + 1)) rfl i).trans (w_u23 (A := A) (B := (w_uA (w_uA (w_uA (w_uA A 2 (q_np S) q) 3 (q_np S) q0) 5 (q_np S) q1) 17 0 dd)) (S := q_up1 (q_up1 (q_up2 S 0 (q_np S) k) 1 (q_np S) pp) 0 0 (q_np S + 1)) (fun _ _ => rfl))⟩
  · exact ⟨Or.inr (Or.inr (Or.inr (Or.inr ((show w_lv S Sm 24 i from hk))))), (w_t24 (S := S) (T := q_up1 (q_up1 (q_up2 S 0 (q_np S) k) 1 (q_np S) pp) 0 0 (q_np S + 1)) rfl i).trans (w_u24 (A := A) (B := (w_uA (w_uA (w_uA (w_uA A 2 (q_np S) q) 3 (q_np S) q0) 5 (q_np S) q1) 17 0 dd)) (S := q_up1 (q_up1 (q_up2 S 0 (q_np S) k) 1 (q_np S) pp) 0 0 (q_np S + 1)) rfl rfl rfl rfl)⟩
  · exact ⟨Or.inr (Or.inr (Or.inr (Or.inr ((show w_lv S Sm 25 i from hk))))), (w_t25 (S := S) (T := q_up1 (q_up1 (q_up2 S 0 (q_np S) k) 1 (q_np S) pp) 0 0 (q_np S + 1)) rfl i).trans (w_u25 (A := A) (B := (w_uA (w_uA (w_uA (w_uA A 2 (q_np S) q) 3 (q_np S) q0) 5 (q_np S) q1) 17 0 dd)) (S := q_up1 (q_up1 (q_up2 S 0 (q_np S) k) 1 (q_np S) pp) 0 0 (q_np S + 1)) )⟩
  · exact ⟨Or.inr (Or.inr (Or.inr (Or.inr ((show w_lv S Sm 26 i from hk))))), (w_t26 (S := S) (T := q_up1 (q_up1 (q_up2 S 0 (q_np S) k) 1 (q_np S) pp) 0 0 (q_np S + 1)) rfl i).trans (w_u26 (A := A) (B := (w_uA (w_uA (w_uA (w_uA A 2 (q_np S) q) 3 (q_np S) q0) 5 (q_np S) q1) 17 0 dd)) (S := q_up1 (q_up1 (q_up2 S 0 (q_np S) k) 1 (q_np S) pp) 0 0 (q_np S + 1)) )⟩
  · exact ⟨Or.inr (Or.inr (Or.inr (Or.inr ((show w_lv S Sm 27 i from hk))))), (w_t27 (S := S) (T := q_up1 (q_up1 (q_up2 S 0 (q_np S) k) 1 (q_np S) pp) 0 0 (q_np S + 1)) rfl i).trans (w_u27 (A := A) (B := (w_uA (w_uA (w_uA (w_uA A 2 (q_np S) q) 3 (q_np S) q0) 5 (q_np S) q1) 17 0 dd)) (S := q_up1 (q_up1 (q_up2 S 0 (q_np S) k) 1 (q_np S) pp) 0 0 (q_np S + 1)) )⟩
  · exact ⟨Or.inr (Or.inr (Or.inr (Or.inr ((show w_lv S Sm 28 i from hk))))), (w_t28 (S := S) (T := q_up1 (q_up1 (q_up2 S 0 (q_np S) k) 1 (q_np S) pp) 0 0 (q_np S + 1)) rfl i).trans (w_u28 (A := A) (B := (w_uA (w_uA (w_uA (w_uA A 2 (q_np S) q) 3 (q_np S) q0) 5 (q_np S) q1) 17 0 dd)) (S := q_up1 (q_up1 (q_up2 S 0 (q_np S) k) 1 (q_np S) pp) 0 0 (q_np S + 1)) )⟩
  · exact ⟨Or.inr (Or.inr (Or.inr (Or.inr ((show w_lv S Sm 29 i from hk))))), (w_t29 (S := S) (T := q_up1 (q_up1 (q_up2 S 0 (q_np S) k) 1 (q_np S) pp) 0 0 (q_np S + 1)) rfl i).trans (w_u29 (A := A) (B := (w_uA (w_uA (w_uA (w_uA A 2 (q_np S) q) 3 (q_np S) q0) 5 (q_np S) q1) 17 0 dd)) (S := q_up1 (q_up1 (q_up2 S 0 (q_np S) k) 1 (q_np S) pp) 0 0 (q_np S + 1)) )⟩
set_option maxRecDepth 100000 in
theorem w_pageS {E : g_E} {A : w_A} {S Sm : q_S} {h : g_H} (hB : w_B S) {pp q q0 q1 dd d2 : Nat} {rp : Option Nat} (hrp : q_par (q_up1 (q_up1 (q_up2 S 0 (q_np S) 2) 1 (q_np S) pp) 0 0 (q_np S + 1)) (q_np S) = rp) (hrl : ∀ x, rp = some x → x < q_np S) (hG : w_G E (w_uA (w_uA (w_uA (w_uA (w_uA A 2 (q_np S) q) 3 (q_np S) q0) 5 (q_np S) q1) 17 0 dd) 19 0 d2) (w_ul (w_ul (w_ul (w_ul (w_ul (w_lv S Sm) 2 (q_np S)) 3 (q_np S)) 5 (q_np S)) 17 0) 19 0) (w_uc (w_uc (w_uc (w_uc (w_uc (w_uc (w_uc (w_uc (w_uc (fun k i => w_cell E A (w_pk S Sm k) k i) 2 (q_np S) (.inr (1, [.int 0, .null, .null, .null]))) 3 (q_np S) (g_L0 E)) 5 (q_np S) (g_L0 E)) 2 (q_np S) (.inr (1, [.int 2, va_rf (rp.map (A 2)), .ref q0, .ref q1]))) 17 0 (w_data E (List.range (q_np S) ++ [q_np S]) ((w_uA (w_uA (w_uA A 2 (q_np S) q) 3 (q_np S) q0) 5 (q_np S) q1) 2))) 16 0 (w_list E dd ((List.range (q_np S)).length + 1))) 19 0 (w_data E (q_sl S ++ [q_np S]) ((w_uA (w_uA (w_uA (w_uA A 2 (q_np S) q) 3 (q_np S) q0) 5 (q_np S) q1) 17 0 dd) 2))) 18 0 (w_list E d2 ((q_sl S).length + 1))) 0 0 (.inr (0, [.ref (A 1 0), .ref (A 16 0), .ref (A 18 0), .ref (A 20 0), .ref (A 22 0), .ref (A 24 0), .int (nI (q_at S)), .int (nI (q_clicks S)), .int (q_time S)]))) h) : w_W E (w_uA (w_uA (w_uA (w_uA (w_uA A 2 (q_np S) q) 3 (q_np S) q0) 5 (q_np S) q1) 17 0 dd) 19 0 d2) (q_up1 (q_up1 (q_up2 S 0 (q_np S) 2) 1 (q_np S) pp) 0 0 (q_np S + 1)) Sm h := by
  obtain ⟨hnp, hns, hne, hpar, hhome, hact⟩ := id hB
  refine hG.fin (fun k i hk => ?_)
  by_cases hlt : k < 30
  case neg =>
    have h51 := w_ltag hk
    have hi := (w_lvM (by omega) h51 i).mp hk
    subst hi
    refine ⟨Or.inr (Or.inr (Or.inr (Or.inr (Or.inr ((w_lvM (by omega) h51 0).mpr rfl))))), ?_⟩
    rw [w_uc_tag _ (by omega), w_uc_tag _ (by omega), w_uc_tag _ (by omega), w_uc_tag _ (by omega), w_uc_tag _ (by omega), w_uc_tag _ (by omega), w_uc_tag _ (by omega), w_uc_tag _ (by omega), w_uc_tag _ (by omega)]
    show w_cell E A (w_pk S Sm k) k 0 = w_cell E _ (w_pk _ Sm k) k 0
    rw [w_pkM (by omega), w_pkM (by omega)]
    exact w_uM (fun t h1 h2 => by rw [w_uA_tag _ (by omega), w_uA_tag _ (by omega), w_uA_tag _ (by omega), w_uA_tag _ (by omega), w_uA_tag _ (by omega)]) (by omega) h51
  unfold w_lv at hk
  rw [w_pkC hlt] at hk ⊢
  rcases w_tagsC hlt with rfl | rfl | rfl | rfl | rfl | rfl | rfl | rfl | rfl | rfl | rfl | rfl | rfl | rfl | rfl | rfl | rfl | rfl | rfl | rfl | rfl | rfl | rfl | rfl | rfl | rfl | rfl | rfl | rfl | rfl
  · obtain ⟨rfl, -⟩ := hk
    refine ⟨Or.inr (Or.inr (Or.inr (Or.inr (Or.inr ((show w_lv S Sm 0 0 from ⟨rfl, by decide⟩)))))), ?_⟩
    rw [w_uc_same]
    show _ = Sum.inr (0, [Value.ref (A 1 0), .ref (A 16 0), .ref (A 18 0), .ref (A 20 0), .ref (A 22 0), .ref (A 24 0), .int (w_slideAt (q_up1 (q_up1 (q_up2 S 0 (q_np S) 2) 1 (q_np S) pp) 0 0 (q_np S + 1))), .int (nI (q_clicks S)), .int (q_time S)])
    rw [show w_slideAt (q_up1 (q_up1 (q_up2 S 0 (q_np S) 2) 1 (q_np S) pp) 0 0 (q_np S + 1)) = nI (q_at S) from by unfold w_slideAt; rw [q_sl_ps]; exact if_neg (fun e9 => by cases (List.append_eq_nil_iff.mp e9).2)]
  · exact ⟨Or.inr (Or.inr (Or.inr (Or.inr (Or.inr ((show w_lv S Sm 1 i from hk)))))), (w_t1 (S := S) (T := q_up1 (q_up1 (q_up2 S 0 (q_np S) 2) 1 (q_np S) pp) 0 0 (q_np S + 1)) rfl i).trans (w_u1 (A := A) (B := (w_uA (w_uA (w_uA (w_uA (w_uA A 2 (q_np S) q) 3 (q_np S) q0) 5 (q_np S) q1) 17 0 dd) 19 0 d2)) (S := q_up1 (q_up1 (q_up2 S 0 (q_np S) 2) 1 (q_np S) pp) 0 0 (q_np S + 1)) )⟩
  · have hi : i < q_np S + 1 := hk
    by_cases hin : i = q_np S
    · subst hin
      refine ⟨Or.inr (Or.inr (Or.inr (Or.inr (Or.inl ⟨rfl, rfl⟩)))), ?_⟩
      rw [w_uc_tag _ (by decide), w_uc_tag _ (by decide), w_uc_tag _ (by decide), w_uc_tag _ (by decide), w_uc_tag _ (by decide), w_uc_same]
      show _ = Sum.inr (1, [Value.int (upd (S.2 0) (q_np S) 2 (q_np S)), va_rf ((q_par (q_up1 (q_up1 (q_up2 S 0 (q_np S) 2) 1 (q_np S) pp) 0 0 (q_np S + 1)) (q_np S)).map ((w_uA (w_uA (w_uA (w_uA (w_uA A 2 (q_np S) q) 3 (q_np S) q0) 5 (q_np S) q1) 17 0 dd) 19 0 d2) 2)), .ref ((w_uA (w_uA (w_uA (w_uA (w_uA A 2 (q_np S) q) 3 (q_np S) q0) 5 (q_np S) q1) 17 0 dd) 19 0 d2) 3 (q_np S)), .ref ((w_uA (w_uA (w_uA (w_uA (w_uA A 2 (q_np S) q) 3 (q_np S) q0) 5 (q_np S) q1) 17 0 dd) 19 0 d2) 5 (q_np S))])
      rw [show upd (S.2 0) (q_np S) 2 (q_np S) = 2 from if_pos rfl, hrp, show (w_uA (w_uA (w_uA (w_uA (w_uA A 2 (q_np S) q) 3 (q_np S) q0) 5 (q_np S) q1) 17 0 dd) 19 0 d2) 3 (q_np S) = _ from by rw [w_uA_tag _ (by decide), w_uA_tag _ (by decide), w_uA_tag _ (by decide), w_uA_same], show (w_uA (w_uA (w_uA (w_uA (w_uA A 2 (q_np S) q) 3 (q_np S) q0) 5 (q_np S) q1) 17 0 dd) 19 0 d2) 5 (q_np S) = _ from by rw [w_uA_tag _ (by decide), w_uA_tag _ (by decide), w_uA_same], show rp.map ((w_uA (w_uA (w_uA (w_uA (w_uA A 2 (q_np S) q) 3 (q_np S) q0) 5 (q_np S) q1) 17 0 dd) 19 0 d2) 2) = rp.map (A 2) from (w_par_c (fun x hx => (by rw [w_uA_tag _ (by decide), w_uA_tag _ (by decide), w_uA_tag _ (by decide), w_uA_tag _ (by decide), w_uA_ix _ (show ¬ x = q_np S from fun e9 => by have := hrl x hx; omega)])))]
    · have hold : w_lv S Sm 2 i := (show i < q_np S by omega)
      refine ⟨Or.inr (Or.inr (Or.inr (Or.inr (Or.inr (hold))))), ?_⟩
      rw [w_uc_tag _ (by decide), w_uc_tag _ (by decide), w_uc_tag _ (by decide), w_uc_tag _ (by decide), w_uc_tag _ (by decide), w_uc_ix _ hin, w_uc_tag _ (by decide), w_uc_tag _ (by decide), w_uc_ix _ hin]
      exact (w_t2x hin).trans (w_u2 (A := A) (B := (w_uA (w_uA (w_uA (w_uA (w_uA A 2 (q_np S) q) 3 (q_np S) q0) 5 (q_np S) q1) 17 0 dd) 19 0 d2)) (S := q_up1 (q_up1 (q_up2 S 0 (q_np S) 2) 1 (q_np S) pp) 0 0 (q_np S + 1)) (fun x hx => (by rw [w_uA_tag _ (by decide), w_uA_tag _ (by decide), w_uA_tag _ (by decide), w_uA_tag _ (by decide), w_uA_ix _ (show ¬ x = q_np S from fun e9 => by have := q_par_lt (show S.1 1 i ≤ i from hpar i (by omega)) ((q_par_np hin).trans hx); omega)])) (by rw [w_uA_tag _ (by decide), w_uA_tag _ (by decide), w_uA_tag _ (by decide), w_uA_ix _ hin, w_uA_tag _ (by decide)]) (by rw [w_uA_tag _ (by decide), w_uA_tag _ (by decide), w_uA_ix _ hin, w_uA_tag _ (by decide), w_uA_tag _ (by decide)]))
  · have hi : i < q_np S + 1 := hk
    by_cases hin : i = q_np S
    · subst hin
      refine ⟨Or.inr (Or.inr (Or.inr (Or.inl ⟨rfl, rfl⟩))), ?_⟩
      rw [w_uc_tag _ (by decide), w_uc_tag _ (by decide), w_uc_tag _ (by decide), w_uc_tag _ (by decide), w_uc_tag _ (by decide), w_uc_tag _ (by decide), w_uc_tag _ (by decide), w_uc_same]
      show g_L0 E = w_list E _ (q_on (q_up1 (q_up1 (q_up2 S 0 (q_np S) 2) 1 (q_np S) pp) 0 0 (q_np S + 1)) (q_np S)).length
      rw [show q_on (q_up1 (q_up1 (q_up2 S 0 (q_np S) 2) 1 (q_np S) pp) 0 0 (q_np S + 1)) (q_np S) = [] from (q_filtn (fun x hx => by show ¬ decide (q_home S x = q_np S) = true; rw [decide_eq_true_iff]; have := (hhome x hx).1; omega))]
      rfl
    · have hold : w_lv S Sm 3 i := (show i < q_np S by omega)
      refine ⟨Or.inr (Or.inr (Or.inr (Or.inr (Or.inr (hold))))), ?_⟩
      rw [w_uc_tag _ (by decide), w_uc_tag _ (by decide), w_uc_tag _ (by decide), w_uc_tag _ (by decide), w_uc_tag _ (by decide), w_uc_tag _ (by decide), w_uc_tag _ (by decide), w_uc_ix _ hin, w_uc_tag _ (by decide)]
      exact (w_t3 (S := S) (T := q_up1 (q_up1 (q_up2 S 0 (q_np S) 2) 1 (q_np S) pp) 0 0 (q_np S + 1)) rfl rfl i).trans (w_u3 (A := A) (B := (w_uA (w_uA (w_uA (w_uA (w_uA A 2 (q_np S) q) 3 (q_np S) q0) 5 (q_np S) q1) 17 0 dd) 19 0 d2)) (S := q_up1 (q_up1 (q_up2 S 0 (q_np S) 2) 1 (q_np S) pp) 0 0 (q_np S + 1)) rfl)
  · have hi : i < q_np S + 1 := hk.1
    have hin : ¬ i = q_np S := fun e9 => hk.2 (by rw [e9]; exact (q_filtn (fun x hx => by show ¬ decide (q_home S x = q_np S) = true; rw [decide_eq_true_iff]; have := (hhome x hx).1; omega)))
    exact ⟨Or.inr (Or.inr (Or.inr (Or.inr (Or.inr ((show w_lv S Sm 4 i from ⟨show i < q_np S by omega, hk.2⟩)))))), (w_t4 (S := S) (T := q_up1 (q_up1 (q_up2 S 0 (q_np S) 2) 1 (q_np S) pp) 0 0 (q_np S + 1)) rfl rfl i).trans (w_u4 (A := A) (B := (w_uA (w_uA (w_uA (w_uA (w_uA A 2 (q_np S) q) 3 (q_np S) q0) 5 (q_np S) q1) 17 0 dd) 19 0 d2)) (S := q_up1 (q_up1 (q_up2 S 0 (q_np S) 2) 1 (q_np S) pp) 0 0 (q_np S + 1)) (fun _ _ => rfl))⟩
  · have hi : i < q_np S + 1 := hk
    by_cases hin : i = q_np S
    · subst hin
      refine ⟨Or.inr (Or.inr (Or.inl ⟨rfl, rfl⟩)), ?_⟩
      rw [w_uc_tag _ (by decide), w_uc_tag _ (by decide), w_uc_tag _ (by decide), w_uc_tag _ (by decide), w_uc_tag _ (by decide), w_uc_tag _ (by decide), w_uc_same]
      show g_L0 E = w_list E _ (q_eon (q_up1 (q_up1 (q_up2 S 0 (q_np S) 2) 1 (q_np S) pp) 0 0 (q_np S + 1)) (q_np S)).length
      rw [show q_eon (q_up1 (q_up1 (q_up2 S 0 (q_np S) 2) 1 (q_np S) pp) 0 0 (q_np S + 1)) (q_np S) = [] from (q_filtn (fun x hx => by show ¬ decide (q_home S (S.1 5 x) = q_np S) = true; rw [decide_eq_true_iff]; have := (hhome _ (hact x hx)).1; omega))]
      rfl
    · have hold : w_lv S Sm 5 i := (show i < q_np S by omega)
      refine ⟨Or.inr (Or.inr (Or.inr (Or.inr (Or.inr (hold))))), ?_⟩
      rw [w_uc_tag _ (by decide), w_uc_tag _ (by decide), w_uc_tag _ (by decide), w_uc_tag _ (by decide), w_uc_tag _ (by decide), w_uc_tag _ (by decide), w_uc_ix _ hin, w_uc_tag _ (by decide), w_uc_tag _ (by decide)]
      exact (w_t5 (S := S) (T := q_up1 (q_up1 (q_up2 S 0 (q_np S) 2) 1 (q_np S) pp) 0 0 (q_np S + 1)) rfl rfl rfl i).trans (w_u5 (A := A) (B := (w_uA (w_uA (w_uA (w_uA (w_uA A 2 (q_np S) q) 3 (q_np S) q0) 5 (q_np S) q1) 17 0 dd) 19 0 d2)) (S := q_up1 (q_up1 (q_up2 S 0 (q_np S) 2) 1 (q_np S) pp) 0 0 (q_np S + 1)) rfl)
  · have hi : i < q_np S + 1 := hk.1
    have hin : ¬ i = q_np S := fun e9 => hk.2 (by rw [e9]; exact (q_filtn (fun x hx => by show ¬ decide (q_home S (S.1 5 x) = q_np S) = true; rw [decide_eq_true_iff]; have := (hhome _ (hact x hx)).1; omega)))
    exact ⟨Or.inr (Or.inr (Or.inr (Or.inr (Or.inr ((show w_lv S Sm 6 i from ⟨show i < q_np S by omega, hk.2⟩)))))), (w_t6 (S := S) (T := q_up1 (q_up1 (q_up2 S 0 (q_np S) 2) 1 (q_np S) pp) 0 0 (q_np S + 1)) rfl rfl rfl i).trans (w_u6 (A := A) (B := (w_uA (w_uA (w_uA (w_uA (w_uA A 2 (q_np S) q) 3 (q_np S) q0) 5 (q_np S) q1) 17 0 dd) 19 0 d2)) (S := q_up1 (q_up1 (q_up2 S 0 (q_np S) 2) 1 (q_np S) pp) 0 0 (q_np S + 1)) (fun _ _ => rfl))⟩
  · exact ⟨Or.inr (Or.inr (Or.inr (Or.inr (Or.inr ((show w_lv S Sm 7 i from hk)))))), (w_t7 (S := S) (T := q_up1 (q_up1 (q_up2 S 0 (q_np S) 2) 1 (q_np S) pp) 0 0 (q_np S + 1)) rfl rfl i).trans (w_u7 (A := A) (B := (w_uA (w_uA (w_uA (w_uA (w_uA A 2 (q_np S) q) 3 (q_np S) q0) 5 (q_np S) q1) 17 0 dd) 19 0 d2)) (S := q_up1 (q_up1 (q_up2 S 0 (q_np S) 2) 1 (q_np S) pp) 0 0 (q_np S + 1)) (by show A 2 (q_home S i) = (w_uA (w_uA (w_uA (w_uA (w_uA A 2 (q_np S) q) 3 (q_np S) q0) 5 (q_np S) q1) 17 0 dd) 19 0 d2) 2 (q_home S i); rw [w_uA_tag _ (by decide), w_uA_tag _ (by decide), w_uA_tag _ (by decide), w_uA_tag _ (by decide), w_uA_ix _ (show ¬ q_home S i = q_np S from fun e9 => by have := (hhome i hk).1; omega)]) rfl rfl rfl rfl)⟩
  · exact ⟨Or.inr (Or.inr (Or.inr (Or.inr (Or.inr ((show w_lv S Sm 8 i from hk)))))), (w_t8 (S := S) (T := q_up1 (q_up1 (q_up2 S 0 (q_np S) 2) 1 (q_np S) pp) 0 0 (q_np S + 1)) rfl i).trans (w_u8 (A := A) (B := (w_uA (w_uA (w_uA (w_uA (w_uA A 2 (q_np S) q) 3 (q_np S) q0) 5 (q_np S) q1) 17 0 dd) 19 0 d2)) (S := q_up1 (q_up1 (q_up2 S 0 (q_np S) 2) 1 (q_np S) pp) 0 0 (q_np S + 1)) )⟩
  · exact ⟨Or.inr (Or.inr (Or.inr (Or.inr (Or.inr ((show w_lv S Sm 9 i from hk)))))), (w_t9 (S := S) (T := q_up1 (q_up1 (q_up2 S 0 (q_np S) 2) 1 (q_np S) pp) 0 0 (q_np S + 1)) rfl i).trans (w_u9 (A := A) (B := (w_uA (w_uA (w_uA (w_uA (w_uA A 2 (q_np S) q) 3 (q_np S) q0) 5 (q_np S) q1) 17 0 dd) 19 0 d2)) (S := q_up1 (q_up1 (q_up2 S 0 (q_np S) 2) 1 (q_np S) pp) 0 0 (q_np S + 1)) )⟩
  · exact ⟨Or.inr (Or.inr (Or.inr (Or.inr (Or.inr ((show w_lv S Sm 10 i from hk)))))), (w_t10 (S := S) (T := q_up1 (q_up1 (q_up2 S 0 (q_np S) 2) 1 (q_np S) pp) 0 0 (q_np S + 1)) rfl i).trans (w_u10 (A := A) (B := (w_uA (w_uA (w_uA (w_uA (w_uA A 2 (q_np S) q) 3 (q_np S) q0) 5 (q_np S) q1) 17 0 dd) 19 0 d2)) (S := q_up1 (q_up1 (q_up2 S 0 (q_np S) 2) 1 (q_np S) pp) 0 0 (q_np S + 1)) rfl)⟩
  · exact ⟨Or.inr (Or.inr (Or.inr (Or.inr (Or.inr ((show w_lv S Sm 11 i from hk)))))), (w_t11 (S := S) (T := q_up1 (q_up1 (q_up2 S 0 (q_np S) 2) 1 (q_np S) pp) 0 0 (q_np S + 1)) rfl i).trans (w_u11 (A := A) (B := (w_uA (w_uA (w_uA (w_uA (w_uA A 2 (q_np S) q) 3 (q_np S) q0) 5 (q_np S) q1) 17 0 dd) 19 0 d2)) (S := q_up1 (q_up1 (q_up2 S 0 (q_np S) 2) 1 (q_np S) pp) 0 0 (q_np S + 1)) (fun _ _ => rfl))⟩
  · exact ⟨Or.inr (Or.inr (Or.inr (Or.inr (Or.inr ((show w_lv S Sm 12 i from hk)))))), (w_t12 (S := S) (T := q_up1 (q_up1 (q_up2 S 0 (q_np S) 2) 1 (q_np S) pp) 0 0 (q_np S + 1)) rfl rfl i).trans (w_u12 (A := A) (B := (w_uA (w_uA (w_uA (w_uA (w_uA A 2 (q_np S) q) 3 (q_np S) q0) 5 (q_np S) q1) 17 0 dd) 19 0 d2)) (S := q_up1 (q_up1 (q_up2 S 0 (q_np S) 2) 1 (q_np S) pp) 0 0 (q_np S + 1)) rfl)⟩
  · exact ⟨Or.inr (Or.inr (Or.inr (Or.inr (Or.inr ((show w_lv S Sm 13 i from hk)))))), (w_t13 (S := S) (T := q_up1 (q_up1 (q_up2 S 0 (q_np S) 2) 1 (q_np S) pp) 0 0 (q_np S + 1)) rfl rfl i).trans (w_u13 (A := A) (B := (w_uA (w_uA (w_uA (w_uA (w_uA A 2 (q_np S) q) 3 (q_np S) q0) 5 (q_np S) q1) 17 0 dd) 19 0 d2)) (S := q_up1 (q_up1 (q_up2 S 0 (q_np S) 2) 1 (q_np S) pp) 0 0 (q_np S + 1)) (fun _ _ => rfl))⟩
  · exact ⟨Or.inr (Or.inr (Or.inr (Or.inr (Or.inr ((show w_lv S Sm 14 i from hk)))))), (w_t14 (S := S) (T := q_up1 (q_up1 (q_up2 S 0 (q_np S) 2) 1 (q_np S) pp) 0 0 (q_np S + 1)) rfl rfl i).trans (w_u14 (A := A) (B := (w_uA (w_uA (w_uA (w_uA (w_uA A 2 (q_np S) q) 3 (q_np S) q0) 5 (q_np S) q1) 17 0 dd) 19 0 d2)) (S := q_up1 (q_up1 (q_up2 S 0 (q_np S) 2) 1 (q_np S) pp) 0 0 (q_np S + 1)) )⟩
  · exact ⟨Or.inr (Or.inr (Or.inr (Or.inr (Or.inr ((show w_lv S Sm 15 i from hk)))))), (w_t15 (S := S) (T := q_up1 (q_up1 (q_up2 S 0 (q_np S) 2) 1 (q_np S) pp) 0 0 (q_np S + 1)) ⟨rfl, rfl, rfl, rfl, rfl⟩ rfl rfl i).trans (w_u15 (A := A) (B := (w_uA (w_uA (w_uA (w_uA (w_uA A 2 (q_np S) q) 3 (q_np S) q0) 5 (q_np S) q1) 17 0 dd) 19 0 d2)) (S := q_up1 (q_up1 (q_up2 S 0 (q_np S) 2) 1 (q_np S) pp) 0 0 (q_np S + 1)) (by show A 2 (q_epage S i) = (w_uA (w_uA (w_uA (w_uA (w_uA A 2 (q_np S) q) 3 (q_np S) q0) 5 (q_np S) q1) 17 0 dd) 19 0 d2) 2 (q_epage S i); rw [w_uA_tag _ (by decide), w_uA_tag _ (by decide), w_uA_tag _ (by decide), w_uA_tag _ (by decide), w_uA_ix _ (show ¬ q_epage S i = q_np S from fun e9 => by have : q_epage S i < q_np S := (hhome _ (hact i hk)).1; omega)]))⟩
  · obtain ⟨rfl, -⟩ := hk
    refine ⟨Or.inr (Or.inr (Or.inr (Or.inr (Or.inr ((show w_lv S Sm 16 0 from ⟨rfl, by decide⟩)))))), ?_⟩
    show w_list E dd ((List.range (q_np S)).length + 1) = w_list E ((w_uA (w_uA (w_uA (w_uA (w_uA A 2 (q_np S) q) 3 (q_np S) q0) 5 (q_np S) q1) 17 0 dd) 19 0 d2) 17 0) (List.range (q_np S + 1)).length
    rw [List.length_range, List.length_range]
    rfl
  · obtain ⟨rfl, -⟩ := hk
    refine ⟨Or.inr (Or.inl ⟨rfl, rfl⟩), ?_⟩
    show w_data E (List.range (q_np S) ++ [q_np S]) ((w_uA (w_uA (w_uA A 2 (q_np S) q) 3 (q_np S) q0) 5 (q_np S) q1) 2) = w_data E (List.range (q_np S + 1)) ((w_uA (w_uA (w_uA (w_uA (w_uA A 2 (q_np S) q) 3 (q_np S) q0) 5 (q_np S) q1) 17 0 dd) 19 0 d2) 2)
    rw [List.range_succ]
    exact w_data_c (fun x hx => rfl)
  · obtain ⟨rfl, -⟩ := hk
    refine ⟨Or.inr (Or.inr (Or.inr (Or.inr (Or.inr ((show w_lv S Sm 18 0 from ⟨rfl, by decide⟩)))))), ?_⟩
    show w_list E d2 ((q_sl S).length + 1) = w_list E ((w_uA (w_uA (w_uA (w_uA (w_uA A 2 (q_np S) q) 3 (q_np S) q0) 5 (q_np S) q1) 17 0 dd) 19 0 d2) 19 0) (q_sl (q_up1 (q_up1 (q_up2 S 0 (q_np S) 2) 1 (q_np S) pp) 0 0 (q_np S + 1))).length
    rw [q_sl_ps, show (q_sl S ++ [q_np S]).length = (q_sl S).length + 1 by simp]
    rfl
  · obtain ⟨rfl, -⟩ := hk
    refine ⟨Or.inl ⟨rfl, rfl⟩, ?_⟩
    show w_data E (q_sl S ++ [q_np S]) ((w_uA (w_uA (w_uA (w_uA A 2 (q_np S) q) 3 (q_np S) q0) 5 (q_np S) q1) 17 0 dd) 2) = w_data E (q_sl (q_up1 (q_up1 (q_up2 S 0 (q_np S) 2) 1 (q_np S) pp) 0 0 (q_np S + 1))) ((w_uA (w_uA (w_uA (w_uA (w_uA A 2 (q_np S) q) 3 (q_np S) q0) 5 (q_np S) q1) 17 0 dd) 19 0 d2) 2)
    rw [q_sl_ps]
    exact w_data_c (fun x hx => rfl)
  · exact ⟨Or.inr (Or.inr (Or.inr (Or.inr (Or.inr ((show w_lv S Sm 20 i from hk)))))), (w_t20 (S := S) (T := q_up1 (q_up1 (q_up2 S 0 (q_np S) 2) 1 (q_np S) pp) 0 0 (q_np S + 1)) rfl i).trans (w_u20 (A := A) (B := (w_uA (w_uA (w_uA (w_uA (w_uA A 2 (q_np S) q) 3 (q_np S) q0) 5 (q_np S) q1) 17 0 dd) 19 0 d2)) (S := q_up1 (q_up1 (q_up2 S 0 (q_np S) 2) 1 (q_np S) pp) 0 0 (q_np S + 1)) rfl)⟩
  · exact ⟨Or.inr (Or.inr (Or.inr (Or.inr (Or.inr ((show w_lv S Sm 21 i from hk)))))), (w_t21 (S := S) (T := q_up1 (q_up1 (q_up2 S 0 (q_np S) 2) 1 (q_np S) pp) 0 0 (q_np S + 1)) rfl i).trans (w_u21 (A := A) (B := (w_uA (w_uA (w_uA (w_uA (w_uA A 2 (q_np S) q) 3 (q_np S) q0) 5 (q_np S) q1) 17 0 dd) 19 0 d2)) (S := q_up1 (q_up1 (q_up2 S 0 (q_np S) 2) 1 (q_np S) pp) 0 0 (q_np S + 1)) (fun _ _ => rfl))⟩
  · exact ⟨Or.inr (Or.inr (Or.inr (Or.inr (Or.inr ((show w_lv S Sm 22 i from hk)))))), (w_t22 (S := S) (T := q_up1 (q_up1 (q_up2 S 0 (q_np S) 2) 1 (q_np S) pp) 0 0 (q_np S + 1)) rfl i).trans (w_u22 (A := A) (B := (w_uA (w_uA (w_uA (w_uA (w_uA A 2 (q_np S) q) 3 (q_np S) q0) 5 (q_np S) q1) 17 0 dd) 19 0 d2)) (S := q_up1 (q_up1 (q_up2 S 0 (q_np S) 2) 1 (q_np S) pp) 0 0 (q_np S + 1)) rfl)⟩
  · exact ⟨Or.inr (Or.inr (Or.inr (Or.inr (Or.inr ((show w_lv S Sm 23 i from hk)))))), (w_t23 (S := S) (T := q_up1 (q_up1 (q_up2 S 0 (q_np S) 2) 1 (q_np S) pp) 0 0 (q_np S + 1)) rfl i).trans (w_u23 (A := A) (B := (w_uA (w_uA (w_uA (w_uA (w_uA A 2 (q_np S) q) 3 (q_np S) q0) 5 (q_np S) q1) 17 0 dd) 19 0 d2)) (S := q_up1 (q_up1 (q_up2 S 0 (q_np S) 2) 1 (q_np S) pp) 0 0 (q_np S + 1)) (fun _ _ => rfl))⟩
  · exact ⟨Or.inr (Or.inr (Or.inr (Or.inr (Or.inr ((show w_lv S Sm 24 i from hk)))))), (w_t24 (S := S) (T := q_up1 (q_up1 (q_up2 S 0 (q_np S) 2) 1 (q_np S) pp) 0 0 (q_np S + 1)) rfl i).trans (w_u24 (A := A) (B := (w_uA (w_uA (w_uA (w_uA (w_uA A 2 (q_np S) q) 3 (q_np S) q0) 5 (q_np S) q1) 17 0 dd) 19 0 d2)) (S := q_up1 (q_up1 (q_up2 S 0 (q_np S) 2) 1 (q_np S) pp) 0 0 (q_np S + 1)) rfl rfl rfl rfl)⟩
  · exact ⟨Or.inr (Or.inr (Or.inr (Or.inr (Or.inr ((show w_lv S Sm 25 i from hk)))))), (w_t25 (S := S) (T := q_up1 (q_up1 (q_up2 S 0 (q_np S) 2) 1 (q_np S) pp) 0 0 (q_np S + 1)) rfl i).trans (w_u25 (A := A) (B := (w_uA (w_uA (w_uA (w_uA (w_uA A 2 (q_np S) q) 3 (q_np S) q0) 5 (q_np S) q1) 17 0 dd) 19 0 d2)) (S := q_up1 (q_up1 (q_up2 S 0 (q_np S) 2) 1 (q_np S) pp) 0 0 (q_np S + 1)) )⟩
  · exact ⟨Or.inr (Or.inr (Or.inr (Or.inr (Or.inr ((show w_lv S Sm 26 i from hk)))))), (w_t26 (S := S) (T := q_up1 (q_up1 (q_up2 S 0 (q_np S) 2) 1 (q_np S) pp) 0 0 (q_np S + 1)) rfl i).trans (w_u26 (A := A) (B := (w_uA (w_uA (w_uA (w_uA (w_uA A 2 (q_np S) q) 3 (q_np S) q0) 5 (q_np S) q1) 17 0 dd) 19 0 d2)) (S := q_up1 (q_up1 (q_up2 S 0 (q_np S) 2) 1 (q_np S) pp) 0 0 (q_np S + 1)) )⟩
  · exact ⟨Or.inr (Or.inr (Or.inr (Or.inr (Or.inr ((show w_lv S Sm 27 i from hk)))))), (w_t27 (S := S) (T := q_up1 (q_up1 (q_up2 S 0 (q_np S) 2) 1 (q_np S) pp) 0 0 (q_np S + 1)) rfl i).trans (w_u27 (A := A) (B := (w_uA (w_uA (w_uA (w_uA (w_uA A 2 (q_np S) q) 3 (q_np S) q0) 5 (q_np S) q1) 17 0 dd) 19 0 d2)) (S := q_up1 (q_up1 (q_up2 S 0 (q_np S) 2) 1 (q_np S) pp) 0 0 (q_np S + 1)) )⟩
  · exact ⟨Or.inr (Or.inr (Or.inr (Or.inr (Or.inr ((show w_lv S Sm 28 i from hk)))))), (w_t28 (S := S) (T := q_up1 (q_up1 (q_up2 S 0 (q_np S) 2) 1 (q_np S) pp) 0 0 (q_np S + 1)) rfl i).trans (w_u28 (A := A) (B := (w_uA (w_uA (w_uA (w_uA (w_uA A 2 (q_np S) q) 3 (q_np S) q0) 5 (q_np S) q1) 17 0 dd) 19 0 d2)) (S := q_up1 (q_up1 (q_up2 S 0 (q_np S) 2) 1 (q_np S) pp) 0 0 (q_np S + 1)) )⟩
  · exact ⟨Or.inr (Or.inr (Or.inr (Or.inr (Or.inr ((show w_lv S Sm 29 i from hk)))))), (w_t29 (S := S) (T := q_up1 (q_up1 (q_up2 S 0 (q_np S) 2) 1 (q_np S) pp) 0 0 (q_np S + 1)) rfl i).trans (w_u29 (A := A) (B := (w_uA (w_uA (w_uA (w_uA (w_uA A 2 (q_np S) q) 3 (q_np S) q0) 5 (q_np S) q1) 17 0 dd) 19 0 d2)) (S := q_up1 (q_up1 (q_up2 S 0 (q_np S) 2) 1 (q_np S) pp) 0 0 (q_np S + 1)) )⟩
theorem q_on_lt {S : q_S} {p x : Nat} (h : x ∈ q_on S p) : x < q_ns S := List.mem_range.mp (List.mem_filter.mp h).1
theorem q_on_sh {S : q_S} {p : Nat} {s : Int32} (i : Nat) : q_on (q_up1 (q_up1 (q_up2 (q_up1 S 2 (q_ns S) p) 1 (q_ns S) s) 3 (q_ns S) 0) 0 1 (q_ns S + 1)) i = q_on S i ++ (if p = i then [q_ns S] else []) := by
  show (List.range (q_ns S + 1)).filter (fun k => decide (q_updN (S.1 2) (q_ns S) p k = i)) = (List.range (q_ns S)).filter (fun k => decide (S.1 2 k = i)) ++ _
  rw [q_filt (g := fun k => decide (S.1 2 k = i)) (fun k hk => by rw [show q_updN (S.1 2) (q_ns S) p k = S.1 2 k from if_neg (by omega)]), show q_updN (S.1 2) (q_ns S) p (q_ns S) = p from if_pos rfl]
  congr 1
  by_cases h : p = i
  · rw [if_pos h, if_pos (decide_eq_true_iff.mpr h)]
  · rw [if_neg h, if_neg (fun q => h (decide_eq_true_iff.mp q))]
theorem q_ept_sh {S : q_S} {p : Nat} {s : Int32} (hB : w_B S) {e : Nat} (he : e < q_ne S) : q_ept S (q_up1 (q_up1 (q_up2 (q_up1 S 2 (q_ns S) p) 1 (q_ns S) s) 3 (q_ns S) 0) 0 1 (q_ns S + 1)) e := by
  have h1 := hB.2.2.2.2.2 e he
  exact ⟨(show q_updN (S.1 2) (q_ns S) p (S.1 5 e) = S.1 2 (S.1 5 e) from if_neg (by omega)).symm, rfl, rfl, rfl⟩
theorem q_eon_sh {S : q_S} {p : Nat} {s : Int32} (hB : w_B S) (i : Nat) : q_eon S i = q_eon (q_up1 (q_up1 (q_up2 (q_up1 S 2 (q_ns S) p) 1 (q_ns S) s) 3 (q_ns S) 0) 0 1 (q_ns S + 1)) i := by
  exact q_filt0 (fun e he => by rw [show q_home S (S.1 5 e) = q_home (q_up1 (q_up1 (q_up2 (q_up1 S 2 (q_ns S) p) 1 (q_ns S) s) 3 (q_ns S) 0) 0 1 (q_ns S + 1)) ((q_up1 (q_up1 (q_up2 (q_up1 S 2 (q_ns S) p) 1 (q_ns S) s) 3 (q_ns S) 0) 0 1 (q_ns S + 1)).1 5 e) from (q_ept_sh hB he).1])
theorem w_t7x {E : g_E} {A : w_A} {S : q_S} {p : Nat} {s : Int32} {i : Nat} (hin : ¬ i = q_ns S) : w_cell E A S 7 i = w_cell E A (q_up1 (q_up1 (q_up2 (q_up1 S 2 (q_ns S) p) 1 (q_ns S) s) 3 (q_ns S) 0) 0 1 (q_ns S + 1)) 7 i := by
  show Sum.inr (2, [Value.int (nI i), .ref (A 2 (S.1 2 i)), .int (S.2 1 i), .ref (A 8 i), .ref (A 9 i), .ref (A 10 i), .ref (A 12 i)]) = Sum.inr (2, [Value.int (nI i), .ref (A 2 (q_updN (S.1 2) (q_ns S) p i)), .int (upd (S.2 1) (q_ns S) s i), .ref (A 8 i), .ref (A 9 i), .ref (A 10 i), .ref (A 12 i)])
  rw [show q_updN (S.1 2) (q_ns S) p i = S.1 2 i from if_neg hin, show upd (S.2 1) (q_ns S) s i = S.2 1 i from if_neg hin]
theorem w_pars_n {S T : q_S} {i : Nat} (h : S.1 3 i = T.1 3 i) : w_pars S i = w_pars T i := by
  unfold w_pars
  rw [h]
set_option maxRecDepth 100000 in
theorem w_shape {E : g_E} {A : w_A} {S Sm : q_S} {h : g_H} (hB : w_B S) {p q q0 q1 q2 q3 dd d2 : Nat} {s : Int32} (hp : p < q_np S) (hz : ∀ i, 7 * q_ns S ≤ i → S.2 2 i = 0 ∧ S.2 3 i = 0) (hG : w_G E (w_uA (w_uA (w_uA (w_uA (w_uA (w_uA (w_uA A 7 (q_ns S) q) 8 (q_ns S) q0) 9 (q_ns S) q1) 10 (q_ns S) q2) 12 (q_ns S) q3) 21 0 dd) 4 p d2) (w_ul (w_ul (w_ul (w_ul (w_ul (w_ul (w_ul (w_lv S Sm) 7 (q_ns S)) 8 (q_ns S)) 9 (q_ns S)) 10 (q_ns S)) 12 (q_ns S)) 21 0) 4 p) (w_uc (w_uc (w_uc (w_uc (w_uc (w_uc (w_uc (w_uc (w_uc (w_uc (fun k i => w_cell E A (w_pk S Sm k) k i) 7 (q_ns S) (.inr (2, [.int 0, .null, .int 0, .null, .null, .null, .null]))) 8 (q_ns S) (g_bools E 7 (fun _ => 0))) 9 (q_ns S) (g_ints E 7 (fun _ => 0))) 10 (q_ns S) (g_L0 E)) 12 (q_ns S) (g_L0 E)) 7 (q_ns S) (.inr (2, [.int (nI (q_ns S)), .ref (A 2 p), .int s, .ref q0, .ref q1, .ref q2, .ref q3]))) 21 0 (w_data E (List.range (q_ns S) ++ [q_ns S]) ((w_uA (w_uA (w_uA (w_uA (w_uA A 7 (q_ns S) q) 8 (q_ns S) q0) 9 (q_ns S) q1) 10 (q_ns S) q2) 12 (q_ns S) q3) 7))) 20 0 (w_list E dd ((List.range (q_ns S)).length + 1))) 4 p (w_data E (q_on S p ++ [q_ns S]) ((w_uA (w_uA (w_uA (w_uA (w_uA (w_uA A 7 (q_ns S) q) 8 (q_ns S) q0) 9 (q_ns S) q1) 10 (q_ns S) q2) 12 (q_ns S) q3) 21 0 dd) 7))) 3 p (w_list E d2 ((q_on S p).length + 1))) h) : w_W E (w_uA (w_uA (w_uA (w_uA (w_uA (w_uA (w_uA A 7 (q_ns S) q) 8 (q_ns S) q0) 9 (q_ns S) q1) 10 (q_ns S) q2) 12 (q_ns S) q3) 21 0 dd) 4 p d2) (q_up1 (q_up1 (q_up2 (q_up1 S 2 (q_ns S) p) 1 (q_ns S) s) 3 (q_ns S) 0) 0 1 (q_ns S + 1)) Sm h := by
  obtain ⟨hnp, hns, hne, hpar, hhome, hact⟩ := id hB
  refine hG.fin (fun k i hk => ?_)
  by_cases hlt : k < 30
  case neg =>
    have h51 := w_ltag hk
    have hi := (w_lvM (by omega) h51 i).mp hk
    subst hi
    refine ⟨Or.inr (Or.inr (Or.inr (Or.inr (Or.inr (Or.inr (Or.inr ((w_lvM (by omega) h51 0).mpr rfl))))))), ?_⟩
    rw [w_uc_tag _ (by omega), w_uc_tag _ (by omega), w_uc_tag _ (by omega), w_uc_tag _ (by omega), w_uc_tag _ (by omega), w_uc_tag _ (by omega), w_uc_tag _ (by omega), w_uc_tag _ (by omega), w_uc_tag _ (by omega), w_uc_tag _ (by omega)]
    show w_cell E A (w_pk S Sm k) k 0 = w_cell E _ (w_pk _ Sm k) k 0
    rw [w_pkM (by omega), w_pkM (by omega)]
    exact w_uM (fun t h1 h2 => by rw [w_uA_tag _ (by omega), w_uA_tag _ (by omega), w_uA_tag _ (by omega), w_uA_tag _ (by omega), w_uA_tag _ (by omega), w_uA_tag _ (by omega), w_uA_tag _ (by omega)]) (by omega) h51
  unfold w_lv at hk
  rw [w_pkC hlt] at hk ⊢
  rcases w_tagsC hlt with rfl | rfl | rfl | rfl | rfl | rfl | rfl | rfl | rfl | rfl | rfl | rfl | rfl | rfl | rfl | rfl | rfl | rfl | rfl | rfl | rfl | rfl | rfl | rfl | rfl | rfl | rfl | rfl | rfl | rfl
  · exact ⟨Or.inr (Or.inr (Or.inr (Or.inr (Or.inr (Or.inr (Or.inr ((show w_lv S Sm 0 i from hk)))))))), (w_t0 (S := S) (T := q_up1 (q_up1 (q_up2 (q_up1 S 2 (q_ns S) p) 1 (q_ns S) s) 3 (q_ns S) 0) 0 1 (q_ns S + 1)) (q_sl_c rfl rfl) rfl rfl rfl i).trans (w_u0 (A := A) (B := (w_uA (w_uA (w_uA (w_uA (w_uA (w_uA (w_uA A 7 (q_ns S) q) 8 (q_ns S) q0) 9 (q_ns S) q1) 10 (q_ns S) q2) 12 (q_ns S) q3) 21 0 dd) 4 p d2)) (S := q_up1 (q_up1 (q_up2 (q_up1 S 2 (q_ns S) p) 1 (q_ns S) s) 3 (q_ns S) 0) 0 1 (q_ns S + 1)) rfl rfl rfl rfl rfl rfl)⟩
  · exact ⟨Or.inr (Or.inr (Or.inr (Or.inr (Or.inr (Or.inr (Or.inr ((show w_lv S Sm 1 i from hk)))))))), (w_t1 (S := S) (T := q_up1 (q_up1 (q_up2 (q_up1 S 2 (q_ns S) p) 1 (q_ns S) s) 3 (q_ns S) 0) 0 1 (q_ns S + 1)) rfl i).trans (w_u1 (A := A) (B := (w_uA (w_uA (w_uA (w_uA (w_uA (w_uA (w_uA A 7 (q_ns S) q) 8 (q_ns S) q0) 9 (q_ns S) q1) 10 (q_ns S) q2) 12 (q_ns S) q3) 21 0 dd) 4 p d2)) (S := q_up1 (q_up1 (q_up2 (q_up1 S 2 (q_ns S) p) 1 (q_ns S) s) 3 (q_ns S) 0) 0 1 (q_ns S + 1)) )⟩
  · exact ⟨Or.inr (Or.inr (Or.inr (Or.inr (Or.inr (Or.inr (Or.inr ((show w_lv S Sm 2 i from hk)))))))), (w_t2 (S := S) (T := q_up1 (q_up1 (q_up2 (q_up1 S 2 (q_ns S) p) 1 (q_ns S) s) 3 (q_ns S) 0) 0 1 (q_ns S + 1)) rfl rfl i).trans (w_u2 (A := A) (B := (w_uA (w_uA (w_uA (w_uA (w_uA (w_uA (w_uA A 7 (q_ns S) q) 8 (q_ns S) q0) 9 (q_ns S) q1) 10 (q_ns S) q2) 12 (q_ns S) q3) 21 0 dd) 4 p d2)) (S := q_up1 (q_up1 (q_up2 (q_up1 S 2 (q_ns S) p) 1 (q_ns S) s) 3 (q_ns S) 0) 0 1 (q_ns S + 1)) (fun _ _ => rfl) rfl rfl)⟩
  · by_cases hin : p = i
    · subst hin
      refine ⟨Or.inr (Or.inr (Or.inr (Or.inr (Or.inr (Or.inr (Or.inr ((show w_lv S Sm 3 _ from hk)))))))), ?_⟩
      rw [w_uc_same]
      show _ = w_list E ((w_uA (w_uA (w_uA (w_uA (w_uA (w_uA (w_uA A 7 (q_ns S) q) 8 (q_ns S) q0) 9 (q_ns S) q1) 10 (q_ns S) q2) 12 (q_ns S) q3) 21 0 dd) 4 p d2) 4 _) (q_on (q_up1 (q_up1 (q_up2 (q_up1 S 2 (q_ns S) p) 1 (q_ns S) s) 3 (q_ns S) 0) 0 1 (q_ns S + 1)) _).length
      rw [q_on_sh, if_pos rfl, show (q_on S p ++ [q_ns S]).length = (q_on S p).length + 1 by simp, w_uA_same]
    · replace hin : ¬ i = p := fun q => hin q.symm
      refine ⟨Or.inr (Or.inr (Or.inr (Or.inr (Or.inr (Or.inr (Or.inr ((show w_lv S Sm 3 i from hk)))))))), ?_⟩
      rw [w_uc_ix _ hin, w_uc_tag _ (by decide), w_uc_tag _ (by decide), w_uc_tag _ (by decide), w_uc_tag _ (by decide), w_uc_tag _ (by decide), w_uc_tag _ (by decide), w_uc_tag _ (by decide), w_uc_tag _ (by decide), w_uc_tag _ (by decide)]
      exact ((show w_list E (A 4 i) (q_on S i).length = w_list E (A 4 i) (q_on (q_up1 (q_up1 (q_up2 (q_up1 S 2 (q_ns S) p) 1 (q_ns S) s) 3 (q_ns S) 0) 0 1 (q_ns S + 1)) i).length by rw [q_on_sh, if_neg (fun q => hin q.symm), List.append_nil])).trans (w_u3 (A := A) (B := (w_uA (w_uA (w_uA (w_uA (w_uA (w_uA (w_uA A 7 (q_ns S) q) 8 (q_ns S) q0) 9 (q_ns S) q1) 10 (q_ns S) q2) 12 (q_ns S) q3) 21 0 dd) 4 p d2)) (S := q_up1 (q_up1 (q_up2 (q_up1 S 2 (q_ns S) p) 1 (q_ns S) s) 3 (q_ns S) 0) 0 1 (q_ns S + 1)) (by rw [w_uA_ix _ hin, w_uA_tag _ (by decide), w_uA_tag _ (by decide), w_uA_tag _ (by decide), w_uA_tag _ (by decide), w_uA_tag _ (by decide), w_uA_tag _ (by decide)]))
  · by_cases hin : p = i
    · subst hin
      refine ⟨Or.inl ⟨rfl, rfl⟩, ?_⟩
      rw [w_uc_tag _ (by decide), w_uc_same]
      show _ = w_data E (q_on (q_up1 (q_up1 (q_up2 (q_up1 S 2 (q_ns S) p) 1 (q_ns S) s) 3 (q_ns S) 0) 0 1 (q_ns S + 1)) _) ((w_uA (w_uA (w_uA (w_uA (w_uA (w_uA (w_uA A 7 (q_ns S) q) 8 (q_ns S) q0) 9 (q_ns S) q1) 10 (q_ns S) q2) 12 (q_ns S) q3) 21 0 dd) 4 p d2) 7)
      rw [q_on_sh, if_pos rfl]
      exact w_data_c (fun x hx => rfl)
    · replace hin : ¬ i = p := fun q => hin q.symm
      have hq9 : q_on (q_up1 (q_up1 (q_up2 (q_up1 S 2 (q_ns S) p) 1 (q_ns S) s) 3 (q_ns S) 0) 0 1 (q_ns S + 1)) i = q_on S i := by rw [q_on_sh, if_neg (fun q => hin q.symm), List.append_nil]
      refine ⟨Or.inr (Or.inr (Or.inr (Or.inr (Or.inr (Or.inr (Or.inr ((show w_lv S Sm 4 i from ⟨hk.1, fun q => hk.2 (hq9.trans q)⟩)))))))), ?_⟩
      rw [w_uc_tag _ (by decide), w_uc_ix _ hin, w_uc_tag _ (by decide), w_uc_tag _ (by decide), w_uc_tag _ (by decide), w_uc_tag _ (by decide), w_uc_tag _ (by decide), w_uc_tag _ (by decide), w_uc_tag _ (by decide), w_uc_tag _ (by decide)]
      exact ((show w_data E (q_on S i) (A 7) = w_data E (q_on (q_up1 (q_up1 (q_up2 (q_up1 S 2 (q_ns S) p) 1 (q_ns S) s) 3 (q_ns S) 0) 0 1 (q_ns S + 1)) i) (A 7) by rw [hq9])).trans (w_u4 (A := A) (B := (w_uA (w_uA (w_uA (w_uA (w_uA (w_uA (w_uA A 7 (q_ns S) q) 8 (q_ns S) q0) 9 (q_ns S) q1) 10 (q_ns S) q2) 12 (q_ns S) q3) 21 0 dd) 4 p d2)) (S := q_up1 (q_up1 (q_up2 (q_up1 S 2 (q_ns S) p) 1 (q_ns S) s) 3 (q_ns S) 0) 0 1 (q_ns S + 1)) (fun x hx => (by rw [w_uA_tag _ (by decide), w_uA_tag _ (by decide), w_uA_tag _ (by decide), w_uA_tag _ (by decide), w_uA_tag _ (by decide), w_uA_tag _ (by decide), w_uA_ix _ (show ¬ x = q_ns S from fun e9 => by rw [hq9] at hx; have := q_on_lt hx; omega)])))
  · refine ⟨Or.inr (Or.inr (Or.inr (Or.inr (Or.inr (Or.inr (Or.inr ((show w_lv S Sm 5 i from hk)))))))), ?_⟩
    show w_list E (A 6 i) (q_eon S i).length = w_list E ((w_uA (w_uA (w_uA (w_uA (w_uA (w_uA (w_uA A 7 (q_ns S) q) 8 (q_ns S) q0) 9 (q_ns S) q1) 10 (q_ns S) q2) 12 (q_ns S) q3) 21 0 dd) 4 p d2) 6 i) (q_eon (q_up1 (q_up1 (q_up2 (q_up1 S 2 (q_ns S) p) 1 (q_ns S) s) 3 (q_ns S) 0) 0 1 (q_ns S + 1)) i).length
    rw [q_eon_sh (p := p) (s := s) hB]
    rfl
  · refine ⟨Or.inr (Or.inr (Or.inr (Or.inr (Or.inr (Or.inr (Or.inr ((show w_lv S Sm 6 i from ⟨hk.1, fun q => hk.2 ((q_eon_sh (p := p) (s := s) hB i).symm.trans q)⟩)))))))), ?_⟩
    show w_data E (q_eon S i) (A 15) = w_data E (q_eon (q_up1 (q_up1 (q_up2 (q_up1 S 2 (q_ns S) p) 1 (q_ns S) s) 3 (q_ns S) 0) 0 1 (q_ns S + 1)) i) ((w_uA (w_uA (w_uA (w_uA (w_uA (w_uA (w_uA A 7 (q_ns S) q) 8 (q_ns S) q0) 9 (q_ns S) q1) 10 (q_ns S) q2) 12 (q_ns S) q3) 21 0 dd) 4 p d2) 15)
    rw [q_eon_sh (p := p) (s := s) hB]
    exact w_data_c (fun x hx => rfl)
  · have hi : i < q_ns S + 1 := hk
    by_cases hin : (q_ns S) = i
    · subst hin
      refine ⟨Or.inr (Or.inr (Or.inr (Or.inr (Or.inr (Or.inr (Or.inl ⟨rfl, rfl⟩)))))), ?_⟩
      rw [w_uc_tag _ (by decide), w_uc_tag _ (by decide), w_uc_tag _ (by decide), w_uc_tag _ (by decide), w_uc_same]
      show _ = Sum.inr (2, [Value.int (nI (q_ns S)), .ref (A 2 (q_updN (S.1 2) (q_ns S) p (q_ns S))), .int (upd (S.2 1) (q_ns S) s (q_ns S)), .ref ((w_uA (w_uA (w_uA (w_uA (w_uA (w_uA (w_uA A 7 (q_ns S) q) 8 (q_ns S) q0) 9 (q_ns S) q1) 10 (q_ns S) q2) 12 (q_ns S) q3) 21 0 dd) 4 p d2) 8 (q_ns S)), .ref ((w_uA (w_uA (w_uA (w_uA (w_uA (w_uA (w_uA A 7 (q_ns S) q) 8 (q_ns S) q0) 9 (q_ns S) q1) 10 (q_ns S) q2) 12 (q_ns S) q3) 21 0 dd) 4 p d2) 9 (q_ns S)), .ref ((w_uA (w_uA (w_uA (w_uA (w_uA (w_uA (w_uA A 7 (q_ns S) q) 8 (q_ns S) q0) 9 (q_ns S) q1) 10 (q_ns S) q2) 12 (q_ns S) q3) 21 0 dd) 4 p d2) 10 (q_ns S)), .ref ((w_uA (w_uA (w_uA (w_uA (w_uA (w_uA (w_uA A 7 (q_ns S) q) 8 (q_ns S) q0) 9 (q_ns S) q1) 10 (q_ns S) q2) 12 (q_ns S) q3) 21 0 dd) 4 p d2) 12 (q_ns S))])
      rw [show q_updN (S.1 2) (q_ns S) p (q_ns S) = p from if_pos rfl, show upd (S.2 1) (q_ns S) s (q_ns S) = s from if_pos rfl, show (w_uA (w_uA (w_uA (w_uA (w_uA (w_uA (w_uA A 7 (q_ns S) q) 8 (q_ns S) q0) 9 (q_ns S) q1) 10 (q_ns S) q2) 12 (q_ns S) q3) 21 0 dd) 4 p d2) 8 (q_ns S) = _ from by rw [w_uA_tag _ (by decide), w_uA_tag _ (by decide), w_uA_tag _ (by decide), w_uA_tag _ (by decide), w_uA_tag _ (by decide), w_uA_same], show (w_uA (w_uA (w_uA (w_uA (w_uA (w_uA (w_uA A 7 (q_ns S) q) 8 (q_ns S) q0) 9 (q_ns S) q1) 10 (q_ns S) q2) 12 (q_ns S) q3) 21 0 dd) 4 p d2) 9 (q_ns S) = _ from by rw [w_uA_tag _ (by decide), w_uA_tag _ (by decide), w_uA_tag _ (by decide), w_uA_tag _ (by decide), w_uA_same], show (w_uA (w_uA (w_uA (w_uA (w_uA (w_uA (w_uA A 7 (q_ns S) q) 8 (q_ns S) q0) 9 (q_ns S) q1) 10 (q_ns S) q2) 12 (q_ns S) q3) 21 0 dd) 4 p d2) 10 (q_ns S) = _ from by rw [w_uA_tag _ (by decide), w_uA_tag _ (by decide), w_uA_tag _ (by decide), w_uA_same], show (w_uA (w_uA (w_uA (w_uA (w_uA (w_uA (w_uA A 7 (q_ns S) q) 8 (q_ns S) q0) 9 (q_ns S) q1) 10 (q_ns S) q2) 12 (q_ns S) q3) 21 0 dd) 4 p d2) 12 (q_ns S) = _ from by rw [w_uA_tag _ (by decide), w_uA_tag _ (by decide), w_uA_same]]
    · replace hin : ¬ i = (q_ns S) := fun q => hin q.symm
      refine ⟨Or.inr (Or.inr (Or.inr (Or.inr (Or.inr (Or.inr (Or.inr ((show w_lv S Sm 7 i from (show i < q_ns S by omega))))))))), ?_⟩
      rw [w_uc_tag _ (by decide), w_uc_tag _ (by decide), w_uc_tag _ (by decide), w_uc_tag _ (by decide), w_uc_ix _ hin, w_uc_tag _ (by decide), w_uc_tag _ (by decide), w_uc_tag _ (by decide), w_uc_tag _ (by decide), w_uc_ix _ hin]
      exact (w_t7x hin).trans (w_u7 (A := A) (B := (w_uA (w_uA (w_uA (w_uA (w_uA (w_uA (w_uA A 7 (q_ns S) q) 8 (q_ns S) q0) 9 (q_ns S) q1) 10 (q_ns S) q2) 12 (q_ns S) q3) 21 0 dd) 4 p d2)) (S := q_up1 (q_up1 (q_up2 (q_up1 S 2 (q_ns S) p) 1 (q_ns S) s) 3 (q_ns S) 0) 0 1 (q_ns S + 1)) rfl (by rw [w_uA_tag _ (by decide), w_uA_tag _ (by decide), w_uA_tag _ (by decide), w_uA_tag _ (by decide), w_uA_tag _ (by decide), w_uA_ix _ hin, w_uA_tag _ (by decide)]) (by rw [w_uA_tag _ (by decide), w_uA_tag _ (by decide), w_uA_tag _ (by decide), w_uA_tag _ (by decide), w_uA_ix _ hin, w_uA_tag _ (by decide), w_uA_tag _ (by decide)]) (by rw [w_uA_tag _ (by decide), w_uA_tag _ (by decide), w_uA_tag _ (by decide), w_uA_ix _ hin, w_uA_tag _ (by decide), w_uA_tag _ (by decide), w_uA_tag _ (by decide)]) (by rw [w_uA_tag _ (by decide), w_uA_tag _ (by decide), w_uA_ix _ hin, w_uA_tag _ (by decide), w_uA_tag _ (by decide), w_uA_tag _ (by decide), w_uA_tag _ (by decide)]))
  · have hi : i < q_ns S + 1 := hk
    by_cases hin : (q_ns S) = i
    · subst hin
      refine ⟨Or.inr (Or.inr (Or.inr (Or.inr (Or.inr (Or.inl ⟨rfl, rfl⟩))))), ?_⟩
      rw [w_uc_tag _ (by decide), w_uc_tag _ (by decide), w_uc_tag _ (by decide), w_uc_tag _ (by decide), w_uc_tag _ (by decide), w_uc_tag _ (by decide), w_uc_tag _ (by decide), w_uc_tag _ (by decide), w_uc_same]
      show g_bools E 7 (fun _ => 0) = g_bools E 7 (fun pr => if pr < 7 then S.2 2 (7 * q_ns S + pr) else 0)
      congr 3
      funext pr
      by_cases h9 : pr < 7
      · rw [if_pos h9, (hz (7 * q_ns S + pr) (by omega)).1]
      · rw [if_neg h9]
    · replace hin : ¬ i = (q_ns S) := fun q => hin q.symm
      refine ⟨Or.inr (Or.inr (Or.inr (Or.inr (Or.inr (Or.inr (Or.inr ((show w_lv S Sm 8 i from (show i < q_ns S by omega))))))))), ?_⟩
      rw [w_uc_tag _ (by decide), w_uc_tag _ (by decide), w_uc_tag _ (by decide), w_uc_tag _ (by decide), w_uc_tag _ (by decide), w_uc_tag _ (by decide), w_uc_tag _ (by decide), w_uc_tag _ (by decide), w_uc_ix _ hin, w_uc_tag _ (by decide)]
      exact (w_t8 (S := S) (T := q_up1 (q_up1 (q_up2 (q_up1 S 2 (q_ns S) p) 1 (q_ns S) s) 3 (q_ns S) 0) 0 1 (q_ns S + 1)) rfl i).trans (w_u8 (A := A) (B := (w_uA (w_uA (w_uA (w_uA (w_uA (w_uA (w_uA A 7 (q_ns S) q) 8 (q_ns S) q0) 9 (q_ns S) q1) 10 (q_ns S) q2) 12 (q_ns S) q3) 21 0 dd) 4 p d2)) (S := q_up1 (q_up1 (q_up2 (q_up1 S 2 (q_ns S) p) 1 (q_ns S) s) 3 (q_ns S) 0) 0 1 (q_ns S + 1)) )
  · have hi : i < q_ns S + 1 := hk
    by_cases hin : (q_ns S) = i
    · subst hin
      refine ⟨Or.inr (Or.inr (Or.inr (Or.inr (Or.inl ⟨rfl, rfl⟩)))), ?_⟩
      rw [w_uc_tag _ (by decide), w_uc_tag _ (by decide), w_uc_tag _ (by decide), w_uc_tag _ (by decide), w_uc_tag _ (by decide), w_uc_tag _ (by decide), w_uc_tag _ (by decide), w_uc_same]
      show g_ints E 7 (fun _ => 0) = g_ints E 7 (fun pr => if pr < 7 then S.2 3 (7 * q_ns S + pr) else 0)
      congr 3
      funext pr
      by_cases h9 : pr < 7
      · rw [if_pos h9, (hz (7 * q_ns S + pr) (by omega)).2]
      · rw [if_neg h9]
    · replace hin : ¬ i = (q_ns S) := fun q => hin q.symm
      refine ⟨Or.inr (Or.inr (Or.inr (Or.inr (Or.inr (Or.inr (Or.inr ((show w_lv S Sm 9 i from (show i < q_ns S by omega))))))))), ?_⟩
      rw [w_uc_tag _ (by decide), w_uc_tag _ (by decide), w_uc_tag _ (by decide), w_uc_tag _ (by decide), w_uc_tag _ (by decide), w_uc_tag _ (by decide), w_uc_tag _ (by decide), w_uc_ix _ hin, w_uc_tag _ (by decide), w_uc_tag _ (by decide)]
      exact (w_t9 (S := S) (T := q_up1 (q_up1 (q_up2 (q_up1 S 2 (q_ns S) p) 1 (q_ns S) s) 3 (q_ns S) 0) 0 1 (q_ns S + 1)) rfl i).trans (w_u9 (A := A) (B := (w_uA (w_uA (w_uA (w_uA (w_uA (w_uA (w_uA A 7 (q_ns S) q) 8 (q_ns S) q0) 9 (q_ns S) q1) 10 (q_ns S) q2) 12 (q_ns S) q3) 21 0 dd) 4 p d2)) (S := q_up1 (q_up1 (q_up2 (q_up1 S 2 (q_ns S) p) 1 (q_ns S) s) 3 (q_ns S) 0) 0 1 (q_ns S + 1)) )
  · have hi : i < q_ns S + 1 := hk
    by_cases hin : (q_ns S) = i
    · subst hin
      refine ⟨Or.inr (Or.inr (Or.inr (Or.inl ⟨rfl, rfl⟩))), ?_⟩
      rw [w_uc_tag _ (by decide), w_uc_tag _ (by decide), w_uc_tag _ (by decide), w_uc_tag _ (by decide), w_uc_tag _ (by decide), w_uc_tag _ (by decide), w_uc_same]
      show g_L0 E = w_list E _ (w_pars (q_up1 (q_up1 (q_up2 (q_up1 S 2 (q_ns S) p) 1 (q_ns S) s) 3 (q_ns S) 0) 0 1 (q_ns S + 1)) (q_ns S)).length
      rw [show w_pars (q_up1 (q_up1 (q_up2 (q_up1 S 2 (q_ns S) p) 1 (q_ns S) s) 3 (q_ns S) 0) 0 1 (q_ns S + 1)) (q_ns S) = [] from by unfold w_pars; rw [show (q_up1 (q_up1 (q_up2 (q_up1 S 2 (q_ns S) p) 1 (q_ns S) s) 3 (q_ns S) 0) 0 1 (q_ns S + 1)).1 3 (q_ns S) = 0 from if_pos rfl]; rfl]
      rfl
    · replace hin : ¬ i = (q_ns S) := fun q => hin q.symm
      refine ⟨Or.inr (Or.inr (Or.inr (Or.inr (Or.inr (Or.inr (Or.inr ((show w_lv S Sm 10 i from (show i < q_ns S by omega))))))))), ?_⟩
      rw [w_uc_tag _ (by decide), w_uc_tag _ (by decide), w_uc_tag _ (by decide), w_uc_tag _ (by decide), w_uc_tag _ (by decide), w_uc_tag _ (by decide), w_uc_ix _ hin, w_uc_tag _ (by decide), w_uc_tag _ (by decide), w_uc_tag _ (by decide)]
      exact ((show w_list E (A 11 i) (w_pars S i).length = w_list E (A 11 i) (w_pars (q_up1 (q_up1 (q_up2 (q_up1 S 2 (q_ns S) p) 1 (q_ns S) s) 3 (q_ns S) 0) 0 1 (q_ns S + 1)) i).length by rw [w_pars_n (S := S) (T := q_up1 (q_up1 (q_up2 (q_up1 S 2 (q_ns S) p) 1 (q_ns S) s) 3 (q_ns S) 0) 0 1 (q_ns S + 1)) (show S.1 3 i = q_updN (S.1 3) (q_ns S) 0 i from (if_neg hin).symm)])).trans (w_u10 (A := A) (B := (w_uA (w_uA (w_uA (w_uA (w_uA (w_uA (w_uA A 7 (q_ns S) q) 8 (q_ns S) q0) 9 (q_ns S) q1) 10 (q_ns S) q2) 12 (q_ns S) q3) 21 0 dd) 4 p d2)) (S := q_up1 (q_up1 (q_up2 (q_up1 S 2 (q_ns S) p) 1 (q_ns S) s) 3 (q_ns S) 0) 0 1 (q_ns S + 1)) rfl)
  · have hi : i < q_ns S + 1 := hk.1
    have hin : ¬ i = q_ns S := fun e9 => hk.2 (by rw [e9]; exact (show w_pars (q_up1 (q_up1 (q_up2 (q_up1 S 2 (q_ns S) p) 1 (q_ns S) s) 3 (q_ns S) 0) 0 1 (q_ns S + 1)) (q_ns S) = [] by unfold w_pars; rw [show (q_up1 (q_up1 (q_up2 (q_up1 S 2 (q_ns S) p) 1 (q_ns S) s) 3 (q_ns S) 0) 0 1 (q_ns S + 1)).1 3 (q_ns S) = 0 from if_pos rfl]; rfl))
    have hps := (w_pars_n (S := S) (T := q_up1 (q_up1 (q_up2 (q_up1 S 2 (q_ns S) p) 1 (q_ns S) s) 3 (q_ns S) 0) 0 1 (q_ns S + 1)) (show S.1 3 i = q_updN (S.1 3) (q_ns S) 0 i from (if_neg hin).symm))
    refine ⟨Or.inr (Or.inr (Or.inr (Or.inr (Or.inr (Or.inr (Or.inr ((show w_lv S Sm 11 i from ⟨show i < q_ns S by omega, fun q => hk.2 (hps.symm.trans q)⟩)))))))), ?_⟩
    show w_data E (w_pars S i) (A 14) = w_data E (w_pars (q_up1 (q_up1 (q_up2 (q_up1 S 2 (q_ns S) p) 1 (q_ns S) s) 3 (q_ns S) 0) 0 1 (q_ns S + 1)) i) ((w_uA (w_uA (w_uA (w_uA (w_uA (w_uA (w_uA A 7 (q_ns S) q) 8 (q_ns S) q0) 9 (q_ns S) q1) 10 (q_ns S) q2) 12 (q_ns S) q3) 21 0 dd) 4 p d2) 14)
    rw [hps]
    exact w_data_c (fun x hx => rfl)
  · have hi : i < q_ns S + 1 := hk
    by_cases hin : (q_ns S) = i
    · subst hin
      refine ⟨Or.inr (Or.inr (Or.inl ⟨rfl, rfl⟩)), ?_⟩
      rw [w_uc_tag _ (by decide), w_uc_tag _ (by decide), w_uc_tag _ (by decide), w_uc_tag _ (by decide), w_uc_tag _ (by decide), w_uc_same]
      show g_L0 E = w_list E _ (q_eof S (q_ns S)).length
      rw [show q_eof S (q_ns S) = [] from (q_filtn (fun x hx => by show ¬ decide (S.1 5 x = q_ns S) = true; rw [decide_eq_true_iff]; have := hact x hx; omega))]
      rfl
    · replace hin : ¬ i = (q_ns S) := fun q => hin q.symm
      refine ⟨Or.inr (Or.inr (Or.inr (Or.inr (Or.inr (Or.inr (Or.inr ((show w_lv S Sm 12 i from (show i < q_ns S by omega))))))))), ?_⟩
      rw [w_uc_tag _ (by decide), w_uc_tag _ (by decide), w_uc_tag _ (by decide), w_uc_tag _ (by decide), w_uc_tag _ (by decide), w_uc_ix _ hin, w_uc_tag _ (by decide), w_uc_tag _ (by decide), w_uc_tag _ (by decide), w_uc_tag _ (by decide)]
      exact (w_t12 (S := S) (T := q_up1 (q_up1 (q_up2 (q_up1 S 2 (q_ns S) p) 1 (q_ns S) s) 3 (q_ns S) 0) 0 1 (q_ns S + 1)) rfl rfl i).trans (w_u12 (A := A) (B := (w_uA (w_uA (w_uA (w_uA (w_uA (w_uA (w_uA A 7 (q_ns S) q) 8 (q_ns S) q0) 9 (q_ns S) q1) 10 (q_ns S) q2) 12 (q_ns S) q3) 21 0 dd) 4 p d2)) (S := q_up1 (q_up1 (q_up2 (q_up1 S 2 (q_ns S) p) 1 (q_ns S) s) 3 (q_ns S) 0) 0 1 (q_ns S + 1)) rfl)
  · have hi : i < q_ns S + 1 := hk.1
    have hin : ¬ i = q_ns S := fun e9 => hk.2 (by rw [e9]; exact (q_filtn (fun x hx => by show ¬ decide (S.1 5 x = q_ns S) = true; rw [decide_eq_true_iff]; have := hact x hx; omega)))
    exact ⟨Or.inr (Or.inr (Or.inr (Or.inr (Or.inr (Or.inr (Or.inr ((show w_lv S Sm 13 i from ⟨show i < q_ns S by omega, hk.2⟩)))))))), (w_t13 (S := S) (T := q_up1 (q_up1 (q_up2 (q_up1 S 2 (q_ns S) p) 1 (q_ns S) s) 3 (q_ns S) 0) 0 1 (q_ns S + 1)) rfl rfl i).trans (w_u13 (A := A) (B := (w_uA (w_uA (w_uA (w_uA (w_uA (w_uA (w_uA A 7 (q_ns S) q) 8 (q_ns S) q0) 9 (q_ns S) q1) 10 (q_ns S) q2) 12 (q_ns S) q3) 21 0 dd) 4 p d2)) (S := q_up1 (q_up1 (q_up2 (q_up1 S 2 (q_ns S) p) 1 (q_ns S) s) 3 (q_ns S) 0) 0 1 (q_ns S + 1)) (fun _ _ => rfl))⟩
  · have hi : i / 4 < q_ns S + 1 := hk.1
    have hi2 : i % 4 < q_updN (S.1 3) (q_ns S) 0 (i / 4) := hk.2
    have hin : ¬ i / 4 = q_ns S := fun e9 => by rw [show q_updN (S.1 3) (q_ns S) 0 (i / 4) = 0 from if_pos e9] at hi2; omega
    rw [show q_updN (S.1 3) (q_ns S) 0 (i / 4) = S.1 3 (i / 4) from if_neg hin] at hi2
    exact ⟨Or.inr (Or.inr (Or.inr (Or.inr (Or.inr (Or.inr (Or.inr ((show w_lv S Sm 14 i from ⟨show i / 4 < q_ns S by omega, hi2⟩)))))))), (w_t14 (S := S) (T := q_up1 (q_up1 (q_up2 (q_up1 S 2 (q_ns S) p) 1 (q_ns S) s) 3 (q_ns S) 0) 0 1 (q_ns S + 1)) rfl rfl i).trans (w_u14 (A := A) (B := (w_uA (w_uA (w_uA (w_uA (w_uA (w_uA (w_uA A 7 (q_ns S) q) 8 (q_ns S) q0) 9 (q_ns S) q1) 10 (q_ns S) q2) 12 (q_ns S) q3) 21 0 dd) 4 p d2)) (S := q_up1 (q_up1 (q_up2 (q_up1 S 2 (q_ns S) p) 1 (q_ns S) s) 3 (q_ns S) 0) 0 1 (q_ns S + 1)))⟩
  · exact ⟨Or.inr (Or.inr (Or.inr (Or.inr (Or.inr (Or.inr (Or.inr ((show w_lv S Sm 15 i from hk)))))))), (w_t15p (fun e he => q_ept_sh hB (show e < q_ne S by have : i < q_ne S := hk; omega)) rfl rfl).trans (w_u15 (A := A) (B := (w_uA (w_uA (w_uA (w_uA (w_uA (w_uA (w_uA A 7 (q_ns S) q) 8 (q_ns S) q0) 9 (q_ns S) q1) 10 (q_ns S) q2) 12 (q_ns S) q3) 21 0 dd) 4 p d2)) (S := q_up1 (q_up1 (q_up2 (q_up1 S 2 (q_ns S) p) 1 (q_ns S) s) 3 (q_ns S) 0) 0 1 (q_ns S + 1)) rfl)⟩
  · exact ⟨Or.inr (Or.inr (Or.inr (Or.inr (Or.inr (Or.inr (Or.inr ((show w_lv S Sm 16 i from hk)))))))), (w_t16 (S := S) (T := q_up1 (q_up1 (q_up2 (q_up1 S 2 (q_ns S) p) 1 (q_ns S) s) 3 (q_ns S) 0) 0 1 (q_ns S + 1)) rfl i).trans (w_u16 (A := A) (B := (w_uA (w_uA (w_uA (w_uA (w_uA (w_uA (w_uA A 7 (q_ns S) q) 8 (q_ns S) q0) 9 (q_ns S) q1) 10 (q_ns S) q2) 12 (q_ns S) q3) 21 0 dd) 4 p d2)) (S := q_up1 (q_up1 (q_up2 (q_up1 S 2 (q_ns S) p) 1 (q_ns S) s) 3 (q_ns S) 0) 0 1 (q_ns S + 1)) rfl)⟩
  · exact ⟨Or.inr (Or.inr (Or.inr (Or.inr (Or.inr (Or.inr (Or.inr ((show w_lv S Sm 17 i from hk)))))))), (w_t17 (S := S) (T := q_up1 (q_up1 (q_up2 (q_up1 S 2 (q_ns S) p) 1 (q_ns S) s) 3 (q_ns S) 0) 0 1 (q_ns S + 1)) rfl i).trans (w_u17 (A := A) (B := (w_uA (w_uA (w_uA (w_uA (w_uA (w_uA (w_uA A 7 (q_ns S) q) 8 (q_ns S) q0) 9 (q_ns S) q1) 10 (q_ns S) q2) 12 (q_ns S) q3) 21 0 dd) 4 p d2)) (S := q_up1 (q_up1 (q_up2 (q_up1 S 2 (q_ns S) p) 1 (q_ns S) s) 3 (q_ns S) 0) 0 1 (q_ns S + 1)) (fun _ _ => rfl))⟩
  · exact ⟨Or.inr (Or.inr (Or.inr (Or.inr (Or.inr (Or.inr (Or.inr ((show w_lv S Sm 18 i from hk)))))))), (w_t18 (S := S) (T := q_up1 (q_up1 (q_up2 (q_up1 S 2 (q_ns S) p) 1 (q_ns S) s) 3 (q_ns S) 0) 0 1 (q_ns S + 1)) rfl rfl i).trans (w_u18 (A := A) (B := (w_uA (w_uA (w_uA (w_uA (w_uA (w_uA (w_uA A 7 (q_ns S) q) 8 (q_ns S) q0) 9 (q_ns S) q1) 10 (q_ns S) q2) 12 (q_ns S) q3) 21 0 dd) 4 p d2)) (S := q_up1 (q_up1 (q_up2 (q_up1 S 2 (q_ns S) p) 1 (q_ns S) s) 3 (q_ns S) 0) 0 1 (q_ns S + 1)) rfl)⟩
  · exact ⟨Or.inr (Or.inr (Or.inr (Or.inr (Or.inr (Or.inr (Or.inr ((show w_lv S Sm 19 i from hk)))))))), (w_t19 (S := S) (T := q_up1 (q_up1 (q_up2 (q_up1 S 2 (q_ns S) p) 1 (q_ns S) s) 3 (q_ns S) 0) 0 1 (q_ns S + 1)) rfl rfl i).trans (w_u19 (A := A) (B := (w_uA (w_uA (w_uA (w_uA (w_uA (w_uA (w_uA A 7 (q_ns S) q) 8 (q_ns S) q0) 9 (q_ns S) q1) 10 (q_ns S) q2) 12 (q_ns S) q3) 21 0 dd) 4 p d2)) (S := q_up1 (q_up1 (q_up2 (q_up1 S 2 (q_ns S) p) 1 (q_ns S) s) 3 (q_ns S) 0) 0 1 (q_ns S + 1)) (fun _ _ => rfl))⟩
  · obtain ⟨rfl, -⟩ := hk
    refine ⟨Or.inr (Or.inr (Or.inr (Or.inr (Or.inr (Or.inr (Or.inr ((show w_lv S Sm 20 0 from ⟨rfl, by decide⟩)))))))), ?_⟩
    show w_list E dd ((List.range (q_ns S)).length + 1) = w_list E ((w_uA (w_uA (w_uA (w_uA (w_uA (w_uA (w_uA A 7 (q_ns S) q) 8 (q_ns S) q0) 9 (q_ns S) q1) 10 (q_ns S) q2) 12 (q_ns S) q3) 21 0 dd) 4 p d2) 21 0) (List.range (q_ns S + 1)).length
    rw [List.length_range, List.length_range]
    rfl
  · obtain ⟨rfl, -⟩ := hk
    refine ⟨Or.inr (Or.inl ⟨rfl, rfl⟩), ?_⟩
    show w_data E (List.range (q_ns S) ++ [q_ns S]) ((w_uA (w_uA (w_uA (w_uA (w_uA A 7 (q_ns S) q) 8 (q_ns S) q0) 9 (q_ns S) q1) 10 (q_ns S) q2) 12 (q_ns S) q3) 7) = w_data E (List.range (q_ns S + 1)) ((w_uA (w_uA (w_uA (w_uA (w_uA (w_uA (w_uA A 7 (q_ns S) q) 8 (q_ns S) q0) 9 (q_ns S) q1) 10 (q_ns S) q2) 12 (q_ns S) q3) 21 0 dd) 4 p d2) 7)
    rw [List.range_succ]
    exact w_data_c (fun x hx => rfl)
  · exact ⟨Or.inr (Or.inr (Or.inr (Or.inr (Or.inr (Or.inr (Or.inr ((show w_lv S Sm 22 i from hk)))))))), (w_t22 (S := S) (T := q_up1 (q_up1 (q_up2 (q_up1 S 2 (q_ns S) p) 1 (q_ns S) s) 3 (q_ns S) 0) 0 1 (q_ns S + 1)) rfl i).trans (w_u22 (A := A) (B := (w_uA (w_uA (w_uA (w_uA (w_uA (w_uA (w_uA A 7 (q_ns S) q) 8 (q_ns S) q0) 9 (q_ns S) q1) 10 (q_ns S) q2) 12 (q_ns S) q3) 21 0 dd) 4 p d2)) (S := q_up1 (q_up1 (q_up2 (q_up1 S 2 (q_ns S) p) 1 (q_ns S) s) 3 (q_ns S) 0) 0 1 (q_ns S + 1)) rfl)⟩
  · exact ⟨Or.inr (Or.inr (Or.inr (Or.inr (Or.inr (Or.inr (Or.inr ((show w_lv S Sm 23 i from hk)))))))), (w_t23 (S := S) (T := q_up1 (q_up1 (q_up2 (q_up1 S 2 (q_ns S) p) 1 (q_ns S) s) 3 (q_ns S) 0) 0 1 (q_ns S + 1)) rfl i).trans (w_u23 (A := A) (B := (w_uA (w_uA (w_uA (w_uA (w_uA (w_uA (w_uA A 7 (q_ns S) q) 8 (q_ns S) q0) 9 (q_ns S) q1) 10 (q_ns S) q2) 12 (q_ns S) q3) 21 0 dd) 4 p d2)) (S := q_up1 (q_up1 (q_up2 (q_up1 S 2 (q_ns S) p) 1 (q_ns S) s) 3 (q_ns S) 0) 0 1 (q_ns S + 1)) (fun _ _ => rfl))⟩
  · exact ⟨Or.inr (Or.inr (Or.inr (Or.inr (Or.inr (Or.inr (Or.inr ((show w_lv S Sm 24 i from hk)))))))), (w_t24 (S := S) (T := q_up1 (q_up1 (q_up2 (q_up1 S 2 (q_ns S) p) 1 (q_ns S) s) 3 (q_ns S) 0) 0 1 (q_ns S + 1)) rfl i).trans (w_u24 (A := A) (B := (w_uA (w_uA (w_uA (w_uA (w_uA (w_uA (w_uA A 7 (q_ns S) q) 8 (q_ns S) q0) 9 (q_ns S) q1) 10 (q_ns S) q2) 12 (q_ns S) q3) 21 0 dd) 4 p d2)) (S := q_up1 (q_up1 (q_up2 (q_up1 S 2 (q_ns S) p) 1 (q_ns S) s) 3 (q_ns S) 0) 0 1 (q_ns S + 1)) rfl rfl rfl rfl)⟩
  · exact ⟨Or.inr (Or.inr (Or.inr (Or.inr (Or.inr (Or.inr (Or.inr ((show w_lv S Sm 25 i from hk)))))))), (w_t25 (S := S) (T := q_up1 (q_up1 (q_up2 (q_up1 S 2 (q_ns S) p) 1 (q_ns S) s) 3 (q_ns S) 0) 0 1 (q_ns S + 1)) rfl i).trans (w_u25 (A := A) (B := (w_uA (w_uA (w_uA (w_uA (w_uA (w_uA (w_uA A 7 (q_ns S) q) 8 (q_ns S) q0) 9 (q_ns S) q1) 10 (q_ns S) q2) 12 (q_ns S) q3) 21 0 dd) 4 p d2)) (S := q_up1 (q_up1 (q_up2 (q_up1 S 2 (q_ns S) p) 1 (q_ns S) s) 3 (q_ns S) 0) 0 1 (q_ns S + 1)) )⟩
  · exact ⟨Or.inr (Or.inr (Or.inr (Or.inr (Or.inr (Or.inr (Or.inr ((show w_lv S Sm 26 i from hk)))))))), (w_t26 (S := S) (T := q_up1 (q_up1 (q_up2 (q_up1 S 2 (q_ns S) p) 1 (q_ns S) s) 3 (q_ns S) 0) 0 1 (q_ns S + 1)) rfl i).trans (w_u26 (A := A) (B := (w_uA (w_uA (w_uA (w_uA (w_uA (w_uA (w_uA A 7 (q_ns S) q) 8 (q_ns S) q0) 9 (q_ns S) q1) 10 (q_ns S) q2) 12 (q_ns S) q3) 21 0 dd) 4 p d2)) (S := q_up1 (q_up1 (q_up2 (q_up1 S 2 (q_ns S) p) 1 (q_ns S) s) 3 (q_ns S) 0) 0 1 (q_ns S + 1)) )⟩
  · exact ⟨Or.inr (Or.inr (Or.inr (Or.inr (Or.inr (Or.inr (Or.inr ((show w_lv S Sm 27 i from hk)))))))), (w_t27 (S := S) (T := q_up1 (q_up1 (q_up2 (q_up1 S 2 (q_ns S) p) 1 (q_ns S) s) 3 (q_ns S) 0) 0 1 (q_ns S + 1)) rfl i).trans (w_u27 (A := A) (B := (w_uA (w_uA (w_uA (w_uA (w_uA (w_uA (w_uA A 7 (q_ns S) q) 8 (q_ns S) q0) 9 (q_ns S) q1) 10 (q_ns S) q2) 12 (q_ns S) q3) 21 0 dd) 4 p d2)) (S := q_up1 (q_up1 (q_up2 (q_up1 S 2 (q_ns S) p) 1 (q_ns S) s) 3 (q_ns S) 0) 0 1 (q_ns S + 1)) )⟩
  · exact ⟨Or.inr (Or.inr (Or.inr (Or.inr (Or.inr (Or.inr (Or.inr ((show w_lv S Sm 28 i from hk)))))))), (w_t28 (S := S) (T := q_up1 (q_up1 (q_up2 (q_up1 S 2 (q_ns S) p) 1 (q_ns S) s) 3 (q_ns S) 0) 0 1 (q_ns S + 1)) rfl i).trans (w_u28 (A := A) (B := (w_uA (w_uA (w_uA (w_uA (w_uA (w_uA (w_uA A 7 (q_ns S) q) 8 (q_ns S) q0) 9 (q_ns S) q1) 10 (q_ns S) q2) 12 (q_ns S) q3) 21 0 dd) 4 p d2)) (S := q_up1 (q_up1 (q_up2 (q_up1 S 2 (q_ns S) p) 1 (q_ns S) s) 3 (q_ns S) 0) 0 1 (q_ns S + 1)) )⟩
  · exact ⟨Or.inr (Or.inr (Or.inr (Or.inr (Or.inr (Or.inr (Or.inr ((show w_lv S Sm 29 i from hk)))))))), (w_t29 (S := S) (T := q_up1 (q_up1 (q_up2 (q_up1 S 2 (q_ns S) p) 1 (q_ns S) s) 3 (q_ns S) 0) 0 1 (q_ns S + 1)) rfl i).trans (w_u29 (A := A) (B := (w_uA (w_uA (w_uA (w_uA (w_uA (w_uA (w_uA A 7 (q_ns S) q) 8 (q_ns S) q0) 9 (q_ns S) q1) 10 (q_ns S) q2) 12 (q_ns S) q3) 21 0 dd) 4 p d2)) (S := q_up1 (q_up1 (q_up2 (q_up1 S 2 (q_ns S) p) 1 (q_ns S) s) 3 (q_ns S) 0) 0 1 (q_ns S + 1)) )⟩
theorem w_pars_w {S : q_S} {j : Nat} {v x : Int32} : w_pars (q_up1 (q_up2 (q_up2 S 5 (4 * j + S.1 3 j) v) 12 (4 * j + S.1 3 j) x) 3 j (S.1 3 j + 1)) j = w_pars S j ++ [4 * j + S.1 3 j] := by
  unfold w_pars
  rw [show (q_up1 (q_up2 (q_up2 S 5 (4 * j + S.1 3 j) v) 12 (4 * j + S.1 3 j) x) 3 j (S.1 3 j + 1)).1 3 j = S.1 3 j + 1 from if_pos rfl, List.range_succ, List.map_append]
  rfl
theorem w_pars_ne {S : q_S} {i j x n : Nat} (hin : ¬ i = j) (h3 : S.1 3 i ≤ 4) (hx : x ∈ w_pars S i) (h4 : n < 4) : ¬ x = 4 * j + n := by
  unfold w_pars at hx
  obtain ⟨q, hq, rfl⟩ := List.mem_map.mp hx
  have := List.mem_range.mp hq
  omega
theorem w_t14x {E : g_E} {A : w_A} {S : q_S} {j i : Nat} {v x : Int32} (hin : ¬ i = (4 * j + S.1 3 j)) : w_cell E A S 14 i = w_cell E A (q_up1 (q_up2 (q_up2 S 5 (4 * j + S.1 3 j) v) 12 (4 * j + S.1 3 j) x) 3 j (S.1 3 j + 1)) 14 i := by
  show Sum.inr (3, [Value.int (S.2 5 i), .int (S.2 12 i)]) = Sum.inr (3, [Value.int (upd (S.2 5) (4 * j + S.1 3 j) v i), .int (upd (S.2 12) (4 * j + S.1 3 j) x i)])
  rw [show upd (S.2 5) (4 * j + S.1 3 j) v i = S.2 5 i from if_neg hin, show upd (S.2 12) (4 * j + S.1 3 j) x i = S.2 12 i from if_neg hin]
set_option maxRecDepth 100000 in
theorem w_write {E : g_E} {A : w_A} {S Sm : q_S} {h : g_H} (hB : w_B S) {j q dd : Nat} {v x : Int32} (hj : j < q_ns S) (h4 : S.1 3 j < 4) (hG : w_G E (w_uA (w_uA A 14 (4 * j + S.1 3 j) q) 11 j dd) (w_ul (w_ul (w_lv S Sm) 14 (4 * j + S.1 3 j)) 11 j) (w_uc (w_uc (w_uc (w_uc (fun k i => w_cell E A (w_pk S Sm k) k i) 14 (4 * j + S.1 3 j) (.inr (3, [.int 0, .int 0]))) 14 (4 * j + S.1 3 j) (.inr (3, [.int v, .int x]))) 11 j (w_data E (w_pars S j ++ [4 * j + S.1 3 j]) ((w_uA A 14 (4 * j + S.1 3 j) q) 14))) 10 j (w_list E dd ((w_pars S j).length + 1))) h) : w_W E (w_uA (w_uA A 14 (4 * j + S.1 3 j) q) 11 j dd) (q_up1 (q_up2 (q_up2 S 5 (4 * j + S.1 3 j) v) 12 (4 * j + S.1 3 j) x) 3 j (S.1 3 j + 1)) Sm h := by
  obtain ⟨hnp, hns, hne, hpar, hhome, hact⟩ := id hB
  refine hG.fin (fun k i hk => ?_)
  by_cases hlt : k < 30
  case neg =>
    have h51 := w_ltag hk
    have hi := (w_lvM (by omega) h51 i).mp hk
    subst hi
    refine ⟨Or.inr (Or.inr ((w_lvM (by omega) h51 0).mpr rfl)), ?_⟩
    rw [w_uc_tag _ (by omega), w_uc_tag _ (by omega), w_uc_tag _ (by omega), w_uc_tag _ (by omega)]
    show w_cell E A (w_pk S Sm k) k 0 = w_cell E _ (w_pk _ Sm k) k 0
    rw [w_pkM (by omega), w_pkM (by omega)]
    exact w_uM (fun t h1 h2 => by rw [w_uA_tag _ (by omega), w_uA_tag _ (by omega)]) (by omega) h51
  unfold w_lv at hk
  rw [w_pkC hlt] at hk ⊢
  rcases w_tagsC hlt with rfl | rfl | rfl | rfl | rfl | rfl | rfl | rfl | rfl | rfl | rfl | rfl | rfl | rfl | rfl | rfl | rfl | rfl | rfl | rfl | rfl | rfl | rfl | rfl | rfl | rfl | rfl | rfl | rfl | rfl
  · exact ⟨Or.inr (Or.inr ((show w_lv S Sm 0 i from hk))), (w_t0 (S := S) (T := q_up1 (q_up2 (q_up2 S 5 (4 * j + S.1 3 j) v) 12 (4 * j + S.1 3 j) x) 3 j (S.1 3 j + 1)) (q_sl_c rfl rfl) rfl rfl rfl i).trans (w_u0 (A := A) (B := (w_uA (w_uA A 14 (4 * j + S.1 3 j) q) 11 j dd)) (S := q_up1 (q_up2 (q_up2 S 5 (4 * j + S.1 3 j) v) 12 (4 * j + S.1 3 j) x) 3 j (S.1 3 j + 1)) rfl rfl rfl rfl rfl rfl)⟩
  · exact ⟨Or.inr (Or.inr ((show w_lv S Sm 1 i from hk))), (w_t1 (S := S) (T := q_up1 (q_up2 (q_up2 S 5 (4 * j + S.1 3 j) v) 12 (4 * j + S.1 3 j) x) 3 j (S.1 3 j + 1)) rfl i).trans (w_u1 (A := A) (B := (w_uA (w_uA A 14 (4 * j + S.1 3 j) q) 11 j dd)) (S := q_up1 (q_up2 (q_up2 S 5 (4 * j + S.1 3 j) v) 12 (4 * j + S.1 3 j) x) 3 j (S.1 3 j + 1)) )⟩
  · exact ⟨Or.inr (Or.inr ((show w_lv S Sm 2 i from hk))), (w_t2 (S := S) (T := q_up1 (q_up2 (q_up2 S 5 (4 * j + S.1 3 j) v) 12 (4 * j + S.1 3 j) x) 3 j (S.1 3 j + 1)) rfl rfl i).trans (w_u2 (A := A) (B := (w_uA (w_uA A 14 (4 * j + S.1 3 j) q) 11 j dd)) (S := q_up1 (q_up2 (q_up2 S 5 (4 * j + S.1 3 j) v) 12 (4 * j + S.1 3 j) x) 3 j (S.1 3 j + 1)) (fun _ _ => rfl) rfl rfl)⟩
  · exact ⟨Or.inr (Or.inr ((show w_lv S Sm 3 i from hk))), (w_t3 (S := S) (T := q_up1 (q_up2 (q_up2 S 5 (4 * j + S.1 3 j) v) 12 (4 * j + S.1 3 j) x) 3 j (S.1 3 j + 1)) rfl rfl i).trans (w_u3 (A := A) (B := (w_uA (w_uA A 14 (4 * j + S.1 3 j) q) 11 j dd)) (S := q_up1 (q_up2 (q_up2 S 5 (4 * j + S.1 3 j) v) 12 (4 * j + S.1 3 j) x) 3 j (S.1 3 j + 1)) rfl)⟩
  · exact ⟨Or.inr (Or.inr ((show w_lv S Sm 4 i from hk))), (w_t4 (S := S) (T := q_up1 (q_up2 (q_up2 S 5 (4 * j + S.1 3 j) v) 12 (4 * j + S.1 3 j) x) 3 j (S.1 3 j + 1)) rfl rfl i).trans (w_u4 (A := A) (B := (w_uA (w_uA A 14 (4 * j + S.1 3 j) q) 11 j dd)) (S := q_up1 (q_up2 (q_up2 S 5 (4 * j + S.1 3 j) v) 12 (4 * j + S.1 3 j) x) 3 j (S.1 3 j + 1)) (fun _ _ => rfl))⟩
  · exact ⟨Or.inr (Or.inr ((show w_lv S Sm 5 i from hk))), (w_t5 (S := S) (T := q_up1 (q_up2 (q_up2 S 5 (4 * j + S.1 3 j) v) 12 (4 * j + S.1 3 j) x) 3 j (S.1 3 j + 1)) rfl rfl rfl i).trans (w_u5 (A := A) (B := (w_uA (w_uA A 14 (4 * j + S.1 3 j) q) 11 j dd)) (S := q_up1 (q_up2 (q_up2 S 5 (4 * j + S.1 3 j) v) 12 (4 * j + S.1 3 j) x) 3 j (S.1 3 j + 1)) rfl)⟩
  · exact ⟨Or.inr (Or.inr ((show w_lv S Sm 6 i from hk))), (w_t6 (S := S) (T := q_up1 (q_up2 (q_up2 S 5 (4 * j + S.1 3 j) v) 12 (4 * j + S.1 3 j) x) 3 j (S.1 3 j + 1)) rfl rfl rfl i).trans (w_u6 (A := A) (B := (w_uA (w_uA A 14 (4 * j + S.1 3 j) q) 11 j dd)) (S := q_up1 (q_up2 (q_up2 S 5 (4 * j + S.1 3 j) v) 12 (4 * j + S.1 3 j) x) 3 j (S.1 3 j + 1)) (fun _ _ => rfl))⟩
  · exact ⟨Or.inr (Or.inr ((show w_lv S Sm 7 i from hk))), (w_t7 (S := S) (T := q_up1 (q_up2 (q_up2 S 5 (4 * j + S.1 3 j) v) 12 (4 * j + S.1 3 j) x) 3 j (S.1 3 j + 1)) rfl rfl i).trans (w_u7 (A := A) (B := (w_uA (w_uA A 14 (4 * j + S.1 3 j) q) 11 j dd)) (S := q_up1 (q_up2 (q_up2 S 5 (4 * j + S.1 3 j) v) 12 (4 * j + S.1 3 j) x) 3 j (S.1 3 j + 1)) rfl rfl rfl rfl rfl)⟩
  · exact ⟨Or.inr (Or.inr ((show w_lv S Sm 8 i from hk))), (w_t8 (S := S) (T := q_up1 (q_up2 (q_up2 S 5 (4 * j + S.1 3 j) v) 12 (4 * j + S.1 3 j) x) 3 j (S.1 3 j + 1)) rfl i).trans (w_u8 (A := A) (B := (w_uA (w_uA A 14 (4 * j + S.1 3 j) q) 11 j dd)) (S := q_up1 (q_up2 (q_up2 S 5 (4 * j + S.1 3 j) v) 12 (4 * j + S.1 3 j) x) 3 j (S.1 3 j + 1)) )⟩
  · exact ⟨Or.inr (Or.inr ((show w_lv S Sm 9 i from hk))), (w_t9 (S := S) (T := q_up1 (q_up2 (q_up2 S 5 (4 * j + S.1 3 j) v) 12 (4 * j + S.1 3 j) x) 3 j (S.1 3 j + 1)) rfl i).trans (w_u9 (A := A) (B := (w_uA (w_uA A 14 (4 * j + S.1 3 j) q) 11 j dd)) (S := q_up1 (q_up2 (q_up2 S 5 (4 * j + S.1 3 j) v) 12 (4 * j + S.1 3 j) x) 3 j (S.1 3 j + 1)) )⟩
  · by_cases hin : j = i
    · subst hin
      refine ⟨Or.inr (Or.inr ((show w_lv S Sm 10 _ from hk))), ?_⟩
      rw [w_uc_same]
      show _ = w_list E ((w_uA (w_uA A 14 (4 * j + S.1 3 j) q) 11 j dd) 11 _) (w_pars (q_up1 (q_up2 (q_up2 S 5 (4 * j + S.1 3 j) v) 12 (4 * j + S.1 3 j) x) 3 j (S.1 3 j + 1)) _).length
      rw [w_pars_w, show (w_pars S j ++ [4 * j + S.1 3 j]).length = (w_pars S j).length + 1 by simp, w_uA_same]
    · replace hin : ¬ i = j := fun q => hin q.symm
      refine ⟨Or.inr (Or.inr ((show w_lv S Sm 10 i from hk))), ?_⟩
      rw [w_uc_ix _ hin, w_uc_tag _ (by decide), w_uc_tag _ (by decide), w_uc_tag _ (by decide)]
      exact ((show w_list E (A 11 i) (w_pars S i).length = w_list E (A 11 i) (w_pars (q_up1 (q_up2 (q_up2 S 5 (4 * j + S.1 3 j) v) 12 (4 * j + S.1 3 j) x) 3 j (S.1 3 j + 1)) i).length by rw [w_pars_n (S := S) (T := q_up1 (q_up2 (q_up2 S 5 (4 * j + S.1 3 j) v) 12 (4 * j + S.1 3 j) x) 3 j (S.1 3 j + 1)) (show S.1 3 i = q_updN (S.1 3) j (S.1 3 j + 1) i from (if_neg hin).symm)])).trans (w_u10 (A := A) (B := (w_uA (w_uA A 14 (4 * j + S.1 3 j) q) 11 j dd)) (S := q_up1 (q_up2 (q_up2 S 5 (4 * j + S.1 3 j) v) 12 (4 * j + S.1 3 j) x) 3 j (S.1 3 j + 1)) (by rw [w_uA_ix _ hin, w_uA_tag _ (by decide)]))
  · by_cases hin : j = i
    · subst hin
      refine ⟨Or.inl ⟨rfl, rfl⟩, ?_⟩
      rw [w_uc_tag _ (by decide), w_uc_same]
      show _ = w_data E (w_pars (q_up1 (q_up2 (q_up2 S 5 (4 * j + S.1 3 j) v) 12 (4 * j + S.1 3 j) x) 3 j (S.1 3 j + 1)) _) ((w_uA (w_uA A 14 (4 * j + S.1 3 j) q) 11 j dd) 14)
      rw [w_pars_w]
      exact w_data_c (fun x hx => rfl)
    · replace hin : ¬ i = j := fun q => hin q.symm
      have hps := (w_pars_n (S := S) (T := q_up1 (q_up2 (q_up2 S 5 (4 * j + S.1 3 j) v) 12 (4 * j + S.1 3 j) x) 3 j (S.1 3 j + 1)) (show S.1 3 i = q_updN (S.1 3) j (S.1 3 j + 1) i from (if_neg hin).symm))
      refine ⟨Or.inr (Or.inr ((show w_lv S Sm 11 i from ⟨hk.1, fun q => hk.2 (hps.symm.trans q)⟩))), ?_⟩
      rw [w_uc_tag _ (by decide), w_uc_ix _ hin, w_uc_tag _ (by decide), w_uc_tag _ (by decide)]
      exact ((show w_data E (w_pars S i) (A 14) = w_data E (w_pars (q_up1 (q_up2 (q_up2 S 5 (4 * j + S.1 3 j) v) 12 (4 * j + S.1 3 j) x) 3 j (S.1 3 j + 1)) i) (A 14) by rw [hps])).trans (w_u11 (A := A) (B := (w_uA (w_uA A 14 (4 * j + S.1 3 j) q) 11 j dd)) (S := q_up1 (q_up2 (q_up2 S 5 (4 * j + S.1 3 j) v) 12 (4 * j + S.1 3 j) x) 3 j (S.1 3 j + 1)) (fun x hx => (by rw [w_uA_tag _ (by decide), w_uA_ix _ (show ¬ x = 4 * j + S.1 3 j from fun e9 => by rw [← hps] at hx; exact w_pars_ne hin (hhome i hk.1).2 hx h4 e9)])))
  · exact ⟨Or.inr (Or.inr ((show w_lv S Sm 12 i from hk))), (w_t12 (S := S) (T := q_up1 (q_up2 (q_up2 S 5 (4 * j + S.1 3 j) v) 12 (4 * j + S.1 3 j) x) 3 j (S.1 3 j + 1)) rfl rfl i).trans (w_u12 (A := A) (B := (w_uA (w_uA A 14 (4 * j + S.1 3 j) q) 11 j dd)) (S := q_up1 (q_up2 (q_up2 S 5 (4 * j + S.1 3 j) v) 12 (4 * j + S.1 3 j) x) 3 j (S.1 3 j + 1)) rfl)⟩
  · exact ⟨Or.inr (Or.inr ((show w_lv S Sm 13 i from hk))), (w_t13 (S := S) (T := q_up1 (q_up2 (q_up2 S 5 (4 * j + S.1 3 j) v) 12 (4 * j + S.1 3 j) x) 3 j (S.1 3 j + 1)) rfl rfl i).trans (w_u13 (A := A) (B := (w_uA (w_uA A 14 (4 * j + S.1 3 j) q) 11 j dd)) (S := q_up1 (q_up2 (q_up2 S 5 (4 * j + S.1 3 j) v) 12 (4 * j + S.1 3 j) x) 3 j (S.1 3 j + 1)) (fun _ _ => rfl))⟩
  · have hl14 : ¬ i = (4 * j + S.1 3 j) → i / 4 < q_ns S ∧ i % 4 < S.1 3 (i / 4) := fun hin => by
      have h1 : i / 4 < q_ns S := hk.1
      have h2 : i % 4 < q_updN (S.1 3) j (S.1 3 j + 1) (i / 4) := hk.2
      refine ⟨h1, ?_⟩
      by_cases h9 : i / 4 = j
      · rw [show q_updN (S.1 3) j (S.1 3 j + 1) (i / 4) = S.1 3 j + 1 from if_pos h9] at h2
        rw [h9]
        omega
      · rw [show q_updN (S.1 3) j (S.1 3 j + 1) (i / 4) = S.1 3 (i / 4) from if_neg h9] at h2
        exact h2
    by_cases hin : (4 * j + S.1 3 j) = i
    · subst hin
      refine ⟨Or.inr (Or.inl ⟨rfl, rfl⟩), ?_⟩
      rw [w_uc_tag _ (by decide), w_uc_tag _ (by decide), w_uc_same]
      show _ = Sum.inr (3, [Value.int (upd (S.2 5) (4 * j + S.1 3 j) v (4 * j + S.1 3 j)), .int (upd (S.2 12) (4 * j + S.1 3 j) x (4 * j + S.1 3 j))])
      rw [show upd (S.2 5) (4 * j + S.1 3 j) v (4 * j + S.1 3 j) = v from if_pos rfl, show upd (S.2 12) (4 * j + S.1 3 j) x (4 * j + S.1 3 j) = x from if_pos rfl]
    · replace hin : ¬ i = (4 * j + S.1 3 j) := fun q => hin q.symm
      refine ⟨Or.inr (Or.inr ((show w_lv S Sm 14 i from hl14 hin))), ?_⟩
      rw [w_uc_tag _ (by decide), w_uc_tag _ (by decide), w_uc_ix _ hin, w_uc_ix _ hin]
      exact (w_t14x hin).trans (w_u14 (A := A) (B := (w_uA (w_uA A 14 (4 * j + S.1 3 j) q) 11 j dd)) (S := q_up1 (q_up2 (q_up2 S 5 (4 * j + S.1 3 j) v) 12 (4 * j + S.1 3 j) x) 3 j (S.1 3 j + 1)) )
  · exact ⟨Or.inr (Or.inr ((show w_lv S Sm 15 i from hk))), (w_t15 (S := S) (T := q_up1 (q_up2 (q_up2 S 5 (4 * j + S.1 3 j) v) 12 (4 * j + S.1 3 j) x) 3 j (S.1 3 j + 1)) ⟨rfl, rfl, rfl, rfl, rfl⟩ rfl rfl i).trans (w_u15 (A := A) (B := (w_uA (w_uA A 14 (4 * j + S.1 3 j) q) 11 j dd)) (S := q_up1 (q_up2 (q_up2 S 5 (4 * j + S.1 3 j) v) 12 (4 * j + S.1 3 j) x) 3 j (S.1 3 j + 1)) rfl)⟩
  · exact ⟨Or.inr (Or.inr ((show w_lv S Sm 16 i from hk))), (w_t16 (S := S) (T := q_up1 (q_up2 (q_up2 S 5 (4 * j + S.1 3 j) v) 12 (4 * j + S.1 3 j) x) 3 j (S.1 3 j + 1)) rfl i).trans (w_u16 (A := A) (B := (w_uA (w_uA A 14 (4 * j + S.1 3 j) q) 11 j dd)) (S := q_up1 (q_up2 (q_up2 S 5 (4 * j + S.1 3 j) v) 12 (4 * j + S.1 3 j) x) 3 j (S.1 3 j + 1)) rfl)⟩
  · exact ⟨Or.inr (Or.inr ((show w_lv S Sm 17 i from hk))), (w_t17 (S := S) (T := q_up1 (q_up2 (q_up2 S 5 (4 * j + S.1 3 j) v) 12 (4 * j + S.1 3 j) x) 3 j (S.1 3 j + 1)) rfl i).trans (w_u17 (A := A) (B := (w_uA (w_uA A 14 (4 * j + S.1 3 j) q) 11 j dd)) (S := q_up1 (q_up2 (q_up2 S 5 (4 * j + S.1 3 j) v) 12 (4 * j + S.1 3 j) x) 3 j (S.1 3 j + 1)) (fun _ _ => rfl))⟩
  · exact ⟨Or.inr (Or.inr ((show w_lv S Sm 18 i from hk))), (w_t18 (S := S) (T := q_up1 (q_up2 (q_up2 S 5 (4 * j + S.1 3 j) v) 12 (4 * j + S.1 3 j) x) 3 j (S.1 3 j + 1)) rfl rfl i).trans (w_u18 (A := A) (B := (w_uA (w_uA A 14 (4 * j + S.1 3 j) q) 11 j dd)) (S := q_up1 (q_up2 (q_up2 S 5 (4 * j + S.1 3 j) v) 12 (4 * j + S.1 3 j) x) 3 j (S.1 3 j + 1)) rfl)⟩
  · exact ⟨Or.inr (Or.inr ((show w_lv S Sm 19 i from hk))), (w_t19 (S := S) (T := q_up1 (q_up2 (q_up2 S 5 (4 * j + S.1 3 j) v) 12 (4 * j + S.1 3 j) x) 3 j (S.1 3 j + 1)) rfl rfl i).trans (w_u19 (A := A) (B := (w_uA (w_uA A 14 (4 * j + S.1 3 j) q) 11 j dd)) (S := q_up1 (q_up2 (q_up2 S 5 (4 * j + S.1 3 j) v) 12 (4 * j + S.1 3 j) x) 3 j (S.1 3 j + 1)) (fun _ _ => rfl))⟩
  · exact ⟨Or.inr (Or.inr ((show w_lv S Sm 20 i from hk))), (w_t20 (S := S) (T := q_up1 (q_up2 (q_up2 S 5 (4 * j + S.1 3 j) v) 12 (4 * j + S.1 3 j) x) 3 j (S.1 3 j + 1)) rfl i).trans (w_u20 (A := A) (B := (w_uA (w_uA A 14 (4 * j + S.1 3 j) q) 11 j dd)) (S := q_up1 (q_up2 (q_up2 S 5 (4 * j + S.1 3 j) v) 12 (4 * j + S.1 3 j) x) 3 j (S.1 3 j + 1)) rfl)⟩
  · exact ⟨Or.inr (Or.inr ((show w_lv S Sm 21 i from hk))), (w_t21 (S := S) (T := q_up1 (q_up2 (q_up2 S 5 (4 * j + S.1 3 j) v) 12 (4 * j + S.1 3 j) x) 3 j (S.1 3 j + 1)) rfl i).trans (w_u21 (A := A) (B := (w_uA (w_uA A 14 (4 * j + S.1 3 j) q) 11 j dd)) (S := q_up1 (q_up2 (q_up2 S 5 (4 * j + S.1 3 j) v) 12 (4 * j + S.1 3 j) x) 3 j (S.1 3 j + 1)) (fun _ _ => rfl))⟩
  · exact ⟨Or.inr (Or.inr ((show w_lv S Sm 22 i from hk))), (w_t22 (S := S) (T := q_up1 (q_up2 (q_up2 S 5 (4 * j + S.1 3 j) v) 12 (4 * j + S.1 3 j) x) 3 j (S.1 3 j + 1)) rfl i).trans (w_u22 (A := A) (B := (w_uA (w_uA A 14 (4 * j + S.1 3 j) q) 11 j dd)) (S := q_up1 (q_up2 (q_up2 S 5 (4 * j + S.1 3 j) v) 12 (4 * j + S.1 3 j) x) 3 j (S.1 3 j + 1)) rfl)⟩
  · exact ⟨Or.inr (Or.inr ((show w_lv S Sm 23 i from hk))), (w_t23 (S := S) (T := q_up1 (q_up2 (q_up2 S 5 (4 * j + S.1 3 j) v) 12 (4 * j + S.1 3 j) x) 3 j (S.1 3 j + 1)) rfl i).trans (w_u23 (A := A) (B := (w_uA (w_uA A 14 (4 * j + S.1 3 j) q) 11 j dd)) (S := q_up1 (q_up2 (q_up2 S 5 (4 * j + S.1 3 j) v) 12 (4 * j + S.1 3 j) x) 3 j (S.1 3 j + 1)) (fun _ _ => rfl))⟩
  · exact ⟨Or.inr (Or.inr ((show w_lv S Sm 24 i from hk))), (w_t24 (S := S) (T := q_up1 (q_up2 (q_up2 S 5 (4 * j + S.1 3 j) v) 12 (4 * j + S.1 3 j) x) 3 j (S.1 3 j + 1)) rfl i).trans (w_u24 (A := A) (B := (w_uA (w_uA A 14 (4 * j + S.1 3 j) q) 11 j dd)) (S := q_up1 (q_up2 (q_up2 S 5 (4 * j + S.1 3 j) v) 12 (4 * j + S.1 3 j) x) 3 j (S.1 3 j + 1)) rfl rfl rfl rfl)⟩
  · exact ⟨Or.inr (Or.inr ((show w_lv S Sm 25 i from hk))), (w_t25 (S := S) (T := q_up1 (q_up2 (q_up2 S 5 (4 * j + S.1 3 j) v) 12 (4 * j + S.1 3 j) x) 3 j (S.1 3 j + 1)) rfl i).trans (w_u25 (A := A) (B := (w_uA (w_uA A 14 (4 * j + S.1 3 j) q) 11 j dd)) (S := q_up1 (q_up2 (q_up2 S 5 (4 * j + S.1 3 j) v) 12 (4 * j + S.1 3 j) x) 3 j (S.1 3 j + 1)) )⟩
  · exact ⟨Or.inr (Or.inr ((show w_lv S Sm 26 i from hk))), (w_t26 (S := S) (T := q_up1 (q_up2 (q_up2 S 5 (4 * j + S.1 3 j) v) 12 (4 * j + S.1 3 j) x) 3 j (S.1 3 j + 1)) rfl i).trans (w_u26 (A := A) (B := (w_uA (w_uA A 14 (4 * j + S.1 3 j) q) 11 j dd)) (S := q_up1 (q_up2 (q_up2 S 5 (4 * j + S.1 3 j) v) 12 (4 * j + S.1 3 j) x) 3 j (S.1 3 j + 1)) )⟩
  · exact ⟨Or.inr (Or.inr ((show w_lv S Sm 27 i from hk))), (w_t27 (S := S) (T := q_up1 (q_up2 (q_up2 S 5 (4 * j + S.1 3 j) v) 12 (4 * j + S.1 3 j) x) 3 j (S.1 3 j + 1)) rfl i).trans (w_u27 (A := A) (B := (w_uA (w_uA A 14 (4 * j + S.1 3 j) q) 11 j dd)) (S := q_up1 (q_up2 (q_up2 S 5 (4 * j + S.1 3 j) v) 12 (4 * j + S.1 3 j) x) 3 j (S.1 3 j + 1)) )⟩
  · exact ⟨Or.inr (Or.inr ((show w_lv S Sm 28 i from hk))), (w_t28 (S := S) (T := q_up1 (q_up2 (q_up2 S 5 (4 * j + S.1 3 j) v) 12 (4 * j + S.1 3 j) x) 3 j (S.1 3 j + 1)) rfl i).trans (w_u28 (A := A) (B := (w_uA (w_uA A 14 (4 * j + S.1 3 j) q) 11 j dd)) (S := q_up1 (q_up2 (q_up2 S 5 (4 * j + S.1 3 j) v) 12 (4 * j + S.1 3 j) x) 3 j (S.1 3 j + 1)) )⟩
  · exact ⟨Or.inr (Or.inr ((show w_lv S Sm 29 i from hk))), (w_t29 (S := S) (T := q_up1 (q_up2 (q_up2 S 5 (4 * j + S.1 3 j) v) 12 (4 * j + S.1 3 j) x) 3 j (S.1 3 j + 1)) rfl i).trans (w_u29 (A := A) (B := (w_uA (w_uA A 14 (4 * j + S.1 3 j) q) 11 j dd)) (S := q_up1 (q_up2 (q_up2 S 5 (4 * j + S.1 3 j) v) 12 (4 * j + S.1 3 j) x) 3 j (S.1 3 j + 1)) )⟩
theorem q_ept_ef {S : q_S} {j : Nat} {k t w d : Int32} {e : Nat} (he : e < q_ne S) : q_ept S (q_up1 (q_up2 (q_up2 (q_up2 (q_up2 (q_up2 (q_up1 S 5 (q_ne S) j) 7 (q_ne S) k) 8 (q_ne S) t) 9 (q_ne S) w) 10 (q_ne S) d) 11 (q_ne S) 0) 0 2 (q_ne S + 1)) e := by
  have hn : ¬ e = q_ne S := by omega
  exact ⟨by show S.1 2 (S.1 5 e) = S.1 2 (q_updN (S.1 5) (q_ne S) j e); rw [show q_updN (S.1 5) (q_ne S) j e = S.1 5 e from if_neg hn], (show upd (S.2 8) (q_ne S) t e = S.2 8 e from if_neg hn).symm, (show upd (S.2 9) (q_ne S) w e = S.2 9 e from if_neg hn).symm, (show upd (S.2 10) (q_ne S) d e = S.2 10 e from if_neg hn).symm⟩
theorem q_eon_lt {S : q_S} {p x : Nat} (h : x ∈ q_eon S p) : x < q_ne S := List.mem_range.mp (List.mem_filter.mp h).1
theorem q_eof_lt {S : q_S} {p x : Nat} (h : x ∈ q_eof S p) : x < q_ne S := List.mem_range.mp (List.mem_filter.mp h).1
theorem q_eon_ef {S : q_S} {j : Nat} {k t w d : Int32} (i : Nat) : q_eon (q_up1 (q_up2 (q_up2 (q_up2 (q_up2 (q_up2 (q_up1 S 5 (q_ne S) j) 7 (q_ne S) k) 8 (q_ne S) t) 9 (q_ne S) w) 10 (q_ne S) d) 11 (q_ne S) 0) 0 2 (q_ne S + 1)) i = q_eon S i ++ (if q_home S j = i then [q_ne S] else []) := by
  show (List.range (q_ne S + 1)).filter (fun e => decide (S.1 2 (q_updN (S.1 5) (q_ne S) j e) = i)) = (List.range (q_ne S)).filter (fun e => decide (S.1 2 (S.1 5 e) = i)) ++ _
  rw [q_filt (g := fun e => decide (S.1 2 (S.1 5 e) = i)) (fun e he => by rw [show q_updN (S.1 5) (q_ne S) j e = S.1 5 e from if_neg (by omega)]), show q_updN (S.1 5) (q_ne S) j (q_ne S) = j from if_pos rfl]
  congr 1
  by_cases h : q_home S j = i
  · rw [if_pos h, if_pos (decide_eq_true_iff.mpr h)]
  · rw [if_neg h, if_neg (fun q => h (decide_eq_true_iff.mp q))]
theorem q_eof_ef {S : q_S} {j : Nat} {k t w d : Int32} (i : Nat) : q_eof (q_up1 (q_up2 (q_up2 (q_up2 (q_up2 (q_up2 (q_up1 S 5 (q_ne S) j) 7 (q_ne S) k) 8 (q_ne S) t) 9 (q_ne S) w) 10 (q_ne S) d) 11 (q_ne S) 0) 0 2 (q_ne S + 1)) i = q_eof S i ++ (if j = i then [q_ne S] else []) := by
  show (List.range (q_ne S + 1)).filter (fun e => decide (q_updN (S.1 5) (q_ne S) j e = i)) = (List.range (q_ne S)).filter (fun e => decide (S.1 5 e = i)) ++ _
  rw [q_filt (g := fun e => decide (S.1 5 e = i)) (fun e he => by rw [show q_updN (S.1 5) (q_ne S) j e = S.1 5 e from if_neg (by omega)]), show q_updN (S.1 5) (q_ne S) j (q_ne S) = j from if_pos rfl]
  congr 1
  by_cases h : j = i
  · rw [if_pos h, if_pos (decide_eq_true_iff.mpr h)]
  · rw [if_neg h, if_neg (fun q => h (decide_eq_true_iff.mp q))]
set_option maxRecDepth 100000 in
theorem w_effect {E : g_E} {A : w_A} {S Sm : q_S} {h : g_H} (hB : w_B S) {j q d1 d2 d3 : Nat} {k t w d bu ba : Int32} (hj : j < q_ns S) (hbu : bu = nI (q_build (q_up1 (q_up2 (q_up2 (q_up2 (q_up2 (q_up2 (q_up1 S 5 (q_ne S) j) 7 (q_ne S) k) 8 (q_ne S) t) 9 (q_ne S) w) 10 (q_ne S) d) 11 (q_ne S) 0) 0 2 (q_ne S + 1)) (q_ne S))) (hba : ba = q_base (q_up1 (q_up2 (q_up2 (q_up2 (q_up2 (q_up2 (q_up1 S 5 (q_ne S) j) 7 (q_ne S) k) 8 (q_ne S) t) 9 (q_ne S) w) 10 (q_ne S) d) 11 (q_ne S) 0) 0 2 (q_ne S + 1)) (q_ne S)) (hG : w_G E (w_uA (w_uA (w_uA (w_uA A 15 (q_ne S) q) 23 0 d1) 6 (q_home S j) d2) 13 j d3) (w_ul (w_ul (w_ul (w_ul (w_lv S Sm) 15 (q_ne S)) 23 0) 6 (q_home S j)) 13 j) (w_uc (w_uc (w_uc (w_uc (w_uc (w_uc (w_uc (w_uc (fun k i => w_cell E A (w_pk S Sm k) k i) 15 (q_ne S) (.inr (4, [.null, .int 0, .int 0, .int 0, .int 0, .int 0, .int 0, .int 0]))) 15 (q_ne S) (.inr (4, [.ref (A 2 (q_home S j)), .int k, .int bu, .int ba, .int (ba + w), .int (ba + w + d), .int d, .int 0]))) 23 0 (w_data E (List.range (q_ne S) ++ [q_ne S]) ((w_uA A 15 (q_ne S) q) 15))) 22 0 (w_list E d1 ((List.range (q_ne S)).length + 1))) 6 (q_home S j) (w_data E (q_eon S (q_home S j) ++ [q_ne S]) ((w_uA (w_uA A 15 (q_ne S) q) 23 0 d1) 15))) 5 (q_home S j) (w_list E d2 ((q_eon S (q_home S j)).length + 1))) 13 j (w_data E (q_eof S j ++ [q_ne S]) ((w_uA (w_uA (w_uA A 15 (q_ne S) q) 23 0 d1) 6 (q_home S j) d2) 15))) 12 j (w_list E d3 ((q_eof S j).length + 1))) h) : w_W E (w_uA (w_uA (w_uA (w_uA A 15 (q_ne S) q) 23 0 d1) 6 (q_home S j) d2) 13 j d3) (q_up1 (q_up2 (q_up2 (q_up2 (q_up2 (q_up2 (q_up1 S 5 (q_ne S) j) 7 (q_ne S) k) 8 (q_ne S) t) 9 (q_ne S) w) 10 (q_ne S) d) 11 (q_ne S) 0) 0 2 (q_ne S + 1)) Sm h := by
  obtain ⟨hnp, hns, hne, hpar, hhome, hact⟩ := id hB
  refine hG.fin (fun k i hk => ?_)
  by_cases hlt : k < 30
  case neg =>
    have h51 := w_ltag hk
    have hi := (w_lvM (by omega) h51 i).mp hk
    subst hi
    refine ⟨Or.inr (Or.inr (Or.inr (Or.inr ((w_lvM (by omega) h51 0).mpr rfl)))), ?_⟩
    rw [w_uc_tag _ (by omega), w_uc_tag _ (by omega), w_uc_tag _ (by omega), w_uc_tag _ (by omega), w_uc_tag _ (by omega), w_uc_tag _ (by omega), w_uc_tag _ (by omega), w_uc_tag _ (by omega)]
    show w_cell E A (w_pk S Sm k) k 0 = w_cell E _ (w_pk _ Sm k) k 0
    rw [w_pkM (by omega), w_pkM (by omega)]
    exact w_uM (fun t h1 h2 => by rw [w_uA_tag _ (by omega), w_uA_tag _ (by omega), w_uA_tag _ (by omega), w_uA_tag _ (by omega)]) (by omega) h51
  unfold w_lv at hk
  rw [w_pkC hlt] at hk ⊢
  rcases w_tagsC hlt with rfl | rfl | rfl | rfl | rfl | rfl | rfl | rfl | rfl | rfl | rfl | rfl | rfl | rfl | rfl | rfl | rfl | rfl | rfl | rfl | rfl | rfl | rfl | rfl | rfl | rfl | rfl | rfl | rfl | rfl
  · exact ⟨Or.inr (Or.inr (Or.inr (Or.inr ((show w_lv S Sm 0 i from hk))))), (w_t0 (S := S) (T := q_up1 (q_up2 (q_up2 (q_up2 (q_up2 (q_up2 (q_up1 S 5 (q_ne S) j) 7 (q_ne S) k) 8 (q_ne S) t) 9 (q_ne S) w) 10 (q_ne S) d) 11 (q_ne S) 0) 0 2 (q_ne S + 1)) (q_sl_c rfl rfl) rfl rfl rfl i).trans (w_u0 (A := A) (B := (w_uA (w_uA (w_uA (w_uA A 15 (q_ne S) q) 23 0 d1) 6 (q_home S j) d2) 13 j d3)) (S := q_up1 (q_up2 (q_up2 (q_up2 (q_up2 (q_up2 (q_up1 S 5 (q_ne S) j) 7 (q_ne S) k) 8 (q_ne S) t) 9 (q_ne S) w) 10 (q_ne S) d) 11 (q_ne S) 0) 0 2 (q_ne S + 1)) rfl rfl rfl rfl rfl rfl)⟩
  · exact ⟨Or.inr (Or.inr (Or.inr (Or.inr ((show w_lv S Sm 1 i from hk))))), (w_t1 (S := S) (T := q_up1 (q_up2 (q_up2 (q_up2 (q_up2 (q_up2 (q_up1 S 5 (q_ne S) j) 7 (q_ne S) k) 8 (q_ne S) t) 9 (q_ne S) w) 10 (q_ne S) d) 11 (q_ne S) 0) 0 2 (q_ne S + 1)) rfl i).trans (w_u1 (A := A) (B := (w_uA (w_uA (w_uA (w_uA A 15 (q_ne S) q) 23 0 d1) 6 (q_home S j) d2) 13 j d3)) (S := q_up1 (q_up2 (q_up2 (q_up2 (q_up2 (q_up2 (q_up1 S 5 (q_ne S) j) 7 (q_ne S) k) 8 (q_ne S) t) 9 (q_ne S) w) 10 (q_ne S) d) 11 (q_ne S) 0) 0 2 (q_ne S + 1)) )⟩
  · exact ⟨Or.inr (Or.inr (Or.inr (Or.inr ((show w_lv S Sm 2 i from hk))))), (w_t2 (S := S) (T := q_up1 (q_up2 (q_up2 (q_up2 (q_up2 (q_up2 (q_up1 S 5 (q_ne S) j) 7 (q_ne S) k) 8 (q_ne S) t) 9 (q_ne S) w) 10 (q_ne S) d) 11 (q_ne S) 0) 0 2 (q_ne S + 1)) rfl rfl i).trans (w_u2 (A := A) (B := (w_uA (w_uA (w_uA (w_uA A 15 (q_ne S) q) 23 0 d1) 6 (q_home S j) d2) 13 j d3)) (S := q_up1 (q_up2 (q_up2 (q_up2 (q_up2 (q_up2 (q_up1 S 5 (q_ne S) j) 7 (q_ne S) k) 8 (q_ne S) t) 9 (q_ne S) w) 10 (q_ne S) d) 11 (q_ne S) 0) 0 2 (q_ne S + 1)) (fun _ _ => rfl) rfl rfl)⟩
  · exact ⟨Or.inr (Or.inr (Or.inr (Or.inr ((show w_lv S Sm 3 i from hk))))), (w_t3 (S := S) (T := q_up1 (q_up2 (q_up2 (q_up2 (q_up2 (q_up2 (q_up1 S 5 (q_ne S) j) 7 (q_ne S) k) 8 (q_ne S) t) 9 (q_ne S) w) 10 (q_ne S) d) 11 (q_ne S) 0) 0 2 (q_ne S + 1)) rfl rfl i).trans (w_u3 (A := A) (B := (w_uA (w_uA (w_uA (w_uA A 15 (q_ne S) q) 23 0 d1) 6 (q_home S j) d2) 13 j d3)) (S := q_up1 (q_up2 (q_up2 (q_up2 (q_up2 (q_up2 (q_up1 S 5 (q_ne S) j) 7 (q_ne S) k) 8 (q_ne S) t) 9 (q_ne S) w) 10 (q_ne S) d) 11 (q_ne S) 0) 0 2 (q_ne S + 1)) rfl)⟩
  · exact ⟨Or.inr (Or.inr (Or.inr (Or.inr ((show w_lv S Sm 4 i from hk))))), (w_t4 (S := S) (T := q_up1 (q_up2 (q_up2 (q_up2 (q_up2 (q_up2 (q_up1 S 5 (q_ne S) j) 7 (q_ne S) k) 8 (q_ne S) t) 9 (q_ne S) w) 10 (q_ne S) d) 11 (q_ne S) 0) 0 2 (q_ne S + 1)) rfl rfl i).trans (w_u4 (A := A) (B := (w_uA (w_uA (w_uA (w_uA A 15 (q_ne S) q) 23 0 d1) 6 (q_home S j) d2) 13 j d3)) (S := q_up1 (q_up2 (q_up2 (q_up2 (q_up2 (q_up2 (q_up1 S 5 (q_ne S) j) 7 (q_ne S) k) 8 (q_ne S) t) 9 (q_ne S) w) 10 (q_ne S) d) 11 (q_ne S) 0) 0 2 (q_ne S + 1)) (fun _ _ => rfl))⟩
  · by_cases hin : (q_home S j) = i
    · subst hin
      refine ⟨Or.inr (Or.inr (Or.inr (Or.inr ((show w_lv S Sm 5 _ from hk))))), ?_⟩
      rw [w_uc_tag _ (by decide), w_uc_tag _ (by decide), w_uc_same]
      show _ = w_list E ((w_uA (w_uA (w_uA (w_uA A 15 (q_ne S) q) 23 0 d1) 6 (q_home S j) d2) 13 j d3) 6 (q_home S j)) (q_eon (q_up1 (q_up2 (q_up2 (q_up2 (q_up2 (q_up2 (q_up1 S 5 (q_ne S) j) 7 (q_ne S) k) 8 (q_ne S) t) 9 (q_ne S) w) 10 (q_ne S) d) 11 (q_ne S) 0) 0 2 (q_ne S + 1)) (q_home S j)).length
      rw [q_eon_ef, if_pos rfl, show (q_eon S (q_home S j) ++ [q_ne S]).length = (q_eon S (q_home S j)).length + 1 by simp, show (w_uA (w_uA (w_uA (w_uA A 15 (q_ne S) q) 23 0 d1) 6 (q_home S j) d2) 13 j d3) 6 (q_home S j) = _ from by rw [w_uA_tag _ (by decide), w_uA_same]]
    · replace hin : ¬ i = (q_home S j) := fun q => hin q.symm
      refine ⟨Or.inr (Or.inr (Or.inr (Or.inr ((show w_lv S Sm 5 i from hk))))), ?_⟩
      rw [w_uc_tag _ (by decide), w_uc_tag _ (by decide), w_uc_ix _ hin, w_uc_tag _ (by decide), w_uc_tag _ (by decide), w_uc_tag _ (by decide), w_uc_tag _ (by decide), w_uc_tag _ (by decide)]
      exact ((show w_list E (A 6 i) (q_eon S i).length = w_list E (A 6 i) (q_eon (q_up1 (q_up2 (q_up2 (q_up2 (q_up2 (q_up2 (q_up1 S 5 (q_ne S) j) 7 (q_ne S) k) 8 (q_ne S) t) 9 (q_ne S) w) 10 (q_ne S) d) 11 (q_ne S) 0) 0 2 (q_ne S + 1)) i).length by rw [q_eon_ef, if_neg (fun q => hin q.symm), List.append_nil])).trans (w_u5 (A := A) (B := (w_uA (w_uA (w_uA (w_uA A 15 (q_ne S) q) 23 0 d1) 6 (q_home S j) d2) 13 j d3)) (S := q_up1 (q_up2 (q_up2 (q_up2 (q_up2 (q_up2 (q_up1 S 5 (q_ne S) j) 7 (q_ne S) k) 8 (q_ne S) t) 9 (q_ne S) w) 10 (q_ne S) d) 11 (q_ne S) 0) 0 2 (q_ne S + 1)) (by rw [w_uA_tag _ (by decide), w_uA_ix _ hin, w_uA_tag _ (by decide), w_uA_tag _ (by decide)]))
  · by_cases hin : (q_home S j) = i
    · subst hin
      refine ⟨Or.inr (Or.inl ⟨rfl, rfl⟩), ?_⟩
      rw [w_uc_tag _ (by decide), w_uc_tag _ (by decide), w_uc_tag _ (by decide), w_uc_same]
      show _ = w_data E (q_eon (q_up1 (q_up2 (q_up2 (q_up2 (q_up2 (q_up2 (q_up1 S 5 (q_ne S) j) 7 (q_ne S) k) 8 (q_ne S) t) 9 (q_ne S) w) 10 (q_ne S) d) 11 (q_ne S) 0) 0 2 (q_ne S + 1)) (q_home S j)) ((w_uA (w_uA (w_uA (w_uA A 15 (q_ne S) q) 23 0 d1) 6 (q_home S j) d2) 13 j d3) 15)
      rw [q_eon_ef, if_pos rfl]
      exact w_data_c (fun x hx => rfl)
    · replace hin : ¬ i = (q_home S j) := fun q => hin q.symm
      have hq9 : q_eon (q_up1 (q_up2 (q_up2 (q_up2 (q_up2 (q_up2 (q_up1 S 5 (q_ne S) j) 7 (q_ne S) k) 8 (q_ne S) t) 9 (q_ne S) w) 10 (q_ne S) d) 11 (q_ne S) 0) 0 2 (q_ne S + 1)) i = q_eon S i := by rw [q_eon_ef, if_neg (fun q => hin q.symm), List.append_nil]
      refine ⟨Or.inr (Or.inr (Or.inr (Or.inr ((show w_lv S Sm 6 i from ⟨hk.1, fun q => hk.2 (hq9.trans q)⟩))))), ?_⟩
      rw [w_uc_tag _ (by decide), w_uc_tag _ (by decide), w_uc_tag _ (by decide), w_uc_ix _ hin, w_uc_tag _ (by decide), w_uc_tag _ (by decide), w_uc_tag _ (by decide), w_uc_tag _ (by decide)]
      exact ((show w_data E (q_eon S i) (A 15) = w_data E (q_eon (q_up1 (q_up2 (q_up2 (q_up2 (q_up2 (q_up2 (q_up1 S 5 (q_ne S) j) 7 (q_ne S) k) 8 (q_ne S) t) 9 (q_ne S) w) 10 (q_ne S) d) 11 (q_ne S) 0) 0 2 (q_ne S + 1)) i) (A 15) by rw [hq9])).trans (w_u6 (A := A) (B := (w_uA (w_uA (w_uA (w_uA A 15 (q_ne S) q) 23 0 d1) 6 (q_home S j) d2) 13 j d3)) (S := q_up1 (q_up2 (q_up2 (q_up2 (q_up2 (q_up2 (q_up1 S 5 (q_ne S) j) 7 (q_ne S) k) 8 (q_ne S) t) 9 (q_ne S) w) 10 (q_ne S) d) 11 (q_ne S) 0) 0 2 (q_ne S + 1)) (fun x hx => (by rw [w_uA_tag _ (by decide), w_uA_tag _ (by decide), w_uA_tag _ (by decide), w_uA_ix _ (show ¬ x = q_ne S from fun e9 => by rw [hq9] at hx; have := q_eon_lt hx; omega)])))
  · exact ⟨Or.inr (Or.inr (Or.inr (Or.inr ((show w_lv S Sm 7 i from hk))))), (w_t7 (S := S) (T := q_up1 (q_up2 (q_up2 (q_up2 (q_up2 (q_up2 (q_up1 S 5 (q_ne S) j) 7 (q_ne S) k) 8 (q_ne S) t) 9 (q_ne S) w) 10 (q_ne S) d) 11 (q_ne S) 0) 0 2 (q_ne S + 1)) rfl rfl i).trans (w_u7 (A := A) (B := (w_uA (w_uA (w_uA (w_uA A 15 (q_ne S) q) 23 0 d1) 6 (q_home S j) d2) 13 j d3)) (S := q_up1 (q_up2 (q_up2 (q_up2 (q_up2 (q_up2 (q_up1 S 5 (q_ne S) j) 7 (q_ne S) k) 8 (q_ne S) t) 9 (q_ne S) w) 10 (q_ne S) d) 11 (q_ne S) 0) 0 2 (q_ne S + 1)) rfl rfl rfl rfl rfl)⟩
  · exact ⟨Or.inr (Or.inr (Or.inr (Or.inr ((show w_lv S Sm 8 i from hk))))), (w_t8 (S := S) (T := q_up1 (q_up2 (q_up2 (q_up2 (q_up2 (q_up2 (q_up1 S 5 (q_ne S) j) 7 (q_ne S) k) 8 (q_ne S) t) 9 (q_ne S) w) 10 (q_ne S) d) 11 (q_ne S) 0) 0 2 (q_ne S + 1)) rfl i).trans (w_u8 (A := A) (B := (w_uA (w_uA (w_uA (w_uA A 15 (q_ne S) q) 23 0 d1) 6 (q_home S j) d2) 13 j d3)) (S := q_up1 (q_up2 (q_up2 (q_up2 (q_up2 (q_up2 (q_up1 S 5 (q_ne S) j) 7 (q_ne S) k) 8 (q_ne S) t) 9 (q_ne S) w) 10 (q_ne S) d) 11 (q_ne S) 0) 0 2 (q_ne S + 1)) )⟩
  · exact ⟨Or.inr (Or.inr (Or.inr (Or.inr ((show w_lv S Sm 9 i from hk))))), (w_t9 (S := S) (T := q_up1 (q_up2 (q_up2 (q_up2 (q_up2 (q_up2 (q_up1 S 5 (q_ne S) j) 7 (q_ne S) k) 8 (q_ne S) t) 9 (q_ne S) w) 10 (q_ne S) d) 11 (q_ne S) 0) 0 2 (q_ne S + 1)) rfl i).trans (w_u9 (A := A) (B := (w_uA (w_uA (w_uA (w_uA A 15 (q_ne S) q) 23 0 d1) 6 (q_home S j) d2) 13 j d3)) (S := q_up1 (q_up2 (q_up2 (q_up2 (q_up2 (q_up2 (q_up1 S 5 (q_ne S) j) 7 (q_ne S) k) 8 (q_ne S) t) 9 (q_ne S) w) 10 (q_ne S) d) 11 (q_ne S) 0) 0 2 (q_ne S + 1)) )⟩
  · exact ⟨Or.inr (Or.inr (Or.inr (Or.inr ((show w_lv S Sm 10 i from hk))))), (w_t10 (S := S) (T := q_up1 (q_up2 (q_up2 (q_up2 (q_up2 (q_up2 (q_up1 S 5 (q_ne S) j) 7 (q_ne S) k) 8 (q_ne S) t) 9 (q_ne S) w) 10 (q_ne S) d) 11 (q_ne S) 0) 0 2 (q_ne S + 1)) rfl i).trans (w_u10 (A := A) (B := (w_uA (w_uA (w_uA (w_uA A 15 (q_ne S) q) 23 0 d1) 6 (q_home S j) d2) 13 j d3)) (S := q_up1 (q_up2 (q_up2 (q_up2 (q_up2 (q_up2 (q_up1 S 5 (q_ne S) j) 7 (q_ne S) k) 8 (q_ne S) t) 9 (q_ne S) w) 10 (q_ne S) d) 11 (q_ne S) 0) 0 2 (q_ne S + 1)) rfl)⟩
  · exact ⟨Or.inr (Or.inr (Or.inr (Or.inr ((show w_lv S Sm 11 i from hk))))), (w_t11 (S := S) (T := q_up1 (q_up2 (q_up2 (q_up2 (q_up2 (q_up2 (q_up1 S 5 (q_ne S) j) 7 (q_ne S) k) 8 (q_ne S) t) 9 (q_ne S) w) 10 (q_ne S) d) 11 (q_ne S) 0) 0 2 (q_ne S + 1)) rfl i).trans (w_u11 (A := A) (B := (w_uA (w_uA (w_uA (w_uA A 15 (q_ne S) q) 23 0 d1) 6 (q_home S j) d2) 13 j d3)) (S := q_up1 (q_up2 (q_up2 (q_up2 (q_up2 (q_up2 (q_up1 S 5 (q_ne S) j) 7 (q_ne S) k) 8 (q_ne S) t) 9 (q_ne S) w) 10 (q_ne S) d) 11 (q_ne S) 0) 0 2 (q_ne S + 1)) (fun _ _ => rfl))⟩
  · by_cases hin : j = i
    · subst hin
      refine ⟨Or.inr (Or.inr (Or.inr (Or.inr ((show w_lv S Sm 12 _ from hk))))), ?_⟩
      rw [w_uc_same]
      show _ = w_list E ((w_uA (w_uA (w_uA (w_uA A 15 (q_ne S) q) 23 0 d1) 6 (q_home S j) d2) 13 j d3) 13 j) (q_eof (q_up1 (q_up2 (q_up2 (q_up2 (q_up2 (q_up2 (q_up1 S 5 (q_ne S) j) 7 (q_ne S) k) 8 (q_ne S) t) 9 (q_ne S) w) 10 (q_ne S) d) 11 (q_ne S) 0) 0 2 (q_ne S + 1)) j).length
      rw [q_eof_ef, if_pos rfl, show (q_eof S j ++ [q_ne S]).length = (q_eof S j).length + 1 by simp, show (w_uA (w_uA (w_uA (w_uA A 15 (q_ne S) q) 23 0 d1) 6 (q_home S j) d2) 13 j d3) 13 j = _ from by rw [w_uA_same]]
    · replace hin : ¬ i = j := fun q => hin q.symm
      refine ⟨Or.inr (Or.inr (Or.inr (Or.inr ((show w_lv S Sm 12 i from hk))))), ?_⟩
      rw [w_uc_ix _ hin, w_uc_tag _ (by decide), w_uc_tag _ (by decide), w_uc_tag _ (by decide), w_uc_tag _ (by decide), w_uc_tag _ (by decide), w_uc_tag _ (by decide), w_uc_tag _ (by decide)]
      exact ((show w_list E (A 13 i) (q_eof S i).length = w_list E (A 13 i) (q_eof (q_up1 (q_up2 (q_up2 (q_up2 (q_up2 (q_up2 (q_up1 S 5 (q_ne S) j) 7 (q_ne S) k) 8 (q_ne S) t) 9 (q_ne S) w) 10 (q_ne S) d) 11 (q_ne S) 0) 0 2 (q_ne S + 1)) i).length by rw [q_eof_ef, if_neg (fun q => hin q.symm), List.append_nil])).trans (w_u12 (A := A) (B := (w_uA (w_uA (w_uA (w_uA A 15 (q_ne S) q) 23 0 d1) 6 (q_home S j) d2) 13 j d3)) (S := q_up1 (q_up2 (q_up2 (q_up2 (q_up2 (q_up2 (q_up1 S 5 (q_ne S) j) 7 (q_ne S) k) 8 (q_ne S) t) 9 (q_ne S) w) 10 (q_ne S) d) 11 (q_ne S) 0) 0 2 (q_ne S + 1)) (by rw [w_uA_ix _ hin, w_uA_tag _ (by decide), w_uA_tag _ (by decide), w_uA_tag _ (by decide)]))
  · by_cases hin : j = i
    · subst hin
      refine ⟨Or.inl ⟨rfl, rfl⟩, ?_⟩
      rw [w_uc_tag _ (by decide), w_uc_same]
      show _ = w_data E (q_eof (q_up1 (q_up2 (q_up2 (q_up2 (q_up2 (q_up2 (q_up1 S 5 (q_ne S) j) 7 (q_ne S) k) 8 (q_ne S) t) 9 (q_ne S) w) 10 (q_ne S) d) 11 (q_ne S) 0) 0 2 (q_ne S + 1)) j) ((w_uA (w_uA (w_uA (w_uA A 15 (q_ne S) q) 23 0 d1) 6 (q_home S j) d2) 13 j d3) 15)
      rw [q_eof_ef, if_pos rfl]
      exact w_data_c (fun x hx => rfl)
    · replace hin : ¬ i = j := fun q => hin q.symm
      have hq9 : q_eof (q_up1 (q_up2 (q_up2 (q_up2 (q_up2 (q_up2 (q_up1 S 5 (q_ne S) j) 7 (q_ne S) k) 8 (q_ne S) t) 9 (q_ne S) w) 10 (q_ne S) d) 11 (q_ne S) 0) 0 2 (q_ne S + 1)) i = q_eof S i := by rw [q_eof_ef, if_neg (fun q => hin q.symm), List.append_nil]
      refine ⟨Or.inr (Or.inr (Or.inr (Or.inr ((show w_lv S Sm 13 i from ⟨hk.1, fun q => hk.2 (hq9.trans q)⟩))))), ?_⟩
      rw [w_uc_tag _ (by decide), w_uc_ix _ hin, w_uc_tag _ (by decide), w_uc_tag _ (by decide), w_uc_tag _ (by decide), w_uc_tag _ (by decide), w_uc_tag _ (by decide), w_uc_tag _ (by decide)]
      exact ((show w_data E (q_eof S i) (A 15) = w_data E (q_eof (q_up1 (q_up2 (q_up2 (q_up2 (q_up2 (q_up2 (q_up1 S 5 (q_ne S) j) 7 (q_ne S) k) 8 (q_ne S) t) 9 (q_ne S) w) 10 (q_ne S) d) 11 (q_ne S) 0) 0 2 (q_ne S + 1)) i) (A 15) by rw [hq9])).trans (w_u13 (A := A) (B := (w_uA (w_uA (w_uA (w_uA A 15 (q_ne S) q) 23 0 d1) 6 (q_home S j) d2) 13 j d3)) (S := q_up1 (q_up2 (q_up2 (q_up2 (q_up2 (q_up2 (q_up1 S 5 (q_ne S) j) 7 (q_ne S) k) 8 (q_ne S) t) 9 (q_ne S) w) 10 (q_ne S) d) 11 (q_ne S) 0) 0 2 (q_ne S + 1)) (fun x hx => (by rw [w_uA_tag _ (by decide), w_uA_tag _ (by decide), w_uA_tag _ (by decide), w_uA_ix _ (show ¬ x = q_ne S from fun e9 => by rw [hq9] at hx; have := q_eof_lt hx; omega)])))
  · exact ⟨Or.inr (Or.inr (Or.inr (Or.inr ((show w_lv S Sm 14 i from hk))))), (w_t14 (S := S) (T := q_up1 (q_up2 (q_up2 (q_up2 (q_up2 (q_up2 (q_up1 S 5 (q_ne S) j) 7 (q_ne S) k) 8 (q_ne S) t) 9 (q_ne S) w) 10 (q_ne S) d) 11 (q_ne S) 0) 0 2 (q_ne S + 1)) rfl rfl i).trans (w_u14 (A := A) (B := (w_uA (w_uA (w_uA (w_uA A 15 (q_ne S) q) 23 0 d1) 6 (q_home S j) d2) 13 j d3)) (S := q_up1 (q_up2 (q_up2 (q_up2 (q_up2 (q_up2 (q_up1 S 5 (q_ne S) j) 7 (q_ne S) k) 8 (q_ne S) t) 9 (q_ne S) w) 10 (q_ne S) d) 11 (q_ne S) 0) 0 2 (q_ne S + 1)) )⟩
  · have hi : i < q_ne S + 1 := hk
    by_cases hin : (q_ne S) = i
    · subst hin
      refine ⟨Or.inr (Or.inr (Or.inr (Or.inl ⟨rfl, rfl⟩))), ?_⟩
      rw [w_uc_tag _ (by decide), w_uc_tag _ (by decide), w_uc_tag _ (by decide), w_uc_tag _ (by decide), w_uc_tag _ (by decide), w_uc_tag _ (by decide), w_uc_same]
      show _ = Sum.inr (4, [Value.ref (A 2 (S.1 2 (q_updN (S.1 5) (q_ne S) j (q_ne S)))), .int (upd (S.2 7) (q_ne S) k (q_ne S)), .int (nI (q_build (q_up1 (q_up2 (q_up2 (q_up2 (q_up2 (q_up2 (q_up1 S 5 (q_ne S) j) 7 (q_ne S) k) 8 (q_ne S) t) 9 (q_ne S) w) 10 (q_ne S) d) 11 (q_ne S) 0) 0 2 (q_ne S + 1)) (q_ne S))), .int (q_base (q_up1 (q_up2 (q_up2 (q_up2 (q_up2 (q_up2 (q_up1 S 5 (q_ne S) j) 7 (q_ne S) k) 8 (q_ne S) t) 9 (q_ne S) w) 10 (q_ne S) d) 11 (q_ne S) 0) 0 2 (q_ne S + 1)) (q_ne S)), .int (q_base (q_up1 (q_up2 (q_up2 (q_up2 (q_up2 (q_up2 (q_up1 S 5 (q_ne S) j) 7 (q_ne S) k) 8 (q_ne S) t) 9 (q_ne S) w) 10 (q_ne S) d) 11 (q_ne S) 0) 0 2 (q_ne S + 1)) (q_ne S) + upd (S.2 9) (q_ne S) w (q_ne S)), .int (q_base (q_up1 (q_up2 (q_up2 (q_up2 (q_up2 (q_up2 (q_up1 S 5 (q_ne S) j) 7 (q_ne S) k) 8 (q_ne S) t) 9 (q_ne S) w) 10 (q_ne S) d) 11 (q_ne S) 0) 0 2 (q_ne S + 1)) (q_ne S) + upd (S.2 9) (q_ne S) w (q_ne S) + upd (S.2 10) (q_ne S) d (q_ne S)), .int (upd (S.2 10) (q_ne S) d (q_ne S)), .int (upd (S.2 11) (q_ne S) 0 (q_ne S))])
      rw [← hbu, ← hba, show q_updN (S.1 5) (q_ne S) j (q_ne S) = j from if_pos rfl, show upd (S.2 7) (q_ne S) k (q_ne S) = k from if_pos rfl, show upd (S.2 9) (q_ne S) w (q_ne S) = w from if_pos rfl, show upd (S.2 10) (q_ne S) d (q_ne S) = d from if_pos rfl, show upd (S.2 11) (q_ne S) 0 (q_ne S) = 0 from if_pos rfl]
    · replace hin : ¬ i = (q_ne S) := fun q => hin q.symm
      refine ⟨Or.inr (Or.inr (Or.inr (Or.inr ((show w_lv S Sm 15 i from (show i < q_ne S by omega)))))), ?_⟩
      rw [w_uc_tag _ (by decide), w_uc_tag _ (by decide), w_uc_tag _ (by decide), w_uc_tag _ (by decide), w_uc_tag _ (by decide), w_uc_tag _ (by decide), w_uc_ix _ hin, w_uc_ix _ hin]
      exact (w_t15p (fun e he => q_ept_ef (by omega)) (show upd (S.2 7) (q_ne S) k i = S.2 7 i from if_neg hin).symm (show upd (S.2 11) (q_ne S) 0 i = S.2 11 i from if_neg hin).symm).trans (w_u15 (A := A) (B := (w_uA (w_uA (w_uA (w_uA A 15 (q_ne S) q) 23 0 d1) 6 (q_home S j) d2) 13 j d3)) (S := q_up1 (q_up2 (q_up2 (q_up2 (q_up2 (q_up2 (q_up1 S 5 (q_ne S) j) 7 (q_ne S) k) 8 (q_ne S) t) 9 (q_ne S) w) 10 (q_ne S) d) 11 (q_ne S) 0) 0 2 (q_ne S + 1)) rfl)
  · exact ⟨Or.inr (Or.inr (Or.inr (Or.inr ((show w_lv S Sm 16 i from hk))))), (w_t16 (S := S) (T := q_up1 (q_up2 (q_up2 (q_up2 (q_up2 (q_up2 (q_up1 S 5 (q_ne S) j) 7 (q_ne S) k) 8 (q_ne S) t) 9 (q_ne S) w) 10 (q_ne S) d) 11 (q_ne S) 0) 0 2 (q_ne S + 1)) rfl i).trans (w_u16 (A := A) (B := (w_uA (w_uA (w_uA (w_uA A 15 (q_ne S) q) 23 0 d1) 6 (q_home S j) d2) 13 j d3)) (S := q_up1 (q_up2 (q_up2 (q_up2 (q_up2 (q_up2 (q_up1 S 5 (q_ne S) j) 7 (q_ne S) k) 8 (q_ne S) t) 9 (q_ne S) w) 10 (q_ne S) d) 11 (q_ne S) 0) 0 2 (q_ne S + 1)) rfl)⟩
  · exact ⟨Or.inr (Or.inr (Or.inr (Or.inr ((show w_lv S Sm 17 i from hk))))), (w_t17 (S := S) (T := q_up1 (q_up2 (q_up2 (q_up2 (q_up2 (q_up2 (q_up1 S 5 (q_ne S) j) 7 (q_ne S) k) 8 (q_ne S) t) 9 (q_ne S) w) 10 (q_ne S) d) 11 (q_ne S) 0) 0 2 (q_ne S + 1)) rfl i).trans (w_u17 (A := A) (B := (w_uA (w_uA (w_uA (w_uA A 15 (q_ne S) q) 23 0 d1) 6 (q_home S j) d2) 13 j d3)) (S := q_up1 (q_up2 (q_up2 (q_up2 (q_up2 (q_up2 (q_up1 S 5 (q_ne S) j) 7 (q_ne S) k) 8 (q_ne S) t) 9 (q_ne S) w) 10 (q_ne S) d) 11 (q_ne S) 0) 0 2 (q_ne S + 1)) (fun _ _ => rfl))⟩
  · exact ⟨Or.inr (Or.inr (Or.inr (Or.inr ((show w_lv S Sm 18 i from hk))))), (w_t18 (S := S) (T := q_up1 (q_up2 (q_up2 (q_up2 (q_up2 (q_up2 (q_up1 S 5 (q_ne S) j) 7 (q_ne S) k) 8 (q_ne S) t) 9 (q_ne S) w) 10 (q_ne S) d) 11 (q_ne S) 0) 0 2 (q_ne S + 1)) rfl rfl i).trans (w_u18 (A := A) (B := (w_uA (w_uA (w_uA (w_uA A 15 (q_ne S) q) 23 0 d1) 6 (q_home S j) d2) 13 j d3)) (S := q_up1 (q_up2 (q_up2 (q_up2 (q_up2 (q_up2 (q_up1 S 5 (q_ne S) j) 7 (q_ne S) k) 8 (q_ne S) t) 9 (q_ne S) w) 10 (q_ne S) d) 11 (q_ne S) 0) 0 2 (q_ne S + 1)) rfl)⟩
  · exact ⟨Or.inr (Or.inr (Or.inr (Or.inr ((show w_lv S Sm 19 i from hk))))), (w_t19 (S := S) (T := q_up1 (q_up2 (q_up2 (q_up2 (q_up2 (q_up2 (q_up1 S 5 (q_ne S) j) 7 (q_ne S) k) 8 (q_ne S) t) 9 (q_ne S) w) 10 (q_ne S) d) 11 (q_ne S) 0) 0 2 (q_ne S + 1)) rfl rfl i).trans (w_u19 (A := A) (B := (w_uA (w_uA (w_uA (w_uA A 15 (q_ne S) q) 23 0 d1) 6 (q_home S j) d2) 13 j d3)) (S := q_up1 (q_up2 (q_up2 (q_up2 (q_up2 (q_up2 (q_up1 S 5 (q_ne S) j) 7 (q_ne S) k) 8 (q_ne S) t) 9 (q_ne S) w) 10 (q_ne S) d) 11 (q_ne S) 0) 0 2 (q_ne S + 1)) (fun _ _ => rfl))⟩
  · exact ⟨Or.inr (Or.inr (Or.inr (Or.inr ((show w_lv S Sm 20 i from hk))))), (w_t20 (S := S) (T := q_up1 (q_up2 (q_up2 (q_up2 (q_up2 (q_up2 (q_up1 S 5 (q_ne S) j) 7 (q_ne S) k) 8 (q_ne S) t) 9 (q_ne S) w) 10 (q_ne S) d) 11 (q_ne S) 0) 0 2 (q_ne S + 1)) rfl i).trans (w_u20 (A := A) (B := (w_uA (w_uA (w_uA (w_uA A 15 (q_ne S) q) 23 0 d1) 6 (q_home S j) d2) 13 j d3)) (S := q_up1 (q_up2 (q_up2 (q_up2 (q_up2 (q_up2 (q_up1 S 5 (q_ne S) j) 7 (q_ne S) k) 8 (q_ne S) t) 9 (q_ne S) w) 10 (q_ne S) d) 11 (q_ne S) 0) 0 2 (q_ne S + 1)) rfl)⟩
  · exact ⟨Or.inr (Or.inr (Or.inr (Or.inr ((show w_lv S Sm 21 i from hk))))), (w_t21 (S := S) (T := q_up1 (q_up2 (q_up2 (q_up2 (q_up2 (q_up2 (q_up1 S 5 (q_ne S) j) 7 (q_ne S) k) 8 (q_ne S) t) 9 (q_ne S) w) 10 (q_ne S) d) 11 (q_ne S) 0) 0 2 (q_ne S + 1)) rfl i).trans (w_u21 (A := A) (B := (w_uA (w_uA (w_uA (w_uA A 15 (q_ne S) q) 23 0 d1) 6 (q_home S j) d2) 13 j d3)) (S := q_up1 (q_up2 (q_up2 (q_up2 (q_up2 (q_up2 (q_up1 S 5 (q_ne S) j) 7 (q_ne S) k) 8 (q_ne S) t) 9 (q_ne S) w) 10 (q_ne S) d) 11 (q_ne S) 0) 0 2 (q_ne S + 1)) (fun _ _ => rfl))⟩
  · obtain ⟨rfl, -⟩ := hk
    refine ⟨Or.inr (Or.inr (Or.inr (Or.inr ((show w_lv S Sm 22 0 from ⟨rfl, by decide⟩))))), ?_⟩
    show w_list E d1 ((List.range (q_ne S)).length + 1) = w_list E ((w_uA (w_uA (w_uA (w_uA A 15 (q_ne S) q) 23 0 d1) 6 (q_home S j) d2) 13 j d3) 23 0) (List.range (q_ne S + 1)).length
    rw [List.length_range, List.length_range]
    rfl
  · obtain ⟨rfl, -⟩ := hk
    refine ⟨Or.inr (Or.inr (Or.inl ⟨rfl, rfl⟩)), ?_⟩
    show w_data E (List.range (q_ne S) ++ [q_ne S]) ((w_uA A 15 (q_ne S) q) 15) = w_data E (List.range (q_ne S + 1)) ((w_uA (w_uA (w_uA (w_uA A 15 (q_ne S) q) 23 0 d1) 6 (q_home S j) d2) 13 j d3) 15)
    rw [List.range_succ]
    exact w_data_c (fun x hx => rfl)
  · exact ⟨Or.inr (Or.inr (Or.inr (Or.inr ((show w_lv S Sm 24 i from hk))))), (w_t24 (S := S) (T := q_up1 (q_up2 (q_up2 (q_up2 (q_up2 (q_up2 (q_up1 S 5 (q_ne S) j) 7 (q_ne S) k) 8 (q_ne S) t) 9 (q_ne S) w) 10 (q_ne S) d) 11 (q_ne S) 0) 0 2 (q_ne S + 1)) rfl i).trans (w_u24 (A := A) (B := (w_uA (w_uA (w_uA (w_uA A 15 (q_ne S) q) 23 0 d1) 6 (q_home S j) d2) 13 j d3)) (S := q_up1 (q_up2 (q_up2 (q_up2 (q_up2 (q_up2 (q_up1 S 5 (q_ne S) j) 7 (q_ne S) k) 8 (q_ne S) t) 9 (q_ne S) w) 10 (q_ne S) d) 11 (q_ne S) 0) 0 2 (q_ne S + 1)) rfl rfl rfl rfl)⟩
  · exact ⟨Or.inr (Or.inr (Or.inr (Or.inr ((show w_lv S Sm 25 i from hk))))), (w_t25 (S := S) (T := q_up1 (q_up2 (q_up2 (q_up2 (q_up2 (q_up2 (q_up1 S 5 (q_ne S) j) 7 (q_ne S) k) 8 (q_ne S) t) 9 (q_ne S) w) 10 (q_ne S) d) 11 (q_ne S) 0) 0 2 (q_ne S + 1)) rfl i).trans (w_u25 (A := A) (B := (w_uA (w_uA (w_uA (w_uA A 15 (q_ne S) q) 23 0 d1) 6 (q_home S j) d2) 13 j d3)) (S := q_up1 (q_up2 (q_up2 (q_up2 (q_up2 (q_up2 (q_up1 S 5 (q_ne S) j) 7 (q_ne S) k) 8 (q_ne S) t) 9 (q_ne S) w) 10 (q_ne S) d) 11 (q_ne S) 0) 0 2 (q_ne S + 1)) )⟩
  · exact ⟨Or.inr (Or.inr (Or.inr (Or.inr ((show w_lv S Sm 26 i from hk))))), (w_t26 (S := S) (T := q_up1 (q_up2 (q_up2 (q_up2 (q_up2 (q_up2 (q_up1 S 5 (q_ne S) j) 7 (q_ne S) k) 8 (q_ne S) t) 9 (q_ne S) w) 10 (q_ne S) d) 11 (q_ne S) 0) 0 2 (q_ne S + 1)) rfl i).trans (w_u26 (A := A) (B := (w_uA (w_uA (w_uA (w_uA A 15 (q_ne S) q) 23 0 d1) 6 (q_home S j) d2) 13 j d3)) (S := q_up1 (q_up2 (q_up2 (q_up2 (q_up2 (q_up2 (q_up1 S 5 (q_ne S) j) 7 (q_ne S) k) 8 (q_ne S) t) 9 (q_ne S) w) 10 (q_ne S) d) 11 (q_ne S) 0) 0 2 (q_ne S + 1)) )⟩
  · exact ⟨Or.inr (Or.inr (Or.inr (Or.inr ((show w_lv S Sm 27 i from hk))))), (w_t27 (S := S) (T := q_up1 (q_up2 (q_up2 (q_up2 (q_up2 (q_up2 (q_up1 S 5 (q_ne S) j) 7 (q_ne S) k) 8 (q_ne S) t) 9 (q_ne S) w) 10 (q_ne S) d) 11 (q_ne S) 0) 0 2 (q_ne S + 1)) rfl i).trans (w_u27 (A := A) (B := (w_uA (w_uA (w_uA (w_uA A 15 (q_ne S) q) 23 0 d1) 6 (q_home S j) d2) 13 j d3)) (S := q_up1 (q_up2 (q_up2 (q_up2 (q_up2 (q_up2 (q_up1 S 5 (q_ne S) j) 7 (q_ne S) k) 8 (q_ne S) t) 9 (q_ne S) w) 10 (q_ne S) d) 11 (q_ne S) 0) 0 2 (q_ne S + 1)) )⟩
  · exact ⟨Or.inr (Or.inr (Or.inr (Or.inr ((show w_lv S Sm 28 i from hk))))), (w_t28 (S := S) (T := q_up1 (q_up2 (q_up2 (q_up2 (q_up2 (q_up2 (q_up1 S 5 (q_ne S) j) 7 (q_ne S) k) 8 (q_ne S) t) 9 (q_ne S) w) 10 (q_ne S) d) 11 (q_ne S) 0) 0 2 (q_ne S + 1)) rfl i).trans (w_u28 (A := A) (B := (w_uA (w_uA (w_uA (w_uA A 15 (q_ne S) q) 23 0 d1) 6 (q_home S j) d2) 13 j d3)) (S := q_up1 (q_up2 (q_up2 (q_up2 (q_up2 (q_up2 (q_up1 S 5 (q_ne S) j) 7 (q_ne S) k) 8 (q_ne S) t) 9 (q_ne S) w) 10 (q_ne S) d) 11 (q_ne S) 0) 0 2 (q_ne S + 1)) )⟩
  · exact ⟨Or.inr (Or.inr (Or.inr (Or.inr ((show w_lv S Sm 29 i from hk))))), (w_t29 (S := S) (T := q_up1 (q_up2 (q_up2 (q_up2 (q_up2 (q_up2 (q_up1 S 5 (q_ne S) j) 7 (q_ne S) k) 8 (q_ne S) t) 9 (q_ne S) w) 10 (q_ne S) d) 11 (q_ne S) 0) 0 2 (q_ne S + 1)) rfl i).trans (w_u29 (A := A) (B := (w_uA (w_uA (w_uA (w_uA A 15 (q_ne S) q) 23 0 d1) 6 (q_home S j) d2) 13 j d3)) (S := q_up1 (q_up2 (q_up2 (q_up2 (q_up2 (q_up2 (q_up1 S 5 (q_ne S) j) 7 (q_ne S) k) 8 (q_ne S) t) 9 (q_ne S) w) 10 (q_ne S) d) 11 (q_ne S) 0) 0 2 (q_ne S + 1)) )⟩
