/-! the reference's writes -/
theorem w_tags {k : Nat} (h1 : 30 ≤ k) (h2 : k ≤ 51) : k = 30 ∨ k = 31 ∨ k = 32 ∨ k = 33 ∨ k = 34 ∨ k = 35 ∨ k = 36 ∨ k = 37 ∨ k = 38 ∨ k = 39 ∨ k = 40 ∨ k = 41 ∨ k = 42 ∨ k = 43 ∨ k = 44 ∨ k = 45 ∨ k = 46 ∨ k = 47 ∨ k = 48 ∨ k = 49 ∨ k = 50 ∨ k = 51 := by omega
theorem g_stepM {E : g_E} {X : g_X} {P : g_P} {A : w_A} {Sc Sm : q_S} {h : g_H} {z : Bool} {cs ss pc : Nat} {L : List (Option Value)} {st : List Value} (hW : w_W E A Sc Sm h) (k0 : Nat) (Sm' : q_S) (h1 : 30 ≤ k0) (h2 : k0 ≤ 51) (hc : ∀ k, 30 ≤ k → k ≤ 51 → ¬ k = k0 → w_cell E A Sm' k 0 = w_cell E A Sm k 0) {e : va_E} (he : e = w_cell E A Sm' k0 0)
    (kk : ∀ h1 : g_H, w_W E A Sc Sm' h1 → g_Go E X P h1 z cs ss pc L st) : g_Go E X P (g_set h (A k0 0) e) z cs ss pc L st := kk _ (w_putM hW h1 h2 hc he)
theorem w_m30 {E : g_E} {A : w_A} {S T : q_S} (h0 : S.2 13 1 = T.2 13 1) (h1 : S.1 0 0 = T.1 0 0) (h2 : S.1 0 1 = T.1 0 1) (h3 : S.1 0 2 = T.1 0 2) (h4 : S.1 0 3 = T.1 0 3) (h5 : S.1 0 4 = T.1 0 4) (h6 : S.2 13 0 = T.2 13 0) (h7 : S.1 0 5 = T.1 0 5) : w_cell E A S 30 0 = w_cell E A T 30 0 := by
  simp only [w_cell, q_np, q_ns, q_ne, q_at, q_clicks, q_time, h0, h1, h2, h3, h4, h5, h6, h7]
theorem w_m31 {E : g_E} {A : w_A} {S T : q_S} (h0 : S.2 0 = T.2 0) : w_cell E A S 31 0 = w_cell E A T 31 0 := by
  simp only [w_cell, q_np, q_ns, q_ne, q_at, q_clicks, q_time, h0]
theorem w_m32 {E : g_E} {A : w_A} {S T : q_S} (h0 : S.1 1 = T.1 1) : w_cell E A S 32 0 = w_cell E A T 32 0 := by
  simp only [w_cell, q_np, q_ns, q_ne, q_at, q_clicks, q_time, h0]
theorem w_m33 {E : g_E} {A : w_A} {S T : q_S} (h0 : S.1 2 = T.1 2) : w_cell E A S 33 0 = w_cell E A T 33 0 := by
  simp only [w_cell, q_np, q_ns, q_ne, q_at, q_clicks, q_time, h0]
theorem w_m34 {E : g_E} {A : w_A} {S T : q_S} (h0 : S.2 1 = T.2 1) : w_cell E A S 34 0 = w_cell E A T 34 0 := by
  simp only [w_cell, q_np, q_ns, q_ne, q_at, q_clicks, q_time, h0]
theorem w_m35 {E : g_E} {A : w_A} {S T : q_S} (h0 : S.2 2 = T.2 2) : w_cell E A S 35 0 = w_cell E A T 35 0 := by
  simp only [w_cell, q_np, q_ns, q_ne, q_at, q_clicks, q_time, h0]
theorem w_m36 {E : g_E} {A : w_A} {S T : q_S} (h0 : S.2 3 = T.2 3) : w_cell E A S 36 0 = w_cell E A T 36 0 := by
  simp only [w_cell, q_np, q_ns, q_ne, q_at, q_clicks, q_time, h0]
theorem w_m37 {E : g_E} {A : w_A} {S T : q_S} (h0 : S.2 4 = T.2 4) : w_cell E A S 37 0 = w_cell E A T 37 0 := by
  simp only [w_cell, q_np, q_ns, q_ne, q_at, q_clicks, q_time, h0]
theorem w_m38 {E : g_E} {A : w_A} {S T : q_S} (h0 : S.1 3 = T.1 3) : w_cell E A S 38 0 = w_cell E A T 38 0 := by
  simp only [w_cell, q_np, q_ns, q_ne, q_at, q_clicks, q_time, h0]
theorem w_m39 {E : g_E} {A : w_A} {S T : q_S} (h0 : S.2 5 = T.2 5) : w_cell E A S 39 0 = w_cell E A T 39 0 := by
  simp only [w_cell, q_np, q_ns, q_ne, q_at, q_clicks, q_time, h0]
theorem w_m40 {E : g_E} {A : w_A} {S T : q_S} (h0 : S.1 4 = T.1 4) : w_cell E A S 40 0 = w_cell E A T 40 0 := by
  simp only [w_cell, q_np, q_ns, q_ne, q_at, q_clicks, q_time, h0]
theorem w_m41 {E : g_E} {A : w_A} {S T : q_S} (h0 : S.2 6 = T.2 6) : w_cell E A S 41 0 = w_cell E A T 41 0 := by
  simp only [w_cell, q_np, q_ns, q_ne, q_at, q_clicks, q_time, h0]
theorem w_m42 {E : g_E} {A : w_A} {S T : q_S} (h0 : S.1 5 = T.1 5) : w_cell E A S 42 0 = w_cell E A T 42 0 := by
  simp only [w_cell, q_np, q_ns, q_ne, q_at, q_clicks, q_time, h0]
theorem w_m43 {E : g_E} {A : w_A} {S T : q_S} (h0 : S.2 7 = T.2 7) : w_cell E A S 43 0 = w_cell E A T 43 0 := by
  simp only [w_cell, q_np, q_ns, q_ne, q_at, q_clicks, q_time, h0]
theorem w_m44 {E : g_E} {A : w_A} {S T : q_S} (h0 : S.2 8 = T.2 8) : w_cell E A S 44 0 = w_cell E A T 44 0 := by
  simp only [w_cell, q_np, q_ns, q_ne, q_at, q_clicks, q_time, h0]
theorem w_m45 {E : g_E} {A : w_A} {S T : q_S} (h0 : S.2 9 = T.2 9) : w_cell E A S 45 0 = w_cell E A T 45 0 := by
  simp only [w_cell, q_np, q_ns, q_ne, q_at, q_clicks, q_time, h0]
theorem w_m46 {E : g_E} {A : w_A} {S T : q_S} (h0 : S.2 10 = T.2 10) : w_cell E A S 46 0 = w_cell E A T 46 0 := by
  simp only [w_cell, q_np, q_ns, q_ne, q_at, q_clicks, q_time, h0]
theorem w_m47 {E : g_E} {A : w_A} {S T : q_S} (h0 : S.2 11 = T.2 11) : w_cell E A S 47 0 = w_cell E A T 47 0 := by
  simp only [w_cell, q_np, q_ns, q_ne, q_at, q_clicks, q_time, h0]
theorem w_m48 {E : g_E} {A : w_A} {S T : q_S} (h0 : S.2 14 = T.2 14) : w_cell E A S 48 0 = w_cell E A T 48 0 := by
  simp only [w_cell, q_np, q_ns, q_ne, q_at, q_clicks, q_time, h0]
theorem w_m49 {E : g_E} {A : w_A} {S T : q_S} (h0 : S.2 15 = T.2 15) : w_cell E A S 49 0 = w_cell E A T 49 0 := by
  simp only [w_cell, q_np, q_ns, q_ne, q_at, q_clicks, q_time, h0]
theorem w_m50 {E : g_E} {A : w_A} {S T : q_S} (h0 : S.2 16 = T.2 16) : w_cell E A S 50 0 = w_cell E A T 50 0 := by
  simp only [w_cell, q_np, q_ns, q_ne, q_at, q_clicks, q_time, h0]
theorem w_m51 {E : g_E} {A : w_A} {S T : q_S} (h0 : S.2 17 = T.2 17) : w_cell E A S 51 0 = w_cell E A T 51 0 := by
  simp only [w_cell, q_np, q_ns, q_ne, q_at, q_clicks, q_time, h0]
theorem w_hc13 {E : g_E} {A : w_A} {S : q_S} {i : Nat} {c : Int32} : ∀ k, 30 ≤ k → k ≤ 51 → ¬ k = 30 → w_cell E A (q_up2 S 13 i c) k 0 = w_cell E A S k 0 := by
  intro k h1 h2 h3
  rcases w_tags h1 h2 with rfl | rfl | rfl | rfl | rfl | rfl | rfl | rfl | rfl | rfl | rfl | rfl | rfl | rfl | rfl | rfl | rfl | rfl | rfl | rfl | rfl | rfl
  · exact absurd rfl h3
  · exact w_m31 (S := q_up2 S 13 i c) (T := S) rfl
  · exact w_m32 (S := q_up2 S 13 i c) (T := S) rfl
  · exact w_m33 (S := q_up2 S 13 i c) (T := S) rfl
  · exact w_m34 (S := q_up2 S 13 i c) (T := S) rfl
  · exact w_m35 (S := q_up2 S 13 i c) (T := S) rfl
  · exact w_m36 (S := q_up2 S 13 i c) (T := S) rfl
  · exact w_m37 (S := q_up2 S 13 i c) (T := S) rfl
  · exact w_m38 (S := q_up2 S 13 i c) (T := S) rfl
  · exact w_m39 (S := q_up2 S 13 i c) (T := S) rfl
  · exact w_m40 (S := q_up2 S 13 i c) (T := S) rfl
  · exact w_m41 (S := q_up2 S 13 i c) (T := S) rfl
  · exact w_m42 (S := q_up2 S 13 i c) (T := S) rfl
  · exact w_m43 (S := q_up2 S 13 i c) (T := S) rfl
  · exact w_m44 (S := q_up2 S 13 i c) (T := S) rfl
  · exact w_m45 (S := q_up2 S 13 i c) (T := S) rfl
  · exact w_m46 (S := q_up2 S 13 i c) (T := S) rfl
  · exact w_m47 (S := q_up2 S 13 i c) (T := S) rfl
  · exact w_m48 (S := q_up2 S 13 i c) (T := S) rfl
  · exact w_m49 (S := q_up2 S 13 i c) (T := S) rfl
  · exact w_m50 (S := q_up2 S 13 i c) (T := S) rfl
  · exact w_m51 (S := q_up2 S 13 i c) (T := S) rfl
theorem w_hc0 {E : g_E} {A : w_A} {S : q_S} {i : Nat} {c : Nat} : ∀ k, 30 ≤ k → k ≤ 51 → ¬ k = 30 → w_cell E A (q_up1 S 0 i c) k 0 = w_cell E A S k 0 := by
  intro k h1 h2 h3
  rcases w_tags h1 h2 with rfl | rfl | rfl | rfl | rfl | rfl | rfl | rfl | rfl | rfl | rfl | rfl | rfl | rfl | rfl | rfl | rfl | rfl | rfl | rfl | rfl | rfl
  · exact absurd rfl h3
  · exact w_m31 (S := q_up1 S 0 i c) (T := S) rfl
  · exact w_m32 (S := q_up1 S 0 i c) (T := S) rfl
  · exact w_m33 (S := q_up1 S 0 i c) (T := S) rfl
  · exact w_m34 (S := q_up1 S 0 i c) (T := S) rfl
  · exact w_m35 (S := q_up1 S 0 i c) (T := S) rfl
  · exact w_m36 (S := q_up1 S 0 i c) (T := S) rfl
  · exact w_m37 (S := q_up1 S 0 i c) (T := S) rfl
  · exact w_m38 (S := q_up1 S 0 i c) (T := S) rfl
  · exact w_m39 (S := q_up1 S 0 i c) (T := S) rfl
  · exact w_m40 (S := q_up1 S 0 i c) (T := S) rfl
  · exact w_m41 (S := q_up1 S 0 i c) (T := S) rfl
  · exact w_m42 (S := q_up1 S 0 i c) (T := S) rfl
  · exact w_m43 (S := q_up1 S 0 i c) (T := S) rfl
  · exact w_m44 (S := q_up1 S 0 i c) (T := S) rfl
  · exact w_m45 (S := q_up1 S 0 i c) (T := S) rfl
  · exact w_m46 (S := q_up1 S 0 i c) (T := S) rfl
  · exact w_m47 (S := q_up1 S 0 i c) (T := S) rfl
  · exact w_m48 (S := q_up1 S 0 i c) (T := S) rfl
  · exact w_m49 (S := q_up1 S 0 i c) (T := S) rfl
  · exact w_m50 (S := q_up1 S 0 i c) (T := S) rfl
  · exact w_m51 (S := q_up1 S 0 i c) (T := S) rfl
theorem w_hv0 {E : g_E} {A : w_A} {S : q_S} {i : Nat} {c : Int32} : ∀ k, 30 ≤ k → k ≤ 51 → ¬ k = 31 → w_cell E A (q_up2 S 0 i c) k 0 = w_cell E A S k 0 := by
  intro k h1 h2 h3
  rcases w_tags h1 h2 with rfl | rfl | rfl | rfl | rfl | rfl | rfl | rfl | rfl | rfl | rfl | rfl | rfl | rfl | rfl | rfl | rfl | rfl | rfl | rfl | rfl | rfl
  · exact w_m30 (S := q_up2 S 0 i c) (T := S) rfl rfl rfl rfl rfl rfl rfl rfl
  · exact absurd rfl h3
  · exact w_m32 (S := q_up2 S 0 i c) (T := S) rfl
  · exact w_m33 (S := q_up2 S 0 i c) (T := S) rfl
  · exact w_m34 (S := q_up2 S 0 i c) (T := S) rfl
  · exact w_m35 (S := q_up2 S 0 i c) (T := S) rfl
  · exact w_m36 (S := q_up2 S 0 i c) (T := S) rfl
  · exact w_m37 (S := q_up2 S 0 i c) (T := S) rfl
  · exact w_m38 (S := q_up2 S 0 i c) (T := S) rfl
  · exact w_m39 (S := q_up2 S 0 i c) (T := S) rfl
  · exact w_m40 (S := q_up2 S 0 i c) (T := S) rfl
  · exact w_m41 (S := q_up2 S 0 i c) (T := S) rfl
  · exact w_m42 (S := q_up2 S 0 i c) (T := S) rfl
  · exact w_m43 (S := q_up2 S 0 i c) (T := S) rfl
  · exact w_m44 (S := q_up2 S 0 i c) (T := S) rfl
  · exact w_m45 (S := q_up2 S 0 i c) (T := S) rfl
  · exact w_m46 (S := q_up2 S 0 i c) (T := S) rfl
  · exact w_m47 (S := q_up2 S 0 i c) (T := S) rfl
  · exact w_m48 (S := q_up2 S 0 i c) (T := S) rfl
  · exact w_m49 (S := q_up2 S 0 i c) (T := S) rfl
  · exact w_m50 (S := q_up2 S 0 i c) (T := S) rfl
  · exact w_m51 (S := q_up2 S 0 i c) (T := S) rfl
theorem w_hv1 {E : g_E} {A : w_A} {S : q_S} {i : Nat} {c : Int32} : ∀ k, 30 ≤ k → k ≤ 51 → ¬ k = 34 → w_cell E A (q_up2 S 1 i c) k 0 = w_cell E A S k 0 := by
  intro k h1 h2 h3
  rcases w_tags h1 h2 with rfl | rfl | rfl | rfl | rfl | rfl | rfl | rfl | rfl | rfl | rfl | rfl | rfl | rfl | rfl | rfl | rfl | rfl | rfl | rfl | rfl | rfl
  · exact w_m30 (S := q_up2 S 1 i c) (T := S) rfl rfl rfl rfl rfl rfl rfl rfl
  · exact w_m31 (S := q_up2 S 1 i c) (T := S) rfl
  · exact w_m32 (S := q_up2 S 1 i c) (T := S) rfl
  · exact w_m33 (S := q_up2 S 1 i c) (T := S) rfl
  · exact absurd rfl h3
  · exact w_m35 (S := q_up2 S 1 i c) (T := S) rfl
  · exact w_m36 (S := q_up2 S 1 i c) (T := S) rfl
  · exact w_m37 (S := q_up2 S 1 i c) (T := S) rfl
  · exact w_m38 (S := q_up2 S 1 i c) (T := S) rfl
  · exact w_m39 (S := q_up2 S 1 i c) (T := S) rfl
  · exact w_m40 (S := q_up2 S 1 i c) (T := S) rfl
  · exact w_m41 (S := q_up2 S 1 i c) (T := S) rfl
  · exact w_m42 (S := q_up2 S 1 i c) (T := S) rfl
  · exact w_m43 (S := q_up2 S 1 i c) (T := S) rfl
  · exact w_m44 (S := q_up2 S 1 i c) (T := S) rfl
  · exact w_m45 (S := q_up2 S 1 i c) (T := S) rfl
  · exact w_m46 (S := q_up2 S 1 i c) (T := S) rfl
  · exact w_m47 (S := q_up2 S 1 i c) (T := S) rfl
  · exact w_m48 (S := q_up2 S 1 i c) (T := S) rfl
  · exact w_m49 (S := q_up2 S 1 i c) (T := S) rfl
  · exact w_m50 (S := q_up2 S 1 i c) (T := S) rfl
  · exact w_m51 (S := q_up2 S 1 i c) (T := S) rfl
theorem w_hv2 {E : g_E} {A : w_A} {S : q_S} {i : Nat} {c : Int32} : ∀ k, 30 ≤ k → k ≤ 51 → ¬ k = 35 → w_cell E A (q_up2 S 2 i c) k 0 = w_cell E A S k 0 := by
  intro k h1 h2 h3
  rcases w_tags h1 h2 with rfl | rfl | rfl | rfl | rfl | rfl | rfl | rfl | rfl | rfl | rfl | rfl | rfl | rfl | rfl | rfl | rfl | rfl | rfl | rfl | rfl | rfl
  · exact w_m30 (S := q_up2 S 2 i c) (T := S) rfl rfl rfl rfl rfl rfl rfl rfl
  · exact w_m31 (S := q_up2 S 2 i c) (T := S) rfl
  · exact w_m32 (S := q_up2 S 2 i c) (T := S) rfl
  · exact w_m33 (S := q_up2 S 2 i c) (T := S) rfl
  · exact w_m34 (S := q_up2 S 2 i c) (T := S) rfl
  · exact absurd rfl h3
  · exact w_m36 (S := q_up2 S 2 i c) (T := S) rfl
  · exact w_m37 (S := q_up2 S 2 i c) (T := S) rfl
  · exact w_m38 (S := q_up2 S 2 i c) (T := S) rfl
  · exact w_m39 (S := q_up2 S 2 i c) (T := S) rfl
  · exact w_m40 (S := q_up2 S 2 i c) (T := S) rfl
  · exact w_m41 (S := q_up2 S 2 i c) (T := S) rfl
  · exact w_m42 (S := q_up2 S 2 i c) (T := S) rfl
  · exact w_m43 (S := q_up2 S 2 i c) (T := S) rfl
  · exact w_m44 (S := q_up2 S 2 i c) (T := S) rfl
  · exact w_m45 (S := q_up2 S 2 i c) (T := S) rfl
  · exact w_m46 (S := q_up2 S 2 i c) (T := S) rfl
  · exact w_m47 (S := q_up2 S 2 i c) (T := S) rfl
  · exact w_m48 (S := q_up2 S 2 i c) (T := S) rfl
  · exact w_m49 (S := q_up2 S 2 i c) (T := S) rfl
  · exact w_m50 (S := q_up2 S 2 i c) (T := S) rfl
  · exact w_m51 (S := q_up2 S 2 i c) (T := S) rfl
theorem w_hv3 {E : g_E} {A : w_A} {S : q_S} {i : Nat} {c : Int32} : ∀ k, 30 ≤ k → k ≤ 51 → ¬ k = 36 → w_cell E A (q_up2 S 3 i c) k 0 = w_cell E A S k 0 := by
  intro k h1 h2 h3
  rcases w_tags h1 h2 with rfl | rfl | rfl | rfl | rfl | rfl | rfl | rfl | rfl | rfl | rfl | rfl | rfl | rfl | rfl | rfl | rfl | rfl | rfl | rfl | rfl | rfl
  · exact w_m30 (S := q_up2 S 3 i c) (T := S) rfl rfl rfl rfl rfl rfl rfl rfl
  · exact w_m31 (S := q_up2 S 3 i c) (T := S) rfl
  · exact w_m32 (S := q_up2 S 3 i c) (T := S) rfl
  · exact w_m33 (S := q_up2 S 3 i c) (T := S) rfl
  · exact w_m34 (S := q_up2 S 3 i c) (T := S) rfl
  · exact w_m35 (S := q_up2 S 3 i c) (T := S) rfl
  · exact absurd rfl h3
  · exact w_m37 (S := q_up2 S 3 i c) (T := S) rfl
  · exact w_m38 (S := q_up2 S 3 i c) (T := S) rfl
  · exact w_m39 (S := q_up2 S 3 i c) (T := S) rfl
  · exact w_m40 (S := q_up2 S 3 i c) (T := S) rfl
  · exact w_m41 (S := q_up2 S 3 i c) (T := S) rfl
  · exact w_m42 (S := q_up2 S 3 i c) (T := S) rfl
  · exact w_m43 (S := q_up2 S 3 i c) (T := S) rfl
  · exact w_m44 (S := q_up2 S 3 i c) (T := S) rfl
  · exact w_m45 (S := q_up2 S 3 i c) (T := S) rfl
  · exact w_m46 (S := q_up2 S 3 i c) (T := S) rfl
  · exact w_m47 (S := q_up2 S 3 i c) (T := S) rfl
  · exact w_m48 (S := q_up2 S 3 i c) (T := S) rfl
  · exact w_m49 (S := q_up2 S 3 i c) (T := S) rfl
  · exact w_m50 (S := q_up2 S 3 i c) (T := S) rfl
  · exact w_m51 (S := q_up2 S 3 i c) (T := S) rfl
theorem w_hv4 {E : g_E} {A : w_A} {S : q_S} {i : Nat} {c : Int32} : ∀ k, 30 ≤ k → k ≤ 51 → ¬ k = 37 → w_cell E A (q_up2 S 4 i c) k 0 = w_cell E A S k 0 := by
  intro k h1 h2 h3
  rcases w_tags h1 h2 with rfl | rfl | rfl | rfl | rfl | rfl | rfl | rfl | rfl | rfl | rfl | rfl | rfl | rfl | rfl | rfl | rfl | rfl | rfl | rfl | rfl | rfl
  · exact w_m30 (S := q_up2 S 4 i c) (T := S) rfl rfl rfl rfl rfl rfl rfl rfl
  · exact w_m31 (S := q_up2 S 4 i c) (T := S) rfl
  · exact w_m32 (S := q_up2 S 4 i c) (T := S) rfl
  · exact w_m33 (S := q_up2 S 4 i c) (T := S) rfl
  · exact w_m34 (S := q_up2 S 4 i c) (T := S) rfl
  · exact w_m35 (S := q_up2 S 4 i c) (T := S) rfl
  · exact w_m36 (S := q_up2 S 4 i c) (T := S) rfl
  · exact absurd rfl h3
  · exact w_m38 (S := q_up2 S 4 i c) (T := S) rfl
  · exact w_m39 (S := q_up2 S 4 i c) (T := S) rfl
  · exact w_m40 (S := q_up2 S 4 i c) (T := S) rfl
  · exact w_m41 (S := q_up2 S 4 i c) (T := S) rfl
  · exact w_m42 (S := q_up2 S 4 i c) (T := S) rfl
  · exact w_m43 (S := q_up2 S 4 i c) (T := S) rfl
  · exact w_m44 (S := q_up2 S 4 i c) (T := S) rfl
  · exact w_m45 (S := q_up2 S 4 i c) (T := S) rfl
  · exact w_m46 (S := q_up2 S 4 i c) (T := S) rfl
  · exact w_m47 (S := q_up2 S 4 i c) (T := S) rfl
  · exact w_m48 (S := q_up2 S 4 i c) (T := S) rfl
  · exact w_m49 (S := q_up2 S 4 i c) (T := S) rfl
  · exact w_m50 (S := q_up2 S 4 i c) (T := S) rfl
  · exact w_m51 (S := q_up2 S 4 i c) (T := S) rfl
theorem w_hv5 {E : g_E} {A : w_A} {S : q_S} {i : Nat} {c : Int32} : ∀ k, 30 ≤ k → k ≤ 51 → ¬ k = 39 → w_cell E A (q_up2 S 5 i c) k 0 = w_cell E A S k 0 := by
  intro k h1 h2 h3
  rcases w_tags h1 h2 with rfl | rfl | rfl | rfl | rfl | rfl | rfl | rfl | rfl | rfl | rfl | rfl | rfl | rfl | rfl | rfl | rfl | rfl | rfl | rfl | rfl | rfl
  · exact w_m30 (S := q_up2 S 5 i c) (T := S) rfl rfl rfl rfl rfl rfl rfl rfl
  · exact w_m31 (S := q_up2 S 5 i c) (T := S) rfl
  · exact w_m32 (S := q_up2 S 5 i c) (T := S) rfl
  · exact w_m33 (S := q_up2 S 5 i c) (T := S) rfl
  · exact w_m34 (S := q_up2 S 5 i c) (T := S) rfl
  · exact w_m35 (S := q_up2 S 5 i c) (T := S) rfl
  · exact w_m36 (S := q_up2 S 5 i c) (T := S) rfl
  · exact w_m37 (S := q_up2 S 5 i c) (T := S) rfl
  · exact w_m38 (S := q_up2 S 5 i c) (T := S) rfl
  · exact absurd rfl h3
  · exact w_m40 (S := q_up2 S 5 i c) (T := S) rfl
  · exact w_m41 (S := q_up2 S 5 i c) (T := S) rfl
  · exact w_m42 (S := q_up2 S 5 i c) (T := S) rfl
  · exact w_m43 (S := q_up2 S 5 i c) (T := S) rfl
  · exact w_m44 (S := q_up2 S 5 i c) (T := S) rfl
  · exact w_m45 (S := q_up2 S 5 i c) (T := S) rfl
  · exact w_m46 (S := q_up2 S 5 i c) (T := S) rfl
  · exact w_m47 (S := q_up2 S 5 i c) (T := S) rfl
  · exact w_m48 (S := q_up2 S 5 i c) (T := S) rfl
  · exact w_m49 (S := q_up2 S 5 i c) (T := S) rfl
  · exact w_m50 (S := q_up2 S 5 i c) (T := S) rfl
  · exact w_m51 (S := q_up2 S 5 i c) (T := S) rfl
theorem w_hv6 {E : g_E} {A : w_A} {S : q_S} {i : Nat} {c : Int32} : ∀ k, 30 ≤ k → k ≤ 51 → ¬ k = 41 → w_cell E A (q_up2 S 6 i c) k 0 = w_cell E A S k 0 := by
  intro k h1 h2 h3
  rcases w_tags h1 h2 with rfl | rfl | rfl | rfl | rfl | rfl | rfl | rfl | rfl | rfl | rfl | rfl | rfl | rfl | rfl | rfl | rfl | rfl | rfl | rfl | rfl | rfl
  · exact w_m30 (S := q_up2 S 6 i c) (T := S) rfl rfl rfl rfl rfl rfl rfl rfl
  · exact w_m31 (S := q_up2 S 6 i c) (T := S) rfl
  · exact w_m32 (S := q_up2 S 6 i c) (T := S) rfl
  · exact w_m33 (S := q_up2 S 6 i c) (T := S) rfl
  · exact w_m34 (S := q_up2 S 6 i c) (T := S) rfl
  · exact w_m35 (S := q_up2 S 6 i c) (T := S) rfl
  · exact w_m36 (S := q_up2 S 6 i c) (T := S) rfl
  · exact w_m37 (S := q_up2 S 6 i c) (T := S) rfl
  · exact w_m38 (S := q_up2 S 6 i c) (T := S) rfl
  · exact w_m39 (S := q_up2 S 6 i c) (T := S) rfl
  · exact w_m40 (S := q_up2 S 6 i c) (T := S) rfl
  · exact absurd rfl h3
  · exact w_m42 (S := q_up2 S 6 i c) (T := S) rfl
  · exact w_m43 (S := q_up2 S 6 i c) (T := S) rfl
  · exact w_m44 (S := q_up2 S 6 i c) (T := S) rfl
  · exact w_m45 (S := q_up2 S 6 i c) (T := S) rfl
  · exact w_m46 (S := q_up2 S 6 i c) (T := S) rfl
  · exact w_m47 (S := q_up2 S 6 i c) (T := S) rfl
  · exact w_m48 (S := q_up2 S 6 i c) (T := S) rfl
  · exact w_m49 (S := q_up2 S 6 i c) (T := S) rfl
  · exact w_m50 (S := q_up2 S 6 i c) (T := S) rfl
  · exact w_m51 (S := q_up2 S 6 i c) (T := S) rfl
theorem w_hv7 {E : g_E} {A : w_A} {S : q_S} {i : Nat} {c : Int32} : ∀ k, 30 ≤ k → k ≤ 51 → ¬ k = 43 → w_cell E A (q_up2 S 7 i c) k 0 = w_cell E A S k 0 := by
  intro k h1 h2 h3
  rcases w_tags h1 h2 with rfl | rfl | rfl | rfl | rfl | rfl | rfl | rfl | rfl | rfl | rfl | rfl | rfl | rfl | rfl | rfl | rfl | rfl | rfl | rfl | rfl | rfl
  · exact w_m30 (S := q_up2 S 7 i c) (T := S) rfl rfl rfl rfl rfl rfl rfl rfl
  · exact w_m31 (S := q_up2 S 7 i c) (T := S) rfl
  · exact w_m32 (S := q_up2 S 7 i c) (T := S) rfl
  · exact w_m33 (S := q_up2 S 7 i c) (T := S) rfl
  · exact w_m34 (S := q_up2 S 7 i c) (T := S) rfl
  · exact w_m35 (S := q_up2 S 7 i c) (T := S) rfl
  · exact w_m36 (S := q_up2 S 7 i c) (T := S) rfl
  · exact w_m37 (S := q_up2 S 7 i c) (T := S) rfl
  · exact w_m38 (S := q_up2 S 7 i c) (T := S) rfl
  · exact w_m39 (S := q_up2 S 7 i c) (T := S) rfl
  · exact w_m40 (S := q_up2 S 7 i c) (T := S) rfl
  · exact w_m41 (S := q_up2 S 7 i c) (T := S) rfl
  · exact w_m42 (S := q_up2 S 7 i c) (T := S) rfl
  · exact absurd rfl h3
  · exact w_m44 (S := q_up2 S 7 i c) (T := S) rfl
  · exact w_m45 (S := q_up2 S 7 i c) (T := S) rfl
  · exact w_m46 (S := q_up2 S 7 i c) (T := S) rfl
  · exact w_m47 (S := q_up2 S 7 i c) (T := S) rfl
  · exact w_m48 (S := q_up2 S 7 i c) (T := S) rfl
  · exact w_m49 (S := q_up2 S 7 i c) (T := S) rfl
  · exact w_m50 (S := q_up2 S 7 i c) (T := S) rfl
  · exact w_m51 (S := q_up2 S 7 i c) (T := S) rfl
theorem w_hv8 {E : g_E} {A : w_A} {S : q_S} {i : Nat} {c : Int32} : ∀ k, 30 ≤ k → k ≤ 51 → ¬ k = 44 → w_cell E A (q_up2 S 8 i c) k 0 = w_cell E A S k 0 := by
  intro k h1 h2 h3
  rcases w_tags h1 h2 with rfl | rfl | rfl | rfl | rfl | rfl | rfl | rfl | rfl | rfl | rfl | rfl | rfl | rfl | rfl | rfl | rfl | rfl | rfl | rfl | rfl | rfl
  · exact w_m30 (S := q_up2 S 8 i c) (T := S) rfl rfl rfl rfl rfl rfl rfl rfl
  · exact w_m31 (S := q_up2 S 8 i c) (T := S) rfl
  · exact w_m32 (S := q_up2 S 8 i c) (T := S) rfl
  · exact w_m33 (S := q_up2 S 8 i c) (T := S) rfl
  · exact w_m34 (S := q_up2 S 8 i c) (T := S) rfl
  · exact w_m35 (S := q_up2 S 8 i c) (T := S) rfl
  · exact w_m36 (S := q_up2 S 8 i c) (T := S) rfl
  · exact w_m37 (S := q_up2 S 8 i c) (T := S) rfl
  · exact w_m38 (S := q_up2 S 8 i c) (T := S) rfl
  · exact w_m39 (S := q_up2 S 8 i c) (T := S) rfl
  · exact w_m40 (S := q_up2 S 8 i c) (T := S) rfl
  · exact w_m41 (S := q_up2 S 8 i c) (T := S) rfl
  · exact w_m42 (S := q_up2 S 8 i c) (T := S) rfl
  · exact w_m43 (S := q_up2 S 8 i c) (T := S) rfl
  · exact absurd rfl h3
  · exact w_m45 (S := q_up2 S 8 i c) (T := S) rfl
  · exact w_m46 (S := q_up2 S 8 i c) (T := S) rfl
  · exact w_m47 (S := q_up2 S 8 i c) (T := S) rfl
  · exact w_m48 (S := q_up2 S 8 i c) (T := S) rfl
  · exact w_m49 (S := q_up2 S 8 i c) (T := S) rfl
  · exact w_m50 (S := q_up2 S 8 i c) (T := S) rfl
  · exact w_m51 (S := q_up2 S 8 i c) (T := S) rfl
theorem w_hv9 {E : g_E} {A : w_A} {S : q_S} {i : Nat} {c : Int32} : ∀ k, 30 ≤ k → k ≤ 51 → ¬ k = 45 → w_cell E A (q_up2 S 9 i c) k 0 = w_cell E A S k 0 := by
  intro k h1 h2 h3
  rcases w_tags h1 h2 with rfl | rfl | rfl | rfl | rfl | rfl | rfl | rfl | rfl | rfl | rfl | rfl | rfl | rfl | rfl | rfl | rfl | rfl | rfl | rfl | rfl | rfl
  · exact w_m30 (S := q_up2 S 9 i c) (T := S) rfl rfl rfl rfl rfl rfl rfl rfl
  · exact w_m31 (S := q_up2 S 9 i c) (T := S) rfl
  · exact w_m32 (S := q_up2 S 9 i c) (T := S) rfl
  · exact w_m33 (S := q_up2 S 9 i c) (T := S) rfl
  · exact w_m34 (S := q_up2 S 9 i c) (T := S) rfl
  · exact w_m35 (S := q_up2 S 9 i c) (T := S) rfl
  · exact w_m36 (S := q_up2 S 9 i c) (T := S) rfl
  · exact w_m37 (S := q_up2 S 9 i c) (T := S) rfl
  · exact w_m38 (S := q_up2 S 9 i c) (T := S) rfl
  · exact w_m39 (S := q_up2 S 9 i c) (T := S) rfl
  · exact w_m40 (S := q_up2 S 9 i c) (T := S) rfl
  · exact w_m41 (S := q_up2 S 9 i c) (T := S) rfl
  · exact w_m42 (S := q_up2 S 9 i c) (T := S) rfl
  · exact w_m43 (S := q_up2 S 9 i c) (T := S) rfl
  · exact w_m44 (S := q_up2 S 9 i c) (T := S) rfl
  · exact absurd rfl h3
  · exact w_m46 (S := q_up2 S 9 i c) (T := S) rfl
  · exact w_m47 (S := q_up2 S 9 i c) (T := S) rfl
  · exact w_m48 (S := q_up2 S 9 i c) (T := S) rfl
  · exact w_m49 (S := q_up2 S 9 i c) (T := S) rfl
  · exact w_m50 (S := q_up2 S 9 i c) (T := S) rfl
  · exact w_m51 (S := q_up2 S 9 i c) (T := S) rfl
theorem w_hv10 {E : g_E} {A : w_A} {S : q_S} {i : Nat} {c : Int32} : ∀ k, 30 ≤ k → k ≤ 51 → ¬ k = 46 → w_cell E A (q_up2 S 10 i c) k 0 = w_cell E A S k 0 := by
  intro k h1 h2 h3
  rcases w_tags h1 h2 with rfl | rfl | rfl | rfl | rfl | rfl | rfl | rfl | rfl | rfl | rfl | rfl | rfl | rfl | rfl | rfl | rfl | rfl | rfl | rfl | rfl | rfl
  · exact w_m30 (S := q_up2 S 10 i c) (T := S) rfl rfl rfl rfl rfl rfl rfl rfl
  · exact w_m31 (S := q_up2 S 10 i c) (T := S) rfl
  · exact w_m32 (S := q_up2 S 10 i c) (T := S) rfl
  · exact w_m33 (S := q_up2 S 10 i c) (T := S) rfl
  · exact w_m34 (S := q_up2 S 10 i c) (T := S) rfl
  · exact w_m35 (S := q_up2 S 10 i c) (T := S) rfl
  · exact w_m36 (S := q_up2 S 10 i c) (T := S) rfl
  · exact w_m37 (S := q_up2 S 10 i c) (T := S) rfl
  · exact w_m38 (S := q_up2 S 10 i c) (T := S) rfl
  · exact w_m39 (S := q_up2 S 10 i c) (T := S) rfl
  · exact w_m40 (S := q_up2 S 10 i c) (T := S) rfl
  · exact w_m41 (S := q_up2 S 10 i c) (T := S) rfl
  · exact w_m42 (S := q_up2 S 10 i c) (T := S) rfl
  · exact w_m43 (S := q_up2 S 10 i c) (T := S) rfl
  · exact w_m44 (S := q_up2 S 10 i c) (T := S) rfl
  · exact w_m45 (S := q_up2 S 10 i c) (T := S) rfl
  · exact absurd rfl h3
  · exact w_m47 (S := q_up2 S 10 i c) (T := S) rfl
  · exact w_m48 (S := q_up2 S 10 i c) (T := S) rfl
  · exact w_m49 (S := q_up2 S 10 i c) (T := S) rfl
  · exact w_m50 (S := q_up2 S 10 i c) (T := S) rfl
  · exact w_m51 (S := q_up2 S 10 i c) (T := S) rfl
theorem w_hv11 {E : g_E} {A : w_A} {S : q_S} {i : Nat} {c : Int32} : ∀ k, 30 ≤ k → k ≤ 51 → ¬ k = 47 → w_cell E A (q_up2 S 11 i c) k 0 = w_cell E A S k 0 := by
  intro k h1 h2 h3
  rcases w_tags h1 h2 with rfl | rfl | rfl | rfl | rfl | rfl | rfl | rfl | rfl | rfl | rfl | rfl | rfl | rfl | rfl | rfl | rfl | rfl | rfl | rfl | rfl | rfl
  · exact w_m30 (S := q_up2 S 11 i c) (T := S) rfl rfl rfl rfl rfl rfl rfl rfl
  · exact w_m31 (S := q_up2 S 11 i c) (T := S) rfl
  · exact w_m32 (S := q_up2 S 11 i c) (T := S) rfl
  · exact w_m33 (S := q_up2 S 11 i c) (T := S) rfl
  · exact w_m34 (S := q_up2 S 11 i c) (T := S) rfl
  · exact w_m35 (S := q_up2 S 11 i c) (T := S) rfl
  · exact w_m36 (S := q_up2 S 11 i c) (T := S) rfl
  · exact w_m37 (S := q_up2 S 11 i c) (T := S) rfl
  · exact w_m38 (S := q_up2 S 11 i c) (T := S) rfl
  · exact w_m39 (S := q_up2 S 11 i c) (T := S) rfl
  · exact w_m40 (S := q_up2 S 11 i c) (T := S) rfl
  · exact w_m41 (S := q_up2 S 11 i c) (T := S) rfl
  · exact w_m42 (S := q_up2 S 11 i c) (T := S) rfl
  · exact w_m43 (S := q_up2 S 11 i c) (T := S) rfl
  · exact w_m44 (S := q_up2 S 11 i c) (T := S) rfl
  · exact w_m45 (S := q_up2 S 11 i c) (T := S) rfl
  · exact w_m46 (S := q_up2 S 11 i c) (T := S) rfl
  · exact absurd rfl h3
  · exact w_m48 (S := q_up2 S 11 i c) (T := S) rfl
  · exact w_m49 (S := q_up2 S 11 i c) (T := S) rfl
  · exact w_m50 (S := q_up2 S 11 i c) (T := S) rfl
  · exact w_m51 (S := q_up2 S 11 i c) (T := S) rfl
theorem w_hv14 {E : g_E} {A : w_A} {S : q_S} {i : Nat} {c : Int32} : ∀ k, 30 ≤ k → k ≤ 51 → ¬ k = 48 → w_cell E A (q_up2 S 14 i c) k 0 = w_cell E A S k 0 := by
  intro k h1 h2 h3
  rcases w_tags h1 h2 with rfl | rfl | rfl | rfl | rfl | rfl | rfl | rfl | rfl | rfl | rfl | rfl | rfl | rfl | rfl | rfl | rfl | rfl | rfl | rfl | rfl | rfl
  · exact w_m30 (S := q_up2 S 14 i c) (T := S) rfl rfl rfl rfl rfl rfl rfl rfl
  · exact w_m31 (S := q_up2 S 14 i c) (T := S) rfl
  · exact w_m32 (S := q_up2 S 14 i c) (T := S) rfl
  · exact w_m33 (S := q_up2 S 14 i c) (T := S) rfl
  · exact w_m34 (S := q_up2 S 14 i c) (T := S) rfl
  · exact w_m35 (S := q_up2 S 14 i c) (T := S) rfl
  · exact w_m36 (S := q_up2 S 14 i c) (T := S) rfl
  · exact w_m37 (S := q_up2 S 14 i c) (T := S) rfl
  · exact w_m38 (S := q_up2 S 14 i c) (T := S) rfl
  · exact w_m39 (S := q_up2 S 14 i c) (T := S) rfl
  · exact w_m40 (S := q_up2 S 14 i c) (T := S) rfl
  · exact w_m41 (S := q_up2 S 14 i c) (T := S) rfl
  · exact w_m42 (S := q_up2 S 14 i c) (T := S) rfl
  · exact w_m43 (S := q_up2 S 14 i c) (T := S) rfl
  · exact w_m44 (S := q_up2 S 14 i c) (T := S) rfl
  · exact w_m45 (S := q_up2 S 14 i c) (T := S) rfl
  · exact w_m46 (S := q_up2 S 14 i c) (T := S) rfl
  · exact w_m47 (S := q_up2 S 14 i c) (T := S) rfl
  · exact absurd rfl h3
  · exact w_m49 (S := q_up2 S 14 i c) (T := S) rfl
  · exact w_m50 (S := q_up2 S 14 i c) (T := S) rfl
  · exact w_m51 (S := q_up2 S 14 i c) (T := S) rfl
theorem w_hv15 {E : g_E} {A : w_A} {S : q_S} {i : Nat} {c : Int32} : ∀ k, 30 ≤ k → k ≤ 51 → ¬ k = 49 → w_cell E A (q_up2 S 15 i c) k 0 = w_cell E A S k 0 := by
  intro k h1 h2 h3
  rcases w_tags h1 h2 with rfl | rfl | rfl | rfl | rfl | rfl | rfl | rfl | rfl | rfl | rfl | rfl | rfl | rfl | rfl | rfl | rfl | rfl | rfl | rfl | rfl | rfl
  · exact w_m30 (S := q_up2 S 15 i c) (T := S) rfl rfl rfl rfl rfl rfl rfl rfl
  · exact w_m31 (S := q_up2 S 15 i c) (T := S) rfl
  · exact w_m32 (S := q_up2 S 15 i c) (T := S) rfl
  · exact w_m33 (S := q_up2 S 15 i c) (T := S) rfl
  · exact w_m34 (S := q_up2 S 15 i c) (T := S) rfl
  · exact w_m35 (S := q_up2 S 15 i c) (T := S) rfl
  · exact w_m36 (S := q_up2 S 15 i c) (T := S) rfl
  · exact w_m37 (S := q_up2 S 15 i c) (T := S) rfl
  · exact w_m38 (S := q_up2 S 15 i c) (T := S) rfl
  · exact w_m39 (S := q_up2 S 15 i c) (T := S) rfl
  · exact w_m40 (S := q_up2 S 15 i c) (T := S) rfl
  · exact w_m41 (S := q_up2 S 15 i c) (T := S) rfl
  · exact w_m42 (S := q_up2 S 15 i c) (T := S) rfl
  · exact w_m43 (S := q_up2 S 15 i c) (T := S) rfl
  · exact w_m44 (S := q_up2 S 15 i c) (T := S) rfl
  · exact w_m45 (S := q_up2 S 15 i c) (T := S) rfl
  · exact w_m46 (S := q_up2 S 15 i c) (T := S) rfl
  · exact w_m47 (S := q_up2 S 15 i c) (T := S) rfl
  · exact w_m48 (S := q_up2 S 15 i c) (T := S) rfl
  · exact absurd rfl h3
  · exact w_m50 (S := q_up2 S 15 i c) (T := S) rfl
  · exact w_m51 (S := q_up2 S 15 i c) (T := S) rfl
theorem w_hv16 {E : g_E} {A : w_A} {S : q_S} {i : Nat} {c : Int32} : ∀ k, 30 ≤ k → k ≤ 51 → ¬ k = 50 → w_cell E A (q_up2 S 16 i c) k 0 = w_cell E A S k 0 := by
  intro k h1 h2 h3
  rcases w_tags h1 h2 with rfl | rfl | rfl | rfl | rfl | rfl | rfl | rfl | rfl | rfl | rfl | rfl | rfl | rfl | rfl | rfl | rfl | rfl | rfl | rfl | rfl | rfl
  · exact w_m30 (S := q_up2 S 16 i c) (T := S) rfl rfl rfl rfl rfl rfl rfl rfl
  · exact w_m31 (S := q_up2 S 16 i c) (T := S) rfl
  · exact w_m32 (S := q_up2 S 16 i c) (T := S) rfl
  · exact w_m33 (S := q_up2 S 16 i c) (T := S) rfl
  · exact w_m34 (S := q_up2 S 16 i c) (T := S) rfl
  · exact w_m35 (S := q_up2 S 16 i c) (T := S) rfl
  · exact w_m36 (S := q_up2 S 16 i c) (T := S) rfl
  · exact w_m37 (S := q_up2 S 16 i c) (T := S) rfl
  · exact w_m38 (S := q_up2 S 16 i c) (T := S) rfl
  · exact w_m39 (S := q_up2 S 16 i c) (T := S) rfl
  · exact w_m40 (S := q_up2 S 16 i c) (T := S) rfl
  · exact w_m41 (S := q_up2 S 16 i c) (T := S) rfl
  · exact w_m42 (S := q_up2 S 16 i c) (T := S) rfl
  · exact w_m43 (S := q_up2 S 16 i c) (T := S) rfl
  · exact w_m44 (S := q_up2 S 16 i c) (T := S) rfl
  · exact w_m45 (S := q_up2 S 16 i c) (T := S) rfl
  · exact w_m46 (S := q_up2 S 16 i c) (T := S) rfl
  · exact w_m47 (S := q_up2 S 16 i c) (T := S) rfl
  · exact w_m48 (S := q_up2 S 16 i c) (T := S) rfl
  · exact w_m49 (S := q_up2 S 16 i c) (T := S) rfl
  · exact absurd rfl h3
  · exact w_m51 (S := q_up2 S 16 i c) (T := S) rfl
theorem w_hv17 {E : g_E} {A : w_A} {S : q_S} {i : Nat} {c : Int32} : ∀ k, 30 ≤ k → k ≤ 51 → ¬ k = 51 → w_cell E A (q_up2 S 17 i c) k 0 = w_cell E A S k 0 := by
  intro k h1 h2 h3
  rcases w_tags h1 h2 with rfl | rfl | rfl | rfl | rfl | rfl | rfl | rfl | rfl | rfl | rfl | rfl | rfl | rfl | rfl | rfl | rfl | rfl | rfl | rfl | rfl | rfl
  · exact w_m30 (S := q_up2 S 17 i c) (T := S) rfl rfl rfl rfl rfl rfl rfl rfl
  · exact w_m31 (S := q_up2 S 17 i c) (T := S) rfl
  · exact w_m32 (S := q_up2 S 17 i c) (T := S) rfl
  · exact w_m33 (S := q_up2 S 17 i c) (T := S) rfl
  · exact w_m34 (S := q_up2 S 17 i c) (T := S) rfl
  · exact w_m35 (S := q_up2 S 17 i c) (T := S) rfl
  · exact w_m36 (S := q_up2 S 17 i c) (T := S) rfl
  · exact w_m37 (S := q_up2 S 17 i c) (T := S) rfl
  · exact w_m38 (S := q_up2 S 17 i c) (T := S) rfl
  · exact w_m39 (S := q_up2 S 17 i c) (T := S) rfl
  · exact w_m40 (S := q_up2 S 17 i c) (T := S) rfl
  · exact w_m41 (S := q_up2 S 17 i c) (T := S) rfl
  · exact w_m42 (S := q_up2 S 17 i c) (T := S) rfl
  · exact w_m43 (S := q_up2 S 17 i c) (T := S) rfl
  · exact w_m44 (S := q_up2 S 17 i c) (T := S) rfl
  · exact w_m45 (S := q_up2 S 17 i c) (T := S) rfl
  · exact w_m46 (S := q_up2 S 17 i c) (T := S) rfl
  · exact w_m47 (S := q_up2 S 17 i c) (T := S) rfl
  · exact w_m48 (S := q_up2 S 17 i c) (T := S) rfl
  · exact w_m49 (S := q_up2 S 17 i c) (T := S) rfl
  · exact w_m50 (S := q_up2 S 17 i c) (T := S) rfl
  · exact absurd rfl h3
theorem w_hn1 {E : g_E} {A : w_A} {S : q_S} {i c : Nat} : ∀ k, 30 ≤ k → k ≤ 51 → ¬ k = 32 → w_cell E A (q_up1 S 1 i c) k 0 = w_cell E A S k 0 := by
  intro k h1 h2 h3
  rcases w_tags h1 h2 with rfl | rfl | rfl | rfl | rfl | rfl | rfl | rfl | rfl | rfl | rfl | rfl | rfl | rfl | rfl | rfl | rfl | rfl | rfl | rfl | rfl | rfl
  · exact w_m30 (S := q_up1 S 1 i c) (T := S) rfl rfl rfl rfl rfl rfl rfl rfl
  · exact w_m31 (S := q_up1 S 1 i c) (T := S) rfl
  · exact absurd rfl h3
  · exact w_m33 (S := q_up1 S 1 i c) (T := S) rfl
  · exact w_m34 (S := q_up1 S 1 i c) (T := S) rfl
  · exact w_m35 (S := q_up1 S 1 i c) (T := S) rfl
  · exact w_m36 (S := q_up1 S 1 i c) (T := S) rfl
  · exact w_m37 (S := q_up1 S 1 i c) (T := S) rfl
  · exact w_m38 (S := q_up1 S 1 i c) (T := S) rfl
  · exact w_m39 (S := q_up1 S 1 i c) (T := S) rfl
  · exact w_m40 (S := q_up1 S 1 i c) (T := S) rfl
  · exact w_m41 (S := q_up1 S 1 i c) (T := S) rfl
  · exact w_m42 (S := q_up1 S 1 i c) (T := S) rfl
  · exact w_m43 (S := q_up1 S 1 i c) (T := S) rfl
  · exact w_m44 (S := q_up1 S 1 i c) (T := S) rfl
  · exact w_m45 (S := q_up1 S 1 i c) (T := S) rfl
  · exact w_m46 (S := q_up1 S 1 i c) (T := S) rfl
  · exact w_m47 (S := q_up1 S 1 i c) (T := S) rfl
  · exact w_m48 (S := q_up1 S 1 i c) (T := S) rfl
  · exact w_m49 (S := q_up1 S 1 i c) (T := S) rfl
  · exact w_m50 (S := q_up1 S 1 i c) (T := S) rfl
  · exact w_m51 (S := q_up1 S 1 i c) (T := S) rfl
theorem w_hn2 {E : g_E} {A : w_A} {S : q_S} {i c : Nat} : ∀ k, 30 ≤ k → k ≤ 51 → ¬ k = 33 → w_cell E A (q_up1 S 2 i c) k 0 = w_cell E A S k 0 := by
  intro k h1 h2 h3
  rcases w_tags h1 h2 with rfl | rfl | rfl | rfl | rfl | rfl | rfl | rfl | rfl | rfl | rfl | rfl | rfl | rfl | rfl | rfl | rfl | rfl | rfl | rfl | rfl | rfl
  · exact w_m30 (S := q_up1 S 2 i c) (T := S) rfl rfl rfl rfl rfl rfl rfl rfl
  · exact w_m31 (S := q_up1 S 2 i c) (T := S) rfl
  · exact w_m32 (S := q_up1 S 2 i c) (T := S) rfl
  · exact absurd rfl h3
  · exact w_m34 (S := q_up1 S 2 i c) (T := S) rfl
  · exact w_m35 (S := q_up1 S 2 i c) (T := S) rfl
  · exact w_m36 (S := q_up1 S 2 i c) (T := S) rfl
  · exact w_m37 (S := q_up1 S 2 i c) (T := S) rfl
  · exact w_m38 (S := q_up1 S 2 i c) (T := S) rfl
  · exact w_m39 (S := q_up1 S 2 i c) (T := S) rfl
  · exact w_m40 (S := q_up1 S 2 i c) (T := S) rfl
  · exact w_m41 (S := q_up1 S 2 i c) (T := S) rfl
  · exact w_m42 (S := q_up1 S 2 i c) (T := S) rfl
  · exact w_m43 (S := q_up1 S 2 i c) (T := S) rfl
  · exact w_m44 (S := q_up1 S 2 i c) (T := S) rfl
  · exact w_m45 (S := q_up1 S 2 i c) (T := S) rfl
  · exact w_m46 (S := q_up1 S 2 i c) (T := S) rfl
  · exact w_m47 (S := q_up1 S 2 i c) (T := S) rfl
  · exact w_m48 (S := q_up1 S 2 i c) (T := S) rfl
  · exact w_m49 (S := q_up1 S 2 i c) (T := S) rfl
  · exact w_m50 (S := q_up1 S 2 i c) (T := S) rfl
  · exact w_m51 (S := q_up1 S 2 i c) (T := S) rfl
theorem w_hn3 {E : g_E} {A : w_A} {S : q_S} {i c : Nat} : ∀ k, 30 ≤ k → k ≤ 51 → ¬ k = 38 → w_cell E A (q_up1 S 3 i c) k 0 = w_cell E A S k 0 := by
  intro k h1 h2 h3
  rcases w_tags h1 h2 with rfl | rfl | rfl | rfl | rfl | rfl | rfl | rfl | rfl | rfl | rfl | rfl | rfl | rfl | rfl | rfl | rfl | rfl | rfl | rfl | rfl | rfl
  · exact w_m30 (S := q_up1 S 3 i c) (T := S) rfl rfl rfl rfl rfl rfl rfl rfl
  · exact w_m31 (S := q_up1 S 3 i c) (T := S) rfl
  · exact w_m32 (S := q_up1 S 3 i c) (T := S) rfl
  · exact w_m33 (S := q_up1 S 3 i c) (T := S) rfl
  · exact w_m34 (S := q_up1 S 3 i c) (T := S) rfl
  · exact w_m35 (S := q_up1 S 3 i c) (T := S) rfl
  · exact w_m36 (S := q_up1 S 3 i c) (T := S) rfl
  · exact w_m37 (S := q_up1 S 3 i c) (T := S) rfl
  · exact absurd rfl h3
  · exact w_m39 (S := q_up1 S 3 i c) (T := S) rfl
  · exact w_m40 (S := q_up1 S 3 i c) (T := S) rfl
  · exact w_m41 (S := q_up1 S 3 i c) (T := S) rfl
  · exact w_m42 (S := q_up1 S 3 i c) (T := S) rfl
  · exact w_m43 (S := q_up1 S 3 i c) (T := S) rfl
  · exact w_m44 (S := q_up1 S 3 i c) (T := S) rfl
  · exact w_m45 (S := q_up1 S 3 i c) (T := S) rfl
  · exact w_m46 (S := q_up1 S 3 i c) (T := S) rfl
  · exact w_m47 (S := q_up1 S 3 i c) (T := S) rfl
  · exact w_m48 (S := q_up1 S 3 i c) (T := S) rfl
  · exact w_m49 (S := q_up1 S 3 i c) (T := S) rfl
  · exact w_m50 (S := q_up1 S 3 i c) (T := S) rfl
  · exact w_m51 (S := q_up1 S 3 i c) (T := S) rfl
theorem w_hn4 {E : g_E} {A : w_A} {S : q_S} {i c : Nat} : ∀ k, 30 ≤ k → k ≤ 51 → ¬ k = 40 → w_cell E A (q_up1 S 4 i c) k 0 = w_cell E A S k 0 := by
  intro k h1 h2 h3
  rcases w_tags h1 h2 with rfl | rfl | rfl | rfl | rfl | rfl | rfl | rfl | rfl | rfl | rfl | rfl | rfl | rfl | rfl | rfl | rfl | rfl | rfl | rfl | rfl | rfl
  · exact w_m30 (S := q_up1 S 4 i c) (T := S) rfl rfl rfl rfl rfl rfl rfl rfl
  · exact w_m31 (S := q_up1 S 4 i c) (T := S) rfl
  · exact w_m32 (S := q_up1 S 4 i c) (T := S) rfl
  · exact w_m33 (S := q_up1 S 4 i c) (T := S) rfl
  · exact w_m34 (S := q_up1 S 4 i c) (T := S) rfl
  · exact w_m35 (S := q_up1 S 4 i c) (T := S) rfl
  · exact w_m36 (S := q_up1 S 4 i c) (T := S) rfl
  · exact w_m37 (S := q_up1 S 4 i c) (T := S) rfl
  · exact w_m38 (S := q_up1 S 4 i c) (T := S) rfl
  · exact w_m39 (S := q_up1 S 4 i c) (T := S) rfl
  · exact absurd rfl h3
  · exact w_m41 (S := q_up1 S 4 i c) (T := S) rfl
  · exact w_m42 (S := q_up1 S 4 i c) (T := S) rfl
  · exact w_m43 (S := q_up1 S 4 i c) (T := S) rfl
  · exact w_m44 (S := q_up1 S 4 i c) (T := S) rfl
  · exact w_m45 (S := q_up1 S 4 i c) (T := S) rfl
  · exact w_m46 (S := q_up1 S 4 i c) (T := S) rfl
  · exact w_m47 (S := q_up1 S 4 i c) (T := S) rfl
  · exact w_m48 (S := q_up1 S 4 i c) (T := S) rfl
  · exact w_m49 (S := q_up1 S 4 i c) (T := S) rfl
  · exact w_m50 (S := q_up1 S 4 i c) (T := S) rfl
  · exact w_m51 (S := q_up1 S 4 i c) (T := S) rfl
theorem w_hn5 {E : g_E} {A : w_A} {S : q_S} {i c : Nat} : ∀ k, 30 ≤ k → k ≤ 51 → ¬ k = 42 → w_cell E A (q_up1 S 5 i c) k 0 = w_cell E A S k 0 := by
  intro k h1 h2 h3
  rcases w_tags h1 h2 with rfl | rfl | rfl | rfl | rfl | rfl | rfl | rfl | rfl | rfl | rfl | rfl | rfl | rfl | rfl | rfl | rfl | rfl | rfl | rfl | rfl | rfl
  · exact w_m30 (S := q_up1 S 5 i c) (T := S) rfl rfl rfl rfl rfl rfl rfl rfl
  · exact w_m31 (S := q_up1 S 5 i c) (T := S) rfl
  · exact w_m32 (S := q_up1 S 5 i c) (T := S) rfl
  · exact w_m33 (S := q_up1 S 5 i c) (T := S) rfl
  · exact w_m34 (S := q_up1 S 5 i c) (T := S) rfl
  · exact w_m35 (S := q_up1 S 5 i c) (T := S) rfl
  · exact w_m36 (S := q_up1 S 5 i c) (T := S) rfl
  · exact w_m37 (S := q_up1 S 5 i c) (T := S) rfl
  · exact w_m38 (S := q_up1 S 5 i c) (T := S) rfl
  · exact w_m39 (S := q_up1 S 5 i c) (T := S) rfl
  · exact w_m40 (S := q_up1 S 5 i c) (T := S) rfl
  · exact w_m41 (S := q_up1 S 5 i c) (T := S) rfl
  · exact absurd rfl h3
  · exact w_m43 (S := q_up1 S 5 i c) (T := S) rfl
  · exact w_m44 (S := q_up1 S 5 i c) (T := S) rfl
  · exact w_m45 (S := q_up1 S 5 i c) (T := S) rfl
  · exact w_m46 (S := q_up1 S 5 i c) (T := S) rfl
  · exact w_m47 (S := q_up1 S 5 i c) (T := S) rfl
  · exact w_m48 (S := q_up1 S 5 i c) (T := S) rfl
  · exact w_m49 (S := q_up1 S 5 i c) (T := S) rfl
  · exact w_m50 (S := q_up1 S 5 i c) (T := S) rfl
  · exact w_m51 (S := q_up1 S 5 i c) (T := S) rfl
theorem q_updn (f : Nat → Nat) (i x : Nat) : upd (fun j => nI (f j)) i (nI x) = fun j => nI (q_updN f i x j) := by
  funext j
  unfold upd q_updN
  split <;> rfl
theorem q_updp (f : Nat → Nat) (i x : Nat) : upd (fun j => nI (f j) - 1) i (nI x - 1) = fun j => nI (q_updN f i x j) - 1 := by
  funext j
  unfold upd q_updN
  split <;> rfl
theorem r_noShape_ok {S : q_S} {j : Nat} (hB : w_B S) (hj : j < q_ns S) : r_noShape S (nI j) = 0 := by
  have := hB.2.1
  unfold r_noShape
  rw [if_neg (nI_pos (by omega)), if_pos (nI_lt hj (by omega))]
theorem r_noEffect_ok {S : q_S} {j : Nat} (hB : w_B S) (hj : j < q_ne S) : r_noEffect S (nI j) = 0 := by
  have := hB.2.2.1
  unfold r_noEffect
  rw [if_neg (nI_pos (by omega)), if_pos (nI_lt hj (by omega))]
theorem r_noProperty_ok {pr : Nat} (h : pr < 7) : r_noProperty (nI pr) = 0 := by
  unfold r_noProperty
  have h6 : nI pr ≤ 6 := nI_le (a := pr) (b := 6) (by omega) (by decide)
  rw [if_neg (nI_pos (by omega)), if_pos h6]
