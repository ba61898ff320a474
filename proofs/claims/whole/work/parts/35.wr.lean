/-! the reference's writes -/
theorem w_tags {k : Nat} (h1 : 30 ≤ k) (h2 : k ≤ 51) : k = 30 ∨ k = 31 ∨ k = 32 ∨ k = 33 ∨ k = 34 ∨ k = 35 ∨ k = 36 ∨ k = 37 ∨ k = 38 ∨ k = 39 ∨ k = 40 ∨ k = 41 ∨ k = 42 ∨ k = 43 ∨ k = 44 ∨ k = 45 ∨ k = 46 ∨ k = 47 ∨ k = 48 ∨ k = 49 ∨ k = 50 ∨ k = 51 := by omega
theorem g_stepM {E : g_E} {X : g_X} {P : g_P} {A : w_A} {Sc Sm : q_S} {h : g_H} {z : Bool} {cs ss pc : Nat} {L : List (Option Value)} {st : List Value} (hW : w_W E A Sc Sm h) (k0 : Nat) (Sm' : q_S) (h1 : 30 ≤ k0) (h2 : k0 ≤ 51) (hc : ∀ k, 30 ≤ k → k ≤ 51 → ¬ k = k0 → w_cell E A Sm' k 0 = w_cell E A Sm k 0) {e : va_E} (he : e = w_cell E A Sm' k0 0)
    (kk : ∀ h1 : g_H, w_W E A Sc Sm' h1 → g_Go E X P h1 z cs ss pc L st) : g_Go E X P (g_set h (A k0 0) e) z cs ss pc L st := kk _ (w_putM hW h1 h2 hc he)
theorem w_hc13 {E : g_E} {A : w_A} {S : q_S} {i : Nat} {c : Int32} : ∀ k, 30 ≤ k → k ≤ 51 → ¬ k = 30 → w_cell E A (q_up2 S 13 i c) k 0 = w_cell E A S k 0 := by
  intro k h1 h2 h3
  rcases w_tags h1 h2 with rfl | rfl | rfl | rfl | rfl | rfl | rfl | rfl | rfl | rfl | rfl | rfl | rfl | rfl | rfl | rfl | rfl | rfl | rfl | rfl | rfl | rfl <;> first | rfl | exact absurd rfl h3
theorem w_hc0 {E : g_E} {A : w_A} {S : q_S} {i : Nat} {c : Nat} : ∀ k, 30 ≤ k → k ≤ 51 → ¬ k = 30 → w_cell E A (q_up1 S 0 i c) k 0 = w_cell E A S k 0 := by
  intro k h1 h2 h3
  rcases w_tags h1 h2 with rfl | rfl | rfl | rfl | rfl | rfl | rfl | rfl | rfl | rfl | rfl | rfl | rfl | rfl | rfl | rfl | rfl | rfl | rfl | rfl | rfl | rfl <;> first | rfl | exact absurd rfl h3
theorem w_hv0 {E : g_E} {A : w_A} {S : q_S} {i : Nat} {c : Int32} : ∀ k, 30 ≤ k → k ≤ 51 → ¬ k = 31 → w_cell E A (q_up2 S 0 i c) k 0 = w_cell E A S k 0 := by
  intro k h1 h2 h3
  rcases w_tags h1 h2 with rfl | rfl | rfl | rfl | rfl | rfl | rfl | rfl | rfl | rfl | rfl | rfl | rfl | rfl | rfl | rfl | rfl | rfl | rfl | rfl | rfl | rfl <;> first | rfl | exact absurd rfl h3
theorem w_hv1 {E : g_E} {A : w_A} {S : q_S} {i : Nat} {c : Int32} : ∀ k, 30 ≤ k → k ≤ 51 → ¬ k = 34 → w_cell E A (q_up2 S 1 i c) k 0 = w_cell E A S k 0 := by
  intro k h1 h2 h3
  rcases w_tags h1 h2 with rfl | rfl | rfl | rfl | rfl | rfl | rfl | rfl | rfl | rfl | rfl | rfl | rfl | rfl | rfl | rfl | rfl | rfl | rfl | rfl | rfl | rfl <;> first | rfl | exact absurd rfl h3
theorem w_hv2 {E : g_E} {A : w_A} {S : q_S} {i : Nat} {c : Int32} : ∀ k, 30 ≤ k → k ≤ 51 → ¬ k = 35 → w_cell E A (q_up2 S 2 i c) k 0 = w_cell E A S k 0 := by
  intro k h1 h2 h3
  rcases w_tags h1 h2 with rfl | rfl | rfl | rfl | rfl | rfl | rfl | rfl | rfl | rfl | rfl | rfl | rfl | rfl | rfl | rfl | rfl | rfl | rfl | rfl | rfl | rfl <;> first | rfl | exact absurd rfl h3
theorem w_hv3 {E : g_E} {A : w_A} {S : q_S} {i : Nat} {c : Int32} : ∀ k, 30 ≤ k → k ≤ 51 → ¬ k = 36 → w_cell E A (q_up2 S 3 i c) k 0 = w_cell E A S k 0 := by
  intro k h1 h2 h3
  rcases w_tags h1 h2 with rfl | rfl | rfl | rfl | rfl | rfl | rfl | rfl | rfl | rfl | rfl | rfl | rfl | rfl | rfl | rfl | rfl | rfl | rfl | rfl | rfl | rfl <;> first | rfl | exact absurd rfl h3
theorem w_hv4 {E : g_E} {A : w_A} {S : q_S} {i : Nat} {c : Int32} : ∀ k, 30 ≤ k → k ≤ 51 → ¬ k = 37 → w_cell E A (q_up2 S 4 i c) k 0 = w_cell E A S k 0 := by
  intro k h1 h2 h3
  rcases w_tags h1 h2 with rfl | rfl | rfl | rfl | rfl | rfl | rfl | rfl | rfl | rfl | rfl | rfl | rfl | rfl | rfl | rfl | rfl | rfl | rfl | rfl | rfl | rfl <;> first | rfl | exact absurd rfl h3
theorem w_hv5 {E : g_E} {A : w_A} {S : q_S} {i : Nat} {c : Int32} : ∀ k, 30 ≤ k → k ≤ 51 → ¬ k = 39 → w_cell E A (q_up2 S 5 i c) k 0 = w_cell E A S k 0 := by
  intro k h1 h2 h3
  rcases w_tags h1 h2 with rfl | rfl | rfl | rfl | rfl | rfl | rfl | rfl | rfl | rfl | rfl | rfl | rfl | rfl | rfl | rfl | rfl | rfl | rfl | rfl | rfl | rfl <;> first | rfl | exact absurd rfl h3
theorem w_hv6 {E : g_E} {A : w_A} {S : q_S} {i : Nat} {c : Int32} : ∀ k, 30 ≤ k → k ≤ 51 → ¬ k = 41 → w_cell E A (q_up2 S 6 i c) k 0 = w_cell E A S k 0 := by
  intro k h1 h2 h3
  rcases w_tags h1 h2 with rfl | rfl | rfl | rfl | rfl | rfl | rfl | rfl | rfl | rfl | rfl | rfl | rfl | rfl | rfl | rfl | rfl | rfl | rfl | rfl | rfl | rfl <;> first | rfl | exact absurd rfl h3
theorem w_hv7 {E : g_E} {A : w_A} {S : q_S} {i : Nat} {c : Int32} : ∀ k, 30 ≤ k → k ≤ 51 → ¬ k = 43 → w_cell E A (q_up2 S 7 i c) k 0 = w_cell E A S k 0 := by
  intro k h1 h2 h3
  rcases w_tags h1 h2 with rfl | rfl | rfl | rfl | rfl | rfl | rfl | rfl | rfl | rfl | rfl | rfl | rfl | rfl | rfl | rfl | rfl | rfl | rfl | rfl | rfl | rfl <;> first | rfl | exact absurd rfl h3
theorem w_hv8 {E : g_E} {A : w_A} {S : q_S} {i : Nat} {c : Int32} : ∀ k, 30 ≤ k → k ≤ 51 → ¬ k = 44 → w_cell E A (q_up2 S 8 i c) k 0 = w_cell E A S k 0 := by
  intro k h1 h2 h3
  rcases w_tags h1 h2 with rfl | rfl | rfl | rfl | rfl | rfl | rfl | rfl | rfl | rfl | rfl | rfl | rfl | rfl | rfl | rfl | rfl | rfl | rfl | rfl | rfl | rfl <;> first | rfl | exact absurd rfl h3
theorem w_hv9 {E : g_E} {A : w_A} {S : q_S} {i : Nat} {c : Int32} : ∀ k, 30 ≤ k → k ≤ 51 → ¬ k = 45 → w_cell E A (q_up2 S 9 i c) k 0 = w_cell E A S k 0 := by
  intro k h1 h2 h3
  rcases w_tags h1 h2 with rfl | rfl | rfl | rfl | rfl | rfl | rfl | rfl | rfl | rfl | rfl | rfl | rfl | rfl | rfl | rfl | rfl | rfl | rfl | rfl | rfl | rfl <;> first | rfl | exact absurd rfl h3
theorem w_hv10 {E : g_E} {A : w_A} {S : q_S} {i : Nat} {c : Int32} : ∀ k, 30 ≤ k → k ≤ 51 → ¬ k = 46 → w_cell E A (q_up2 S 10 i c) k 0 = w_cell E A S k 0 := by
  intro k h1 h2 h3
  rcases w_tags h1 h2 with rfl | rfl | rfl | rfl | rfl | rfl | rfl | rfl | rfl | rfl | rfl | rfl | rfl | rfl | rfl | rfl | rfl | rfl | rfl | rfl | rfl | rfl <;> first | rfl | exact absurd rfl h3
theorem w_hv11 {E : g_E} {A : w_A} {S : q_S} {i : Nat} {c : Int32} : ∀ k, 30 ≤ k → k ≤ 51 → ¬ k = 47 → w_cell E A (q_up2 S 11 i c) k 0 = w_cell E A S k 0 := by
  intro k h1 h2 h3
  rcases w_tags h1 h2 with rfl | rfl | rfl | rfl | rfl | rfl | rfl | rfl | rfl | rfl | rfl | rfl | rfl | rfl | rfl | rfl | rfl | rfl | rfl | rfl | rfl | rfl <;> first | rfl | exact absurd rfl h3
theorem w_hv14 {E : g_E} {A : w_A} {S : q_S} {i : Nat} {c : Int32} : ∀ k, 30 ≤ k → k ≤ 51 → ¬ k = 48 → w_cell E A (q_up2 S 14 i c) k 0 = w_cell E A S k 0 := by
  intro k h1 h2 h3
  rcases w_tags h1 h2 with rfl | rfl | rfl | rfl | rfl | rfl | rfl | rfl | rfl | rfl | rfl | rfl | rfl | rfl | rfl | rfl | rfl | rfl | rfl | rfl | rfl | rfl <;> first | rfl | exact absurd rfl h3
theorem w_hv15 {E : g_E} {A : w_A} {S : q_S} {i : Nat} {c : Int32} : ∀ k, 30 ≤ k → k ≤ 51 → ¬ k = 49 → w_cell E A (q_up2 S 15 i c) k 0 = w_cell E A S k 0 := by
  intro k h1 h2 h3
  rcases w_tags h1 h2 with rfl | rfl | rfl | rfl | rfl | rfl | rfl | rfl | rfl | rfl | rfl | rfl | rfl | rfl | rfl | rfl | rfl | rfl | rfl | rfl | rfl | rfl <;> first | rfl | exact absurd rfl h3
theorem w_hv16 {E : g_E} {A : w_A} {S : q_S} {i : Nat} {c : Int32} : ∀ k, 30 ≤ k → k ≤ 51 → ¬ k = 50 → w_cell E A (q_up2 S 16 i c) k 0 = w_cell E A S k 0 := by
  intro k h1 h2 h3
  rcases w_tags h1 h2 with rfl | rfl | rfl | rfl | rfl | rfl | rfl | rfl | rfl | rfl | rfl | rfl | rfl | rfl | rfl | rfl | rfl | rfl | rfl | rfl | rfl | rfl <;> first | rfl | exact absurd rfl h3
theorem w_hv17 {E : g_E} {A : w_A} {S : q_S} {i : Nat} {c : Int32} : ∀ k, 30 ≤ k → k ≤ 51 → ¬ k = 51 → w_cell E A (q_up2 S 17 i c) k 0 = w_cell E A S k 0 := by
  intro k h1 h2 h3
  rcases w_tags h1 h2 with rfl | rfl | rfl | rfl | rfl | rfl | rfl | rfl | rfl | rfl | rfl | rfl | rfl | rfl | rfl | rfl | rfl | rfl | rfl | rfl | rfl | rfl <;> first | rfl | exact absurd rfl h3
theorem w_hn1 {E : g_E} {A : w_A} {S : q_S} {i c : Nat} : ∀ k, 30 ≤ k → k ≤ 51 → ¬ k = 32 → w_cell E A (q_up1 S 1 i c) k 0 = w_cell E A S k 0 := by
  intro k h1 h2 h3
  rcases w_tags h1 h2 with rfl | rfl | rfl | rfl | rfl | rfl | rfl | rfl | rfl | rfl | rfl | rfl | rfl | rfl | rfl | rfl | rfl | rfl | rfl | rfl | rfl | rfl <;> first | rfl | exact absurd rfl h3
theorem w_hn2 {E : g_E} {A : w_A} {S : q_S} {i c : Nat} : ∀ k, 30 ≤ k → k ≤ 51 → ¬ k = 33 → w_cell E A (q_up1 S 2 i c) k 0 = w_cell E A S k 0 := by
  intro k h1 h2 h3
  rcases w_tags h1 h2 with rfl | rfl | rfl | rfl | rfl | rfl | rfl | rfl | rfl | rfl | rfl | rfl | rfl | rfl | rfl | rfl | rfl | rfl | rfl | rfl | rfl | rfl <;> first | rfl | exact absurd rfl h3
theorem w_hn3 {E : g_E} {A : w_A} {S : q_S} {i c : Nat} : ∀ k, 30 ≤ k → k ≤ 51 → ¬ k = 38 → w_cell E A (q_up1 S 3 i c) k 0 = w_cell E A S k 0 := by
  intro k h1 h2 h3
  rcases w_tags h1 h2 with rfl | rfl | rfl | rfl | rfl | rfl | rfl | rfl | rfl | rfl | rfl | rfl | rfl | rfl | rfl | rfl | rfl | rfl | rfl | rfl | rfl | rfl <;> first | rfl | exact absurd rfl h3
theorem w_hn4 {E : g_E} {A : w_A} {S : q_S} {i c : Nat} : ∀ k, 30 ≤ k → k ≤ 51 → ¬ k = 40 → w_cell E A (q_up1 S 4 i c) k 0 = w_cell E A S k 0 := by
  intro k h1 h2 h3
  rcases w_tags h1 h2 with rfl | rfl | rfl | rfl | rfl | rfl | rfl | rfl | rfl | rfl | rfl | rfl | rfl | rfl | rfl | rfl | rfl | rfl | rfl | rfl | rfl | rfl <;> first | rfl | exact absurd rfl h3
theorem w_hn5 {E : g_E} {A : w_A} {S : q_S} {i c : Nat} : ∀ k, 30 ≤ k → k ≤ 51 → ¬ k = 42 → w_cell E A (q_up1 S 5 i c) k 0 = w_cell E A S k 0 := by
  intro k h1 h2 h3
  rcases w_tags h1 h2 with rfl | rfl | rfl | rfl | rfl | rfl | rfl | rfl | rfl | rfl | rfl | rfl | rfl | rfl | rfl | rfl | rfl | rfl | rfl | rfl | rfl | rfl <;> first | rfl | exact absurd rfl h3
theorem q_updn (f : Nat → Nat) (i x : Nat) : upd (fun j => nI (f j)) i (nI x) = fun j => nI (q_updN f i x j) := by
  funext j
  unfold upd q_updN
  split <;> rfl
theorem q_updp (f : Nat → Nat) (i x : Nat) : upd (fun j => nI (f j) - 1) i (nI x - 1) = fun j => nI (q_updN f i x j) - 1 := by
  funext j
  unfold upd q_updN
  split <;> rfl
theorem r_noShape_ok {S : q_S} {j : Nat} (hB : w_B S) (hj : j < q_ns S) : r_noShape S (nI j) = 0 := by
  have := hB.2.1
  unfold r_noShape
  rw [if_neg (nI_pos (by omega)), if_pos (nI_lt hj (by omega))]
theorem r_noEffect_ok {S : q_S} {j : Nat} (hB : w_B S) (hj : j < q_ne S) : r_noEffect S (nI j) = 0 := by
  have := hB.2.2.1
  unfold r_noEffect
  rw [if_neg (nI_pos (by omega)), if_pos (nI_lt hj (by omega))]
theorem r_noProperty_ok {pr : Nat} (h : pr < 7) : r_noProperty (nI pr) = 0 := by
  unfold r_noProperty
  have h6 : nI pr ≤ 6 := nI_le (a := pr) (b := 6) (by omega) (by decide)
  rw [if_neg (nI_pos (by omega)), if_pos h6]
