/-! the stage's cells -/
theorem w_c {E : g_E} {A : w_A} {S Sm : q_S} {h : g_H} (hW : w_W E A S Sm h) (k i : Nat) (hk : k < 30) (hl : w_live S k i) : h (A k i) = some (w_cell E A S k i) := by
  have h1 := hW.1 k i (by unfold w_lv; rw [w_pkC hk]; exact hl)
  rw [w_pkC hk] at h1
  exact h1
theorem w_cb {E : g_E} {A : w_A} {S Sm : q_S} {h : g_H} (hW : w_W E A S Sm h) (k i : Nat) (hk : k < 30) (hl : w_live S k i) : E.H0.size ≤ A k i := hW.2.1 k i (by unfold w_lv; rw [w_pkC hk]; exact hl)
theorem w_ci {E : g_E} {A : w_A} {S Sm : q_S} {h : g_H} (hW : w_W E A S Sm h) {k i k' i' : Nat} (hk : k < 30) (hl : w_live S k i) (hk' : k' < 30) (hl' : w_live S k' i') (he : A k i = A k' i') : k = k' ∧ i = i' := hW.2.2 k i k' i' (by unfold w_lv; rw [w_pkC hk]; exact hl) (by unfold w_lv; rw [w_pkC hk']; exact hl') he
section WLISTS
variable {E : g_E} {A : w_A} {S Sm : q_S} {h : g_H}
theorem w_s (hW : w_W E A S Sm h) : h (A 0 0) = some (w_cell E A S 0 0) := w_c hW 0 0 (by decide) ⟨rfl, by decide⟩
theorem w_l3 (hW : w_W E A S Sm h) (hB : w_B S) {p : Nat} (hp : p < q_np S) : l_at E h (A 3 p) (A 4 p) (q_on S p).length (fun i => ((q_on S p)[i]?).map (A 7)) :=
  w_lst (w_c hW 3 p (by decide) hp) (fun hn => w_c hW 4 p (by decide) ⟨hp, hn⟩) (by have := q_on_len S p; have := hB.2.1; omega)
theorem w_l5 (hW : w_W E A S Sm h) (hB : w_B S) {p : Nat} (hp : p < q_np S) : l_at E h (A 5 p) (A 6 p) (q_eon S p).length (fun i => ((q_eon S p)[i]?).map (A 15)) :=
  w_lst (w_c hW 5 p (by decide) hp) (fun hn => w_c hW 6 p (by decide) ⟨hp, hn⟩) (by have := q_eon_len S p; have := hB.2.2.1; omega)
theorem w_l10 (hW : w_W E A S Sm h) (hB : w_B S) {j : Nat} (hj : j < q_ns S) : l_at E h (A 10 j) (A 11 j) (w_pars S j).length (fun i => ((w_pars S j)[i]?).map (A 14)) :=
  w_lst (w_c hW 10 j (by decide) hj) (fun hn => w_c hW 11 j (by decide) ⟨hj, hn⟩) (by have := (hB.2.2.2.2.1 j hj).2; unfold w_pars; rw [List.length_map, List.length_range]; omega)
theorem w_l12 (hW : w_W E A S Sm h) (hB : w_B S) {j : Nat} (hj : j < q_ns S) : l_at E h (A 12 j) (A 13 j) (q_eof S j).length (fun i => ((q_eof S j)[i]?).map (A 15)) :=
  w_lst (w_c hW 12 j (by decide) hj) (fun hn => w_c hW 13 j (by decide) ⟨hj, hn⟩) (by have := q_eof_len S j; have := hB.2.2.1; omega)
theorem w_l16 (hW : w_W E A S Sm h) (hB : w_B S) : l_at E h (A 16 0) (A 17 0) (List.range (q_np S)).length (fun i => ((List.range (q_np S))[i]?).map (A 2)) :=
  w_lst (w_c hW 16 0 (by decide) ⟨rfl, by decide⟩) (fun hn => w_c hW 17 0 (by decide) ⟨rfl, fun q => hn (by rw [q]; rfl)⟩) (by have := hB.1; rw [List.length_range]; omega)
theorem w_l18 (hW : w_W E A S Sm h) (hB : w_B S) : l_at E h (A 18 0) (A 19 0) (q_sl S).length (fun i => ((q_sl S)[i]?).map (A 2)) :=
  w_lst (w_c hW 18 0 (by decide) ⟨rfl, by decide⟩) (fun hn => w_c hW 19 0 (by decide) ⟨rfl, hn⟩) (by have := q_sl_len S; have := hB.1; omega)
theorem w_l20 (hW : w_W E A S Sm h) (hB : w_B S) : l_at E h (A 20 0) (A 21 0) (List.range (q_ns S)).length (fun i => ((List.range (q_ns S))[i]?).map (A 7)) :=
  w_lst (w_c hW 20 0 (by decide) ⟨rfl, by decide⟩) (fun hn => w_c hW 21 0 (by decide) ⟨rfl, fun q => hn (by rw [q]; rfl)⟩) (by have := hB.2.1; rw [List.length_range]; omega)
theorem w_l22 (hW : w_W E A S Sm h) (hB : w_B S) : l_at E h (A 22 0) (A 23 0) (List.range (q_ne S)).length (fun i => ((List.range (q_ne S))[i]?).map (A 15)) :=
  w_lst (w_c hW 22 0 (by decide) ⟨rfl, by decide⟩) (fun hn => w_c hW 23 0 (by decide) ⟨rfl, fun q => hn (by rw [q]; rfl)⟩) (by have := hB.2.2.1; rw [List.length_range]; omega)
end WLISTS
theorem c_size {l : Launch} (hl : l.stackTraces = false) {E : g_E} {h : g_H} {b dd n : Nat} {f : Nat → Option Nat} (ha : l_at E h b dd n f) : g_Rd l mA_size 0 0 [.ref b] E h (some (.int (nI n))) := c_A_size hl E h ha.1
theorem c_isE {l : Launch} (hl : l.stackTraces = false) {E : g_E} {h : g_H} {b dd n : Nat} {f : Nat → Option Nat} (ha : l_at E h b dd n f) : g_Rd l mA_isEmpty 0 0 [.ref b] E h (some (.int (if nI n = 0 then 1 else 0))) := c_A_isEmpty hl E h ha.1
theorem c_get {l : Launch} (hl : l.stackTraces = false) {E : g_E} {h : g_H} {b dd : Nat} {xs : List Nat} {g : Nat → Nat} (ha : l_at E h b dd xs.length (fun i => (xs[i]?).map g)) {pre r : List Nat} {x : Nat} (hx : xs = pre ++ x :: r) : g_Rd l mA_get 2 27 [.ref b, .int (nI pre.length)] E h (some (.ref (g x))) := by
  have h9 := c_A_get hl ha (k := pre.length) (by rw [hx]; simp)
  have e : (xs[pre.length]?).map g = some (g x) := by rw [hx, q_nth]; rfl
  simp only [e] at h9
  exact h9
theorem c_getn {l : Launch} (hl : l.stackTraces = false) {E : g_E} {h : g_H} {b dd n k : Nat} {g : Nat → Nat} (ha : l_at E h b dd (List.range n).length (fun i => ((List.range n)[i]?).map g)) (hk : k < n) : g_Rd l mA_get 2 27 [.ref b, .int (nI k)] E h (some (.ref (g k))) := by
  have h9 := c_A_get hl ha (k := k) (by rw [List.length_range]; exact hk)
  have e : ((List.range n)[k]?).map g = some (g k) := by rw [List.getElem?_range hk]; rfl
  simp only [e] at h9
  exact h9
/-- what holds of the numbers, besides w_B -/
def w_C (S : q_S) : Prop :=
  (∀ p, p < q_np S → (S.2 0 p = 0 ∧ S.1 1 p = 0) ∨ ∃ q, S.1 1 p = q + 1 ∧ ((S.2 0 p = 1 ∧ S.2 0 q = 0) ∨ (S.2 0 p = 2 ∧ S.2 0 q = 1))) ∧
  (∀ j, j < q_ns S → S.2 1 j = -1 ∨ ¬ S.2 1 j < 0) ∧
  (∀ i, S.2 2 i = 0 ∨ S.2 2 i = 1) ∧
  (∀ e, e < q_ne S → ¬ S.2 7 e < 0 ∧ ¬ S.2 10 e < 0) ∧
  (∀ e, e < q_ne S → S.2 8 e = 0 ∨ S.2 8 e = 1 ∨ S.2 8 e = 2) ∧
  ((q_sl S = [] ∧ q_at S = 0 ∧ q_clicks S = 0) ∨ q_at S < (q_sl S).length)
