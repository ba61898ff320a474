/-! what holds between the law's calls -/
def w_Z (S : q_S) : Prop := (∀ t, S.1 4 t ≤ 4) ∧ S.1 0 5 ≤ 16 ∧ q_gL S 14 5 = q_gL S 18 6 ∧ (∀ i, 7 * q_ns S ≤ i → S.2 2 i = 0 ∧ S.2 3 i = 0) ∧ q_clicks S ≤ 24 ∧ (∃ s, s ≤ 4 ∧ S.2 4 6 = nI s) ∧ ∀ j, ¬ S.2 2 (7 * j + 6) = 0 → ∃ s, s ≤ 4 ∧ S.2 3 (7 * j + 6) = nI s
def w_I (S : q_S) : Prop := w_B S ∧ w_C S ∧ w_T S ∧ w_Z S
def q_iea (S T : q_S) : Prop := (S.1 0 0 = T.1 0 0 ∧ S.1 0 1 = T.1 0 1 ∧ S.1 0 2 = T.1 0 2 ∧ S.1 0 3 = T.1 0 3 ∧ S.1 0 4 = T.1 0 4 ∧ S.1 0 5 = T.1 0 5 ∧ S.1 0 6 = T.1 0 6) ∧ (S.1 1 = T.1 1 ∧ S.1 2 = T.1 2 ∧ S.1 3 = T.1 3 ∧ S.1 4 = T.1 4 ∧ S.1 5 = T.1 5) ∧ (S.2 0 = T.2 0 ∧ S.2 1 = T.2 1 ∧ S.2 2 = T.2 2 ∧ S.2 3 = T.2 3 ∧ S.2 4 = T.2 4 ∧ S.2 6 = T.2 6) ∧ (S.2 7 = T.2 7 ∧ S.2 8 = T.2 8 ∧ S.2 10 = T.2 10 ∧ S.2 12 = T.2 12) ∧ (S.2 14 = T.2 14 ∧ S.2 15 = T.2 15 ∧ S.2 16 = T.2 16 ∧ S.2 17 = T.2 17) ∧ S.2 18 = T.2 18 ∧ S.2 19 = T.2 19 ∧ S.2 20 = T.2 20 ∧ S.2 21 = T.2 21
theorem w_B_c {S T : q_S} (a0 : S.1 0 0 = T.1 0 0) (a1 : S.1 0 1 = T.1 0 1) (a2 : S.1 0 2 = T.1 0 2) (b1 : S.1 1 = T.1 1) (b2 : S.1 2 = T.1 2) (b3 : S.1 3 = T.1 3) (b5 : S.1 5 = T.1 5) (h : w_B S) : w_B T := by
  unfold w_B at h ⊢
  simp only [q_np, q_ns, q_ne, q_home, a0, a1, a2, b1, b2, b3, b5] at h ⊢
  exact h
theorem w_C_c {S T : q_S} (a0 : S.1 0 0 = T.1 0 0) (a1 : S.1 0 1 = T.1 0 1) (a2 : S.1 0 2 = T.1 0 2) (a3 : S.1 0 3 = T.1 0 3) (a4 : S.1 0 4 = T.1 0 4) (b1 : S.1 1 = T.1 1) (c0 : S.2 0 = T.2 0) (c1 : S.2 1 = T.2 1) (c2 : S.2 2 = T.2 2) (d7 : S.2 7 = T.2 7) (d8 : S.2 8 = T.2 8) (d10 : S.2 10 = T.2 10) (h : w_C S) : w_C T := by
  have hs := q_sl_c a0 c0
  unfold w_C at h ⊢
  rw [hs] at h
  simp only [q_np, q_ns, q_ne, q_at, q_clicks, a0, a1, a2, a3, a4, b1, c0, c1, c2, d7, d8, d10] at h ⊢
  exact h
theorem w_T_c {S T : q_S} (a1 : S.1 0 1 = T.1 0 1) (b3 : S.1 3 = T.1 3) (b4 : S.1 4 = T.1 4) (c6 : S.2 6 = T.2 6) (d12 : S.2 12 = T.2 12) (h : w_T S) : w_T T := by
  unfold w_T at h ⊢
  simp only [q_ns, a1, b3, b4, c6, d12] at h ⊢
  exact h
theorem w_Z_c {S T : q_S} (a1 : S.1 0 1 = T.1 0 1) (a4 : S.1 0 4 = T.1 0 4) (a5 : S.1 0 5 = T.1 0 5) (b4 : S.1 4 = T.1 4) (hL : q_gL S 14 5 = q_gL S 18 6 → q_gL T 14 5 = q_gL T 18 6) (c2 : S.2 2 = T.2 2) (c3 : S.2 3 = T.2 3) (c4 : S.2 4 = T.2 4) (h : w_Z S) : w_Z T := by
  obtain ⟨h1, h2, h3, h4, h5, h6, h7⟩ := h
  refine ⟨?_, ?_, hL h3, ?_, ?_, ?_, ?_⟩
  · rw [← b4]; exact h1
  · rw [← a5]; exact h2
  · intro i hi
    rw [← c2, ← c3]
    exact h4 i (by rw [show q_ns S = q_ns T from a1]; exact hi)
  · show T.1 0 4 ≤ 24
    rw [← a4]
    exact h5
  · rw [← c4]; exact h6
  · rw [← c2, ← c3]; exact h7
theorem w_I_c {S T : q_S} (h : q_iea S T) (hI : w_I S) : w_I T := by
  obtain ⟨⟨a0, a1, a2, a3, a4, a5, a6⟩, ⟨b1, b2, b3, b4, b5⟩, ⟨c0, c1, c2, c3, c4, c6⟩, ⟨d7, d8, d10, d12⟩, ⟨e14, e15, e16, e17⟩, e18, e19, e20, e21⟩ := h
  obtain ⟨h1, h2, h3, h4⟩ := hI
  refine ⟨w_B_c a0 a1 a2 b1 b2 b3 b5 h1, w_C_c a0 a1 a2 a3 a4 b1 c0 c1 c2 d7 d8 d10 h2, w_T_c a1 b3 b4 c6 d12 h3, w_Z_c a1 a4 a5 b4 (fun q => ?_) c2 c3 c4 h4⟩
  unfold q_gL at q ⊢
  rw [← a5, ← a6, ← e14, ← e18]
  show (S.1 0 5, S.2 14, T.2 15, T.2 16, T.2 17) = (S.1 0 6, S.2 18, T.2 19, T.2 20, T.2 21)
  rw [← e15, ← e16, ← e17, ← e19, ← e20, ← e21]
  exact q
theorem w_I.count {S : q_S} (h : w_I S) : S.1 0 6 ≤ 16 := by
  have h1 : S.1 0 5 = S.1 0 6 := congrArg Prod.fst h.2.2.2.2.2.1
  rw [← h1]
  exact h.2.2.2.2.1
theorem q_src_has {S : q_S} {j pr : Nat} : ∀ {r : Nat} {po : Option Nat} {s : Nat}, q_src S j pr r po = some s → ¬ S.2 2 (7 * s + pr) = 0
  | 0, _, s, h => by cases h
  | r + 1, none, s, h => by cases h
  | r + 1, some p, s, h => by
    cases hs : q_slotted S p (S.2 1 j) with
    | none => rw [q_src_none hs] at h; exact q_src_has h
    | some t =>
      by_cases h0 : S.2 2 (7 * t + pr) = 0
      · rw [q_src_zero hs h0] at h; exact q_src_has h
      · rw [q_src_hit hs h0] at h
        cases h
        exact h0
theorem q_scale {S : q_S} (h : w_I S) (j : Nat) : ∃ s, s ≤ 4 ∧ q_value S j 6 = nI s := by
  obtain ⟨-, -, -, -, -, -, -, -, h6, h7⟩ := h
  unfold q_value
  cases hs : q_source S j 6 with
  | none => exact h6
  | some x =>
    refine h7 x ?_
    unfold q_source at hs
    by_cases h0 : q_has S j 6 = 0
    · rw [if_pos h0] at hs
      by_cases h1 : q_slot S j < 0
      · rw [if_pos h1] at hs
        cases hs
      · rw [if_neg h1] at hs
        exact q_src_has hs
    · rw [if_neg h0] at hs
      cases hs
      exact h0
theorem q_run_cnt (S : q_S) (p : Nat) : ∀ n, (q_run S p n).2.2.2 ≤ n
  | 0 => by rw [q_run]; exact Nat.le_refl _
  | n + 1 => by
    have ih := q_run_cnt S p n
    by_cases h : q_home S (S.1 5 n) = p
    · rw [q_run_eq h]
      show (if S.2 8 n = 0 then (q_run S p n).2.2.2 + 1 else (q_run S p n).2.2.2) ≤ n + 1
      split <;> omega
    · rw [q_run_ne h]
      omega
theorem q_last_le {S : q_S} (hB : w_B S) (p : Nat) : q_last S p ≤ 24 := Nat.le_trans (q_run_cnt S p (q_ne S)) hB.2.2.1
theorem q_upN_s (f : Nat → Nat) (i x : Nat) : q_updN f i x i = x := if_pos rfl
theorem q_upN_n {f : Nat → Nat} {i x j : Nat} (h : ¬ j = i) : q_updN f i x j = f j := if_neg h
theorem q_up_s (f : Nat → Int32) (i : Nat) (x : Int32) : upd f i x i = x := if_pos rfl
theorem q_up_n {f : Nat → Int32} {i j : Nat} {x : Int32} (h : ¬ j = i) : upd f i x j = f j := if_neg h
/-- page -/
theorem i_page {S : q_S} (hI : w_I S) {k : Int32} {pp : Nat} (hn : q_np S < 12) (hk : (k = 0 ∧ pp = 0) ∨ ∃ p, p < q_np S ∧ pp = p + 1 ∧ ((k = 1 ∧ S.2 0 p = 0) ∨ (k = 2 ∧ S.2 0 p = 1))) : w_I (q_up1 (q_up1 (q_up2 S 0 (q_np S) k) 1 (q_np S) pp) 0 0 (q_np S + 1)) := by
  obtain ⟨hB, hC, hT, hZ⟩ := hI
  obtain ⟨hnp, hns, hne, hpar, hhome, hact⟩ := id hB
  obtain ⟨c1, c2, c3, c4, c5, c6⟩ := hC
  have hpp : pp ≤ q_np S := by
    rcases hk with ⟨-, h⟩ | ⟨p, h1, h2, -⟩ <;> omega
  refine ⟨⟨hn, hns, hne, fun p hp => ?_, fun j hj => ⟨Nat.lt_succ_of_lt (hhome j hj).1, (hhome j hj).2⟩, hact⟩, ⟨fun p hp => ?_, c2, c3, c4, c5, ?_⟩, hT, hZ⟩
  · show q_updN (S.1 1) (q_np S) pp p ≤ p
    have hp9 : p < q_np S + 1 := hp
    by_cases h : p = q_np S
    · rw [h, q_upN_s]
      exact hpp
    · rw [q_upN_n h]
      exact hpar p (by omega)
  · show (upd (S.2 0) (q_np S) k p = 0 ∧ q_updN (S.1 1) (q_np S) pp p = 0) ∨ ∃ q, q_updN (S.1 1) (q_np S) pp p = q + 1 ∧ ((upd (S.2 0) (q_np S) k p = 1 ∧ upd (S.2 0) (q_np S) k q = 0) ∨ (upd (S.2 0) (q_np S) k p = 2 ∧ upd (S.2 0) (q_np S) k q = 1))
    have hp9 : p < q_np S + 1 := hp
    by_cases h : p = q_np S
    · rw [h, q_upN_s, q_up_s]
      rcases hk with ⟨h1, h2⟩ | ⟨p2, h1, h2, h3⟩
      · exact Or.inl ⟨h1, h2⟩
      · exact Or.inr ⟨p2, h2, by rw [q_up_n (show ¬ p2 = q_np S by omega)]; exact h3⟩
    · rw [q_upN_n h, q_up_n h]
      rcases c1 p (by omega) with h1 | ⟨q, h1, h2⟩
      · exact Or.inl h1
      · have h3 := hpar p (by omega)
        exact Or.inr ⟨q, h1, by rw [q_up_n (show ¬ q = q_np S by omega)]; exact h2⟩
  · by_cases h2 : k = 2
    · subst h2
      rw [q_sl_ps]
      right
      show q_at S < _
      rw [show (q_sl S ++ [q_np S]).length = (q_sl S).length + 1 by simp]
      rcases c6 with h | h
      · rw [h.2.1]; omega
      · omega
    · rw [q_sl_pg h2]
      exact c6
/-- shape -/
theorem i_shape {S : q_S} (hI : w_I S) {p : Nat} {s : Int32} (hn : q_ns S < 24) (hp : p < q_np S) (hs : s = -1 ∨ ¬ s < 0) : w_I (q_up1 (q_up1 (q_up2 (q_up1 S 2 (q_ns S) p) 1 (q_ns S) s) 3 (q_ns S) 0) 0 1 (q_ns S + 1)) := by
  obtain ⟨hB, hC, hT, z1, z2, z3, z4, z5, z6, z7⟩ := hI
  obtain ⟨hnp, hns, hne, hpar, hhome, hact⟩ := id hB
  obtain ⟨c1, c2, c3, c4, c5, c6⟩ := hC
  refine ⟨⟨hnp, hn, hne, hpar, fun j hj => ?_, fun e he => Nat.lt_succ_of_lt (hact e he)⟩, ⟨c1, fun j hj => ?_, c3, c4, c5, c6⟩, fun t h1 h2 => ?_, z1, z2, z3, fun i hi => z4 i (by have hi9 : 7 * (q_ns S + 1) ≤ i := hi; omega), z5, z6, z7⟩
  · show q_updN (S.1 2) (q_ns S) p j < q_np S ∧ q_updN (S.1 3) (q_ns S) 0 j ≤ 4
    have hj9 : j < q_ns S + 1 := hj
    by_cases h : j = q_ns S
    · rw [h, q_upN_s, q_upN_s]
      exact ⟨hp, by omega⟩
    · rw [q_upN_n h, q_upN_n h]
      exact hhome j (by omega)
  · show upd (S.2 1) (q_ns S) s j = -1 ∨ ¬ upd (S.2 1) (q_ns S) s j < 0
    have hj9 : j < q_ns S + 1 := hj
    by_cases h : j = q_ns S
    · rw [h, q_up_s]
      exact hs
    · rw [q_up_n h]
      exact c2 j (by omega)
  · have h1' : t / 4 < q_ns S + 1 := h1
    have h2' : t % 4 < q_updN (S.1 3) (q_ns S) 0 (t / 4) := h2
    by_cases h : t / 4 = q_ns S
    · rw [h, q_upN_s] at h2'
      omega
    · rw [q_upN_n h] at h2'
      exact hT t (by omega) h2'
/-- effect -/
theorem i_effect {S : q_S} (hI : w_I S) {j : Nat} {k t w d : Int32} (hn : q_ne S < 24) (hj : j < q_ns S) (g1 : ¬ k < 0) (g3 : ¬ t < 0) (g4 : ¬ 2 < t) (g7 : ¬ d < 0) : w_I (q_up1 (q_up2 (q_up2 (q_up2 (q_up2 (q_up2 (q_up1 S 5 (q_ne S) j) 7 (q_ne S) k) 8 (q_ne S) t) 9 (q_ne S) w) 10 (q_ne S) d) 11 (q_ne S) 0) 0 2 (q_ne S + 1)) := by
  obtain ⟨hB, hC, hT, hZ⟩ := hI
  obtain ⟨hnp, hns, hne, hpar, hhome, hact⟩ := id hB
  obtain ⟨c1, c2, c3, c4, c5, c6⟩ := hC
  refine ⟨⟨hnp, hns, hn, hpar, hhome, fun e he => ?_⟩, ⟨c1, c2, c3, fun e he => ?_, fun e he => ?_, c6⟩, hT, hZ⟩
  · show q_updN (S.1 5) (q_ne S) j e < q_ns S
    have he9 : e < q_ne S + 1 := he
    by_cases h : e = q_ne S
    · rw [h, q_upN_s]
      exact hj
    · rw [q_upN_n h]
      exact hact e (by omega)
  · show ¬ upd (S.2 7) (q_ne S) k e < 0 ∧ ¬ upd (S.2 10) (q_ne S) d e < 0
    have he9 : e < q_ne S + 1 := he
    by_cases h : e = q_ne S
    · rw [h, q_up_s, q_up_s]
      exact ⟨g1, g7⟩
    · rw [q_up_n h, q_up_n h]
      exact c4 e (by omega)
  · show upd (S.2 8) (q_ne S) t e = 0 ∨ upd (S.2 8) (q_ne S) t e = 1 ∨ upd (S.2 8) (q_ne S) t e = 2
    have he9 : e < q_ne S + 1 := he
    by_cases h : e = q_ne S
    · rw [h, q_up_s]
      obtain ⟨n, hn2, rfl⟩ := nI_of2 (M := 2) (n := 2) (by decide) g3 (q_nlt_le g4)
      have h3 : n = 0 ∨ n = 1 ∨ n = 2 := by omega
      rcases h3 with rfl | rfl | rfl
      · exact Or.inl rfl
      · exact Or.inr (Or.inl rfl)
      · exact Or.inr (Or.inr rfl)
    · rw [q_up_n h]
      exact c5 e (by omega)
theorem r_lim_6 {v : Int32} (h : r_lim 6 v = 0) : ∃ s, s ≤ 4 ∧ v = nI s := by
  obtain ⟨h1, h2⟩ := r_lim_0 h
  have h1' : ¬ v < 1 := h1
  have h2' : v ≤ 4 := h2
  refine nI_of2 (M := 4) (n := 4) (by decide) (fun q => h1' ?_) h2'
  rw [Int32.lt_iff_toInt_lt] at q ⊢
  rw [show (0 : Int32).toInt = 0 from by decide] at q
  rw [show (1 : Int32).toInt = 1 from by decide]
  omega
theorem i_theme {S : q_S} (hI : w_I S) {p : Nat} {v : Int32} (hv : r_lim p v = 0) : w_I (q_up2 S 4 p v) := by
  obtain ⟨hB, hC, hT, z1, z2, z3, z4, z5, z6, z7⟩ := hI
  refine ⟨hB, hC, hT, z1, z2, z3, z4, z5, ?_, z7⟩
  show ∃ s, s ≤ 4 ∧ upd (S.2 4) p v 6 = nI s
  by_cases h : 6 = p
  · subst h
    rw [q_up_s]
    exact r_lim_6 hv
  · rw [q_up_n h]
    exact z6
theorem i_set {S : q_S} (hI : w_I S) {j p : Nat} {v : Int32} (hj : j < q_ns S) (hp : p < 7) (hv : r_lim p v = 0) : w_I (q_up2 (q_up2 S 2 (7 * j + p) 1) 3 (7 * j + p) v) := by
  obtain ⟨hB, hC, hT, z1, z2, z3, z4, z5, z6, z7⟩ := hI
  obtain ⟨c1, c2, c3, c4, c5, c6⟩ := hC
  refine ⟨hB, ⟨c1, c2, fun i => ?_, c4, c5, c6⟩, hT, z1, z2, z3, fun i hi => ?_, z5, z6, fun i hi => ?_⟩
  · show upd (S.2 2) (7 * j + p) 1 i = 0 ∨ upd (S.2 2) (7 * j + p) 1 i = 1
    by_cases h : i = 7 * j + p
    · rw [h, q_up_s]
      exact Or.inr rfl
    · rw [q_up_n h]
      exact c3 i
  · show upd (S.2 2) (7 * j + p) 1 i = 0 ∧ upd (S.2 3) (7 * j + p) v i = 0
    have hi9 : 7 * q_ns S ≤ i := hi
    rw [q_up_n (show ¬ i = 7 * j + p by omega), q_up_n (show ¬ i = 7 * j + p by omega)]
    exact z4 i hi9
  · show ∃ s, s ≤ 4 ∧ upd (S.2 3) (7 * j + p) v (7 * i + 6) = nI s
    have hi9 : ¬ upd (S.2 2) (7 * j + p) 1 (7 * i + 6) = 0 := hi
    by_cases h : 7 * i + 6 = 7 * j + p
    · rw [h, q_up_s]
      have h6 : p = 6 := by omega
      subst h6
      exact r_lim_6 hv
    · rw [q_up_n h] at hi9 ⊢
      exact z7 i hi9
theorem i_unset {S : q_S} (hI : w_I S) {j p : Nat} (hj : j < q_ns S) (hp : p < 7) : w_I (q_up2 S 2 (7 * j + p) 0) := by
  obtain ⟨hB, hC, hT, z1, z2, z3, z4, z5, z6, z7⟩ := hI
  obtain ⟨c1, c2, c3, c4, c5, c6⟩ := hC
  refine ⟨hB, ⟨c1, c2, fun i => ?_, c4, c5, c6⟩, hT, z1, z2, z3, fun i hi => ?_, z5, z6, fun i hi => ?_⟩
  · show upd (S.2 2) (7 * j + p) 0 i = 0 ∨ upd (S.2 2) (7 * j + p) 0 i = 1
    by_cases h : i = 7 * j + p
    · rw [h, q_up_s]
      exact Or.inl rfl
    · rw [q_up_n h]
      exact c3 i
  · show upd (S.2 2) (7 * j + p) 0 i = 0 ∧ S.2 3 i = 0
    have hi9 : 7 * q_ns S ≤ i := hi
    rw [q_up_n (show ¬ i = 7 * j + p by omega)]
    exact z4 i hi9
  · have hi9 : ¬ upd (S.2 2) (7 * j + p) 0 (7 * i + 6) = 0 := hi
    by_cases h : 7 * i + 6 = 7 * j + p
    · rw [h, q_up_s] at hi9
      exact absurd rfl hi9
    · rw [q_up_n h] at hi9
      exact z7 i hi9
theorem i_show {S : q_S} (hI : w_I S) {a c : Nat} {t : Int32} (ha : a < (q_sl S).length) (hc : c ≤ 24) : w_I (q_up2 (q_up1 (q_up1 S 0 3 a) 0 4 c) 13 0 t) := by
  obtain ⟨hB, hC, hT, z1, z2, z3, z4, z5, z6, z7⟩ := hI
  obtain ⟨c1, c2, c3, c4, c5, c6⟩ := hC
  exact ⟨hB, ⟨c1, c2, c3, c4, c5, Or.inr ha⟩, hT, z1, z2, z3, z4, hc, z6, z7⟩
theorem q_slide_at {S : q_S} (hB : w_B S) {a p : Nat} (ha : a < 2 ^ 31) (h : q_slide S (nI a) = some p) : a < (q_sl S).length := by
  rw [q_slide_sl hB ha] at h
  exact (List.getElem?_eq_some_iff.mp h).1
/-- the lines of a text -/
theorem i_lines {S : q_S} (hI : w_I S) {j s : Nat} (hj : j < q_ns S) : w_I (q_wL (q_wL S 18 6 (q_fit S j s (q_gL S 18 6)).2) 14 5 (q_fit S j s (q_gL S 14 5)).2) := by
  have hc := hI.count
  obtain ⟨hB, hC, hT, z1, z2, z3, z4, z5, z6, z7⟩ := hI
  have hf := (q_fit_le S j z1 (hB.2.2.2.2.1 j hj).2 s (q_gL S 14 5) z2).1
  refine ⟨hB, hC, hT, z1, hf, ?_, z4, z5, z6, z7⟩
  rw [← z3]
  rfl
theorem q_cw_mono (x : Int32) : ∀ {a b : Nat}, a ≤ b → q_cw x a ≤ q_cw x b
  | a, 0, h => by
    have : a = 0 := by omega
    rw [this]
    exact Nat.le_refl _
  | a, b + 1, h => by
    by_cases h1 : a = b + 1
    · rw [h1]
      exact Nat.le_refl _
    · have h2 := q_cw_mono x (a := a) (b := b) (by omega)
      refine Nat.le_trans h2 ?_
      rw [q_cw]
      split <;> omega
theorem q_wrs_cnt (S : q_S) (t : Nat) (x : Int32) (h0 : S.1 4 t = 0) : ∀ w, (q_wrs S t x w).1 4 t = q_cw x w
  | 0 => by rw [q_wrs, h0, q_cw]
  | w + 1 => by
    have ih := q_wrs_cnt S t x h0 w
    rw [q_wrs, q_cw]
    by_cases h : r_by x (3 - w) ≤ 0
    · rw [if_pos h, if_pos h]
      exact ih
    · rw [if_neg h, if_neg h]
      show q_updN ((q_wrs S t x w).1 4) t ((q_wrs S t x w).1 4 t + 1) t = q_cw x w + 1
      rw [q_upN_s, ih]
theorem q_wrs_oth (S : q_S) (t : Nat) (x : Int32) {t' : Nat} (ht : ¬ t' = t) : ∀ w, (q_wrs S t x w).1 4 t' = S.1 4 t'
  | 0 => rfl
  | w + 1 => by
    have ih := q_wrs_oth S t x ht w
    rw [q_wrs]
    by_cases h : r_by x (3 - w) ≤ 0
    · rw [if_pos h]
      exact ih
    · rw [if_neg h]
      show q_updN ((q_wrs S t x w).1 4) t ((q_wrs S t x w).1 4 t + 1) t' = S.1 4 t'
      rw [q_upN_n ht]
      exact ih
theorem q_wrs_ent (S : q_S) (t : Nat) (x : Int32) (h0 : S.1 4 t = 0) : ∀ w w', w' < w → ¬ r_by x (3 - w') ≤ 0 → (q_wrs S t x w).2 6 (4 * t + q_cw x w') = r_by x (3 - w')
  | 0, w', h, _ => by omega
  | w + 1, w', hw, hz => by
    have hc := q_wrs_cnt S t x h0 w
    rw [q_wrs]
    by_cases h : r_by x (3 - w) ≤ 0
    · rw [if_pos h]
      have hne : ¬ w' = w := fun q => hz (by rw [q]; exact h)
      exact q_wrs_ent S t x h0 w w' (by omega) hz
    · rw [if_neg h]
      show upd ((q_wrs S t x w).2 6) (4 * t + (q_wrs S t x w).1 4 t) (r_by x (3 - w)) (4 * t + q_cw x w') = r_by x (3 - w')
      rw [hc]
      by_cases h2 : w' = w
      · rw [h2, q_up_s]
      · have h3 := q_cw_mono x (a := w' + 1) (b := w) (by omega)
        rw [q_cw, if_neg hz] at h3
        rw [q_up_n (by omega)]
        exact q_wrs_ent S t x h0 w w' (by omega) hz
theorem q_wrs_e2 (S : q_S) (t : Nat) (x : Int32) (h0 : S.1 4 t = 0) {t' c : Nat} (ht : ¬ t' = t) (hc : c < 4) : ∀ w, w ≤ 4 → (q_wrs S t x w).2 6 (4 * t' + c) = S.2 6 (4 * t' + c)
  | 0, _ => rfl
  | w + 1, hw => by
    have ih := q_wrs_e2 S t x h0 ht hc w (by omega)
    have hl := q_wrs_le S t x h0 w
    rw [q_wrs]
    by_cases h : r_by x (3 - w) ≤ 0
    · rw [if_pos h]
      exact ih
    · rw [if_neg h]
      show upd ((q_wrs S t x w).2 6) (4 * t + (q_wrs S t x w).1 4 t) (r_by x (3 - w)) (4 * t' + c) = S.2 6 (4 * t' + c)
      rw [q_up_n (by omega)]
      exact ih
theorem i_write {S : q_S} (hI : w_I S) {j : Nat} {v x : Int32} (hj : j < q_ns S) (hn : S.1 3 j < 4) (hx : ¬ r_aw x = 0) : w_I (q_up2 (q_up1 (q_wrs (q_up1 (q_up2 S 5 (4 * j + S.1 3 j) v) 4 (4 * j + S.1 3 j) 0) (4 * j + S.1 3 j) x 4) 3 j (S.1 3 j + 1)) 12 (4 * j + S.1 3 j) x) := by
  obtain ⟨hB, hC, hT, z1, z2, z3, z4, z5, z6, z7⟩ := hI
  obtain ⟨hnp, hns, hne, hpar, hhome, hact⟩ := id hB
  have hby := (r_aw_by hx).1
  have h40 : (q_up1 (q_up2 S 5 (4 * j + S.1 3 j) v) 4 (4 * j + S.1 3 j) 0).1 4 (4 * j + S.1 3 j) = 0 := q_upN_s _ _ _
  have e1 : ∀ u, ¬ u = 4 → (q_wrs (q_up1 (q_up2 S 5 (4 * j + S.1 3 j) v) 4 (4 * j + S.1 3 j) 0) (4 * j + S.1 3 j) x 4).1 u = S.1 u := fun u hu => (q_wrs_1 _ _ _ hu 4).trans (if_neg hu)
  have e2 : ∀ u, ¬ u = 6 → ¬ u = 5 → (q_wrs (q_up1 (q_up2 S 5 (4 * j + S.1 3 j) v) 4 (4 * j + S.1 3 j) 0) (4 * j + S.1 3 j) x 4).2 u = S.2 u := fun u hu hu5 => (q_wrs_2 _ _ _ hu 4).trans (if_neg hu5)
  have f4 := q_wrs_cnt (q_up1 (q_up2 S 5 (4 * j + S.1 3 j) v) 4 (4 * j + S.1 3 j) 0) (4 * j + S.1 3 j) x h40 4
  have f4' : ∀ t', ¬ t' = 4 * j + S.1 3 j → (q_wrs (q_up1 (q_up2 S 5 (4 * j + S.1 3 j) v) 4 (4 * j + S.1 3 j) 0) (4 * j + S.1 3 j) x 4).1 4 t' = S.1 4 t' := fun t' ht => (q_wrs_oth _ _ _ ht 4).trans (q_upN_n ht)
  have f6 := q_wrs_ent (q_up1 (q_up2 S 5 (4 * j + S.1 3 j) v) 4 (4 * j + S.1 3 j) 0) (4 * j + S.1 3 j) x h40 4
  have f6' : ∀ t' c, ¬ t' = 4 * j + S.1 3 j → c < 4 → (q_wrs (q_up1 (q_up2 S 5 (4 * j + S.1 3 j) v) 4 (4 * j + S.1 3 j) 0) (4 * j + S.1 3 j) x 4).2 6 (4 * t' + c) = S.2 6 (4 * t' + c) := fun t' c ht hc => q_wrs_e2 _ _ _ h40 ht hc 4 (Nat.le_refl _)
  generalize q_wrs (q_up1 (q_up2 S 5 (4 * j + S.1 3 j) v) 4 (4 * j + S.1 3 j) 0) (4 * j + S.1 3 j) x 4 = V at e1 e2 f4 f4' f6 f6' ⊢
  have v0 := e1 0 (by decide)
  have v1 := e1 1 (by decide)
  have v2 := e1 2 (by decide)
  have v3 := e1 3 (by decide)
  have v5 := e1 5 (by decide)
  have g : ∀ i, V.1 0 i = S.1 0 i := fun i => by rw [v0]
  have hcw := q_cw_le x 4
  refine ⟨?_, w_C_c (S := S) (g 0).symm (g 1).symm (g 2).symm (g 3).symm (g 4).symm v1.symm (e2 0 (by decide) (by decide)).symm (e2 1 (by decide) (by decide)).symm (e2 2 (by decide) (by decide)).symm (e2 7 (by decide) (by decide)).symm (e2 8 (by decide) (by decide)).symm (e2 10 (by decide) (by decide)).symm hC, fun t h1 h2 => ?_, fun t => ?_, ?_, ?_, fun i hi => ?_, ?_, ?_, ?_⟩
  · refine ⟨?_, ?_, ?_, fun p hp => ?_, fun i hi => ?_, fun e he => ?_⟩
    · show V.1 0 0 ≤ 12
      rw [g]; exact hnp
    · show V.1 0 1 ≤ 24
      rw [g]; exact hns
    · show V.1 0 2 ≤ 24
      rw [g]; exact hne
    · have hp9 : p < V.1 0 0 := hp
      rw [g] at hp9
      show V.1 1 p ≤ p
      rw [v1]; exact hpar p hp9
    · have hi9 : i < V.1 0 1 := hi
      rw [g] at hi9
      show V.1 2 i < V.1 0 0 ∧ q_updN (V.1 3) j (S.1 3 j + 1) i ≤ 4
      rw [v2, g, v3]
      refine ⟨(hhome i hi9).1, ?_⟩
      by_cases h : i = j
      · rw [h, q_upN_s]; omega
      · rw [q_upN_n h]; exact (hhome i hi9).2
    · have he9 : e < V.1 0 2 := he
      rw [g] at he9
      show V.1 5 e < V.1 0 1
      rw [v5, g]; exact hact e he9
  · have h1' : t / 4 < V.1 0 1 := h1
    rw [g] at h1'
    have h2' : t % 4 < q_updN (V.1 3) j (S.1 3 j + 1) (t / 4) := h2
    rw [v3] at h2'
    show V.1 4 t = q_cw (upd (V.2 12) (4 * j + S.1 3 j) x t) 4 ∧ (∀ w, w < 4 → ¬ r_by (upd (V.2 12) (4 * j + S.1 3 j) x t) (3 - w) ≤ 0 → V.2 6 (4 * t + q_cw (upd (V.2 12) (4 * j + S.1 3 j) x t) w) = r_by (upd (V.2 12) (4 * j + S.1 3 j) x t) (3 - w)) ∧ ∀ i, i < 4 → ¬ 15 < r_by (upd (V.2 12) (4 * j + S.1 3 j) x t) i
    by_cases ht : t = 4 * j + S.1 3 j
    · rw [ht, q_up_s]
      exact ⟨f4, fun w hw hz => f6 w hw hz, hby⟩
    · rw [q_up_n ht, e2 12 (by decide) (by decide), f4' t ht]
      have h3 : t % 4 < S.1 3 (t / 4) := by
        by_cases h9 : t / 4 = j
        · rw [h9, q_upN_s] at h2'
          rw [h9]
          omega
        · rw [q_upN_n h9] at h2'
          exact h2'
      obtain ⟨k1, k2, k3⟩ := hT t h1' h3
      refine ⟨k1, fun w hw hz => ?_, k3⟩
      rw [f6' t _ ht (Nat.lt_of_le_of_lt (q_cw_le _ w) hw)]
      exact k2 w hw hz
  · show V.1 4 t ≤ 4
    by_cases ht : t = 4 * j + S.1 3 j
    · rw [ht, f4]
      exact hcw
    · rw [f4' t ht]
      exact z1 t
  · show V.1 0 5 ≤ 16
    rw [g]; exact z2
  · show (V.1 0 5, V.2 14, V.2 15, V.2 16, V.2 17) = (V.1 0 6, V.2 18, V.2 19, V.2 20, V.2 21)
    rw [g, g, e2 14 (by decide) (by decide), e2 15 (by decide) (by decide), e2 16 (by decide) (by decide), e2 17 (by decide) (by decide), e2 18 (by decide) (by decide), e2 19 (by decide) (by decide), e2 20 (by decide) (by decide), e2 21 (by decide) (by decide)]
    exact z3
  · have hi9 : 7 * V.1 0 1 ≤ i := hi
    rw [g] at hi9
    show V.2 2 i = 0 ∧ V.2 3 i = 0
    rw [e2 2 (by decide) (by decide), e2 3 (by decide) (by decide)]
    exact z4 i hi9
  · show V.1 0 4 ≤ 24
    rw [g]; exact z5
  · show ∃ s, s ≤ 4 ∧ V.2 4 6 = nI s
    rw [e2 4 (by decide) (by decide)]; exact z6
  · show ∀ i, ¬ V.2 2 (7 * i + 6) = 0 → ∃ s, s ≤ 4 ∧ V.2 3 (7 * i + 6) = nI s
    rw [e2 2 (by decide) (by decide), e2 3 (by decide) (by decide)]; exact z7
