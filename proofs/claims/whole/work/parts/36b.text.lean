/-! values and texts: which entries they ask; the lines of a text -/
def q_va (S T : q_S) : Prop := q_ns S = q_ns T ∧ S.1 1 = T.1 1 ∧ S.1 2 = T.1 2 ∧ S.2 1 = T.2 1 ∧ S.2 2 = T.2 2 ∧ S.2 3 = T.2 3 ∧ S.2 4 = T.2 4
theorem q_slotted_va {S T : q_S} (h : q_va S T) (p : Nat) (s : Int32) : q_slotted S p s = q_slotted T p s := by
  obtain ⟨h1, h2, h3, h4, h5, h6, h7⟩ := h
  unfold q_slotted
  simp only [q_home, q_slot, h1, h3, h4]
theorem q_par_va {S T : q_S} (h : q_va S T) (p : Nat) : q_par S p = q_par T p := by
  unfold q_par
  rw [h.2.1]
theorem q_src_va {S T : q_S} (h : q_va S T) (j pr : Nat) : ∀ (r : Nat) (po : Option Nat), q_src S j pr r po = q_src T j pr r po
  | 0, _ => by rw [q_src, q_src]
  | r + 1, none => by rw [q_src, q_src]
  | r + 1, some p => by
    have h4 : S.2 1 j = T.2 1 j := by rw [h.2.2.2.1]
    have hq : q_slotted T p (T.2 1 j) = q_slotted S p (S.2 1 j) := by rw [q_slotted_va h, h4]
    cases hs : q_slotted S p (S.2 1 j) with
    | none => rw [q_src_none (S := S) hs, q_src_none (S := T) (hq.trans hs), q_src_va h j pr r, q_par_va h]
    | some s =>
      have h5 : S.2 2 (7 * s + pr) = T.2 2 (7 * s + pr) := by rw [h.2.2.2.2.1]
      by_cases h0 : S.2 2 (7 * s + pr) = 0
      · rw [q_src_zero (S := S) hs h0, q_src_zero (S := T) (hq.trans hs) (h5.symm.trans h0), q_src_va h j pr r, q_par_va h]
      · rw [q_src_hit (S := S) hs h0, q_src_hit (S := T) (hq.trans hs) (fun q => h0 (h5.trans q))]
theorem q_source_va {S T : q_S} (h : q_va S T) (j pr : Nat) : q_source S j pr = q_source T j pr := by
  obtain ⟨h1, h2, h3, h4, h5, h6, h7⟩ := id h
  unfold q_source
  rw [q_src_va h, q_par_va h]
  simp only [q_has, q_slot, q_home, h3, h4, h5]
theorem q_value_va {S T : q_S} (h : q_va S T) (j pr : Nat) : q_value S j pr = q_value T j pr := by
  obtain ⟨h1, h2, h3, h4, h5, h6, h7⟩ := id h
  unfold q_value
  rw [q_source_va h]
  simp only [q_own, h6, h7]
/-- the lines: their number, paragraphs, first words, numbers of words, widths -/
abbrev q_L : Type := Nat × (Nat → Int32) × (Nat → Int32) × (Nat → Int32) × (Nat → Int32)
def q_gL (S : q_S) (b c : Nat) : q_L := (S.1 0 c, S.2 b, S.2 (b + 1), S.2 (b + 2), S.2 (b + 3))
def q_wL (S : q_S) (b c : Nat) (L : q_L) : q_S := (fun t => if t = 0 then q_updN (S.1 0) c L.1 else S.1 t, fun t => if t = b then L.2.1 else if t = b + 1 then L.2.2.1 else if t = b + 2 then L.2.2.2.1 else if t = b + 3 then L.2.2.2.2 else S.2 t)
theorem q_wL_g (S : q_S) (b c : Nat) : q_wL S b c (q_gL S b c) = S := by
  unfold q_wL q_gL
  refine Prod.ext (funext fun t => ?_) (funext fun t => ?_)
  · show (if t = 0 then q_updN (S.1 0) c (S.1 0 c) else S.1 t) = S.1 t
    split
    · rename_i h
      subst h
      funext i
      unfold q_updN
      split
      · rename_i h2
        rw [h2]
      · rfl
    · rfl
  · show (if t = b then S.2 b else if t = b + 1 then S.2 (b + 1) else if t = b + 2 then S.2 (b + 2) else if t = b + 3 then S.2 (b + 3) else S.2 t) = S.2 t
    split
    · rename_i h; rw [h]
    · split
      · rename_i h; rw [h]
      · split
        · rename_i h; rw [h]
        · split
          · rename_i h; rw [h]
          · rfl
def q_wd (s room : Int32) (k w : Nat) (x : Int32) (L : q_L) : q_L :=
  if 0 < w ∧ L.2.2.2.2 (L.1 - 1) + s + x ≤ room then (L.1, L.2.1, L.2.2.1, upd L.2.2.2.1 (L.1 - 1) (L.2.2.2.1 (L.1 - 1) + 1), upd L.2.2.2.2 (L.1 - 1) (L.2.2.2.2 (L.1 - 1) + s + x))
  else (L.1 + 1, upd L.2.1 L.1 (nI k), upd L.2.2.1 L.1 (nI w), upd L.2.2.2.1 L.1 1, upd L.2.2.2.2 L.1 x)
def q_room (S : q_S) (j : Nat) (s : Int32) (k : Nat) : Int32 := q_value S j 2 - 2 * s * S.2 5 (4 * j + k)
def q_pg (S : q_S) (j : Nat) (s : Int32) (k : Nat) : Nat → q_L → q_L
  | 0, L => L
  | w + 1, L => q_wd s (q_room S j s k) k w (s * S.2 6 (4 * (4 * j + k) + w)) (q_pg S j s k w L)
def q_tx (S : q_S) (j : Nat) (s : Int32) : Nat → q_L → q_L
  | 0, L => (0, L.2)
  | k + 1, L => q_pg S j s k (S.1 4 (4 * j + k)) (q_tx S j s k L)
def q_fit (S : q_S) (j : Nat) : Nat → q_L → Int32 × q_L
  | 0, L => (0, L)
  | s + 1, L => if nI (s + 1) * nI (q_tx S j (nI (s + 1)) (S.1 3 j) L).1 ≤ q_value S j 3 then (nI (s + 1), q_tx S j (nI (s + 1)) (S.1 3 j) L) else q_fit S j s (q_tx S j (nI (s + 1)) (S.1 3 j) L)
theorem q_wd_le (s room : Int32) (k w : Nat) (x : Int32) (L : q_L) : (q_wd s room k w x L).1 ≤ L.1 + 1 := by
  unfold q_wd
  split
  · exact Nat.le_succ _
  · exact Nat.le_refl _
theorem q_wd_ge (s room : Int32) (k w : Nat) (x : Int32) (L : q_L) : L.1 ≤ (q_wd s room k w x L).1 := by
  unfold q_wd
  split
  · exact Nat.le_refl _
  · exact Nat.le_succ _
theorem q_pg_le (S : q_S) (j : Nat) (s : Int32) (k : Nat) (L : q_L) : ∀ w, (q_pg S j s k w L).1 ≤ L.1 + w
  | 0 => Nat.le_refl _
  | w + 1 => by
    have h1 := q_pg_le S j s k L w
    have h2 := q_wd_le s (q_room S j s k) k w (s * S.2 6 (4 * (4 * j + k) + w)) (q_pg S j s k w L)
    rw [q_pg]
    omega
theorem q_pg_pos (S : q_S) (j : Nat) (s : Int32) (k : Nat) (L : q_L) : ∀ w, 0 < w → 1 ≤ (q_pg S j s k w L).1
  | 0, h => by omega
  | 1, _ => by
    rw [q_pg, q_wd, if_neg (fun q => absurd q.1 (Nat.lt_irrefl 0))]
    exact Nat.le_add_left _ _
  | w + 2, _ => by
    have h1 := q_pg_pos S j s k L (w + 1) (by omega)
    have h2 := q_wd_ge s (q_room S j s k) k (w + 1) (s * S.2 6 (4 * (4 * j + k) + (w + 1))) (q_pg S j s k (w + 1) L)
    rw [q_pg]
    omega
theorem q_tx_le (S : q_S) (j : Nat) (s : Int32) (L : q_L) (h : ∀ t, S.1 4 t ≤ 4) : ∀ k, (q_tx S j s k L).1 ≤ 4 * k
  | 0 => Nat.le_refl _
  | k + 1 => by
    have h1 := q_tx_le S j s L h k
    have h2 := q_pg_le S j s k (q_tx S j s k L) (S.1 4 (4 * j + k))
    have h3 := h (4 * j + k)
    rw [q_tx]
    omega
theorem q_fit_le (S : q_S) (j : Nat) (h : ∀ t, S.1 4 t ≤ 4) (h3 : S.1 3 j ≤ 4) : ∀ (s : Nat) (L : q_L), L.1 ≤ 16 → (q_fit S j s L).2.1 ≤ 16 ∧ ∃ k, k ≤ s ∧ (q_fit S j s L).1 = nI k
  | 0, L, hL => ⟨hL, 0, Nat.le_refl _, rfl⟩
  | s + 1, L, hL => by
    have h1 := q_tx_le S j (nI (s + 1)) L h (S.1 3 j)
    rw [q_fit]
    split
    · exact ⟨by show (q_tx S j (nI (s + 1)) (S.1 3 j) L).1 ≤ 16; omega, s + 1, Nat.le_refl _, rfl⟩
    · obtain ⟨h4, k, h5, h6⟩ := q_fit_le S j h h3 s (q_tx S j (nI (s + 1)) (S.1 3 j) L) (by omega)
      exact ⟨h4, k, by omega, h6⟩
/-- what a text asks -/
def q_ta (S T : q_S) : Prop := q_va S T ∧ S.1 3 = T.1 3 ∧ S.1 4 = T.1 4 ∧ S.2 5 = T.2 5 ∧ S.2 6 = T.2 6
theorem q_pg_ta {S T : q_S} (h : q_ta S T) (j : Nat) (s : Int32) (k : Nat) (L : q_L) : ∀ w, q_pg S j s k w L = q_pg T j s k w L
  | 0 => rfl
  | w + 1 => by
    rw [q_pg, q_pg, q_pg_ta h j s k L w]
    unfold q_room
    rw [q_value_va h.1, h.2.2.2.1, h.2.2.2.2]
theorem q_tx_ta {S T : q_S} (h : q_ta S T) (j : Nat) (s : Int32) (L : q_L) : ∀ k, q_tx S j s k L = q_tx T j s k L
  | 0 => rfl
  | k + 1 => by rw [q_tx, q_tx, q_tx_ta h j s L k, q_pg_ta h, h.2.2.1]
theorem q_fit_ta {S T : q_S} (h : q_ta S T) (j : Nat) : ∀ (s : Nat) (L : q_L), q_fit S j s L = q_fit T j s L
  | 0, L => rfl
  | s + 1, L => by
    rw [q_fit, q_fit, q_tx_ta h, h.2.1, q_value_va h.1, q_fit_ta h j s]
