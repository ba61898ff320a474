/-! the stage's lists against the loops of the reference -/
theorem q_slotted_on (S : q_S) (p : Nat) (s : Int32) : (q_on S p).find? (fun k => decide (S.2 1 k = s)) = q_slotted S p s := by
  unfold q_on q_slotted
  rw [List.range_eq_range', ← q_find_filter]
  congr 1
  funext k
  simp [Bool.decide_and]
theorem q_fold {α : Type} (F : Nat → α) (g : Nat → Bool) (G : Nat → α → α) (h : ∀ e, F (e + 1) = if g e = true then G e (F e) else F e) : ∀ n, F n = ((List.range n).filter g).foldl (fun a e => G e a) (F 0)
  | 0 => rfl
  | n + 1 => by
    rw [h, q_fold F g G h n, List.range_succ, List.filter_append, List.foldl_append, List.filter_cons, List.filter_nil]
    split
    · rfl
    · rfl
theorem q_mem_on {S : q_S} {p k : Nat} (h : k ∈ q_on S p) : k < q_ns S ∧ q_home S k = p := by
  unfold q_on at h
  rw [List.mem_filter, List.mem_range] at h
  exact ⟨h.1, of_decide_eq_true h.2⟩
theorem q_mem_eon {S : q_S} {p e : Nat} (h : e ∈ q_eon S p) : e < q_ne S ∧ q_epage S e = p := by
  unfold q_eon at h
  rw [List.mem_filter, List.mem_range] at h
  exact ⟨h.1, of_decide_eq_true h.2⟩
theorem q_mem_eof {S : q_S} {j e : Nat} (h : e ∈ q_eof S j) : e < q_ne S ∧ S.1 5 e = j := by
  unfold q_eof at h
  rw [List.mem_filter, List.mem_range] at h
  exact ⟨h.1, of_decide_eq_true h.2⟩
theorem q_mem_sl {S : q_S} {p : Nat} (h : p ∈ q_sl S) : p < q_np S ∧ S.2 0 p = 2 := by
  unfold q_sl at h
  rw [List.mem_filter, List.mem_range] at h
  exact ⟨h.1, of_decide_eq_true h.2⟩
theorem q_on_len (S : q_S) (p : Nat) : (q_on S p).length ≤ q_ns S := by
  have := List.length_filter_le (fun k => decide (q_home S k = p)) (List.range (q_ns S))
  rw [List.length_range] at this
  exact this
theorem q_eon_len (S : q_S) (p : Nat) : (q_eon S p).length ≤ q_ne S := by
  have := List.length_filter_le (fun e => decide (q_home S (S.1 5 e) = p)) (List.range (q_ne S))
  rw [List.length_range] at this
  exact this
theorem q_eof_len (S : q_S) (j : Nat) : (q_eof S j).length ≤ q_ne S := by
  have := List.length_filter_le (fun e => decide (S.1 5 e = j)) (List.range (q_ne S))
  rw [List.length_range] at this
  exact this
theorem q_sl_len (S : q_S) : (q_sl S).length ≤ q_np S := by
  have := List.length_filter_le (fun p => decide (q_kind S p = 2)) (List.range (q_np S))
  rw [List.length_range] at this
  exact this
theorem q_nth {α : Type} (pre : List α) (x : α) (r : List α) : (pre ++ x :: r)[pre.length]? = some x := by simp
/-- the page's run of effects is told by its last one -/
theorem q_run_last (S : q_S) (p : Nat) : ∀ n, (((List.range n).filter (fun e => decide (q_home S (S.1 5 e) = p))).getLast? = none ∧ q_run S p n = (0, 0, false, 0)) ∨ ∃ e, ((List.range n).filter (fun e => decide (q_home S (S.1 5 e) = p))).getLast? = some e ∧ e < n ∧ q_epage S e = p ∧ q_run S p n = q_run S p (e + 1)
  | 0 => Or.inl ⟨rfl, by rw [q_run]⟩
  | n + 1 => by
    rw [List.range_succ, List.filter_append, List.filter_cons, List.filter_nil]
    by_cases h : q_home S (S.1 5 n) = p
    · rw [if_pos (decide_eq_true h)]
      exact Or.inr ⟨n, by simp, Nat.lt_succ_self n, h, rfl⟩
    · rw [if_neg (by simpa using h), List.append_nil, q_run_ne h]
      rcases q_run_last S p n with h1 | ⟨e, h1, h2, h3, h4⟩
      · exact Or.inl h1
      · exact Or.inr ⟨e, h1, by omega, h3, h4⟩
theorem q_eon_last (S : q_S) (p : Nat) : (q_eon S p = [] ∧ q_run S p (q_ne S) = (0, 0, false, 0)) ∨ ∃ e pre, q_eon S p = pre ++ [e] ∧ e < q_ne S ∧ q_epage S e = p ∧ q_run S p (q_ne S) = q_run S p (e + 1) := by
  rcases q_run_last S p (q_ne S) with ⟨h1, h2⟩ | ⟨e, h1, h2, h3, h4⟩
  · exact Or.inl ⟨List.getLast?_eq_none_iff.mp h1, h2⟩
  · obtain ⟨pre, hp⟩ := List.getLast?_eq_some_iff.mp h1
    exact Or.inr ⟨e, pre, hp, h2, h3, h4⟩
theorem q_slf_sl (S : q_S) (m : Nat) (hm : m < 2 ^ 31) : ∀ (r p n : Nat), n + r < 2 ^ 31 → n ≤ m → q_slf S (nI m) r p n = ((List.range' p r).filter (fun p => decide (q_kind S p = 2)))[m - n]?
  | 0, p, n, _, _ => by rw [q_slf]; rfl
  | r + 1, p, n, hr, hn => by
    rw [q_slf, List.range'_succ, List.filter_cons]
    by_cases h : q_kind S p = 2
    · rw [if_pos h, if_pos (decide_eq_true h)]
      by_cases h2 : n = m
      · subst h2
        rw [if_pos rfl, Nat.sub_self]
        rfl
      · rw [if_neg (fun q => h2 (q_inj q (by omega) hm)), q_slf_sl S m hm r (p + 1) (n + 1) (by omega) (by omega)]
        rw [show m - n = (m - (n + 1)) + 1 by omega, List.getElem?_cons_succ]
    · rw [if_neg h, if_neg (by simpa using h), q_slf_sl S m hm r (p + 1) n (by omega) hn]
theorem q_slide_sl {S : q_S} (hB : w_B S) {m : Nat} (hm : m < 2 ^ 31) : q_slide S (nI m) = (q_sl S)[m]? := by
  have := hB.1
  unfold q_slide q_sl
  rw [q_slf_sl S m hm _ _ _ (by omega) (Nat.zero_le _), List.range_eq_range', Nat.sub_zero]
theorem q_slf_neg (S : q_S) {k : Int32} (hk : k < 0) : ∀ (r p n : Nat), n + r < 2 ^ 31 → q_slf S k r p n = none
  | 0, p, n, _ => by rw [q_slf]
  | r + 1, p, n, hr => by
    rw [q_slf, q_slf_neg S hk r (p + 1) (n + 1) (by omega), q_slf_neg S hk r (p + 1) n (by omega)]
    split
    · rw [if_neg (fun q => by rw [← q] at hk; exact nI_pos (by omega) hk)]
    · rfl
theorem q_slide_neg {S : q_S} (hB : w_B S) {k : Int32} (hk : k < 0) : q_slide S k = none := by
  have := hB.1
  exact q_slf_neg S hk _ _ _ (by omega)
def q_mx (n x : Int32) : Int32 := if x ≤ n then n else x
theorem q_len_fold (S : q_S) (p : Nat) (b : Int32) (n : Nat) : q_len S p b n = ((List.range n).filter (fun e => decide (q_home S (S.1 5 e) = p))).foldl (fun a e => if nI (q_build S e) = b then q_mx a (q_end S e) else a) 0 := by
  have h := q_fold (fun e => q_len S p b e) (fun e => decide (q_home S (S.1 5 e) = p)) (fun e a => if nI (q_build S e) = b then q_mx a (q_end S e) else a) (fun e => by
    show q_len S p b (e + 1) = if decide (q_home S (S.1 5 e) = p) = true then (if nI (q_build S e) = b then q_mx (q_len S p b e) (q_end S e) else q_len S p b e) else q_len S p b e
    rw [q_len]
    by_cases h1 : q_home S (S.1 5 e) = p
    · rw [if_pos (decide_eq_true h1)]
      by_cases h2 : nI (q_build S e) = b
      · rw [if_pos h2]
        unfold q_mx
        by_cases h3 : q_len S p b e < q_end S e
        · rw [if_pos ⟨h1, h2, h3⟩, if_neg (q_lt_nle h3)]
        · rw [if_neg (fun q => h3 q.2.2), if_pos (q_nlt_le h3)]
      · rw [if_neg (fun q => h2 q.2.1), if_neg h2]
    · rw [if_neg (fun q => h1 q.1), if_neg (by simpa using h1)]) n
  exact h
def q_cp (S : q_S) (w : Int32) (e : Nat) : Int32 := if q_stage S e = 1 then q_part S w e else if q_stage S e = 2 then w else 0
theorem q_moved_fold (S : q_S) (j : Nat) (w : Int32) (n : Nat) : q_moved S j w n = ((List.range n).filter (fun e => decide (S.1 5 e = j))).foldl (fun a e => if S.2 7 e = w then a + q_cp S (S.2 11 e) e else a) 0 := by
  have h := q_fold (fun e => q_moved S j w e) (fun e => decide (S.1 5 e = j)) (fun e a => if S.2 7 e = w then a + q_cp S (S.2 11 e) e else a) (fun e => by
    show q_moved S j w (e + 1) = if decide (S.1 5 e = j) = true then (if S.2 7 e = w then q_moved S j w e + q_cp S (S.2 11 e) e else q_moved S j w e) else q_moved S j w e
    rw [q_moved]
    by_cases h1 : S.1 5 e = j
    · rw [if_pos (decide_eq_true h1)]
      by_cases h2 : S.2 7 e = w
      · rw [if_pos ⟨h1, h2⟩, if_pos h2]
        unfold q_cp
        rcases q_stage_cases S e with h3 | h3 | h3
        · rw [h3, if_neg (by decide), if_neg (by decide), if_neg (by decide), if_neg (by decide), Int32.add_zero]
        · rw [h3, if_neg (by decide), if_pos rfl, if_pos rfl]
        · rw [h3, if_pos rfl, if_neg (by decide), if_pos rfl]
      · rw [if_neg (fun q => h2 q.2), if_neg h2]
    · rw [if_neg (fun q => h1 q.1), if_neg (by simpa using h1)]) n
  exact h
/-- alpha: the stage's way -/
def q_ef (S : q_S) : List Nat → Bool
  | [] => false
  | e :: r => if S.2 7 e = 0 then true else if S.2 7 e = 1 then false else q_ef S r
def q_al (S : q_S) (v : Int32) (a : Int32) (e : Nat) : Int32 := if q_stage S e = 0 then a else if S.2 7 e = 0 then q_cp S v e else if S.2 7 e = 1 then v - q_cp S v e else a
def q_sh (S : q_S) (v : Int32) (a : Int32 × Bool) (e : Nat) : Int32 × Bool := if ¬ 1 < S.2 7 e then (if 0 < q_stage S e then (if S.2 7 e = 0 then q_come S v e else v - q_come S v e) else (if a.2 = true ∧ S.2 7 e = 0 then 0 else a.1), false) else a
theorem q_shown_fold (S : q_S) (j : Nat) (v : Int32) (n : Nat) : q_shown S j v n = ((List.range n).filter (fun e => decide (S.1 5 e = j))).foldl (q_sh S v) (v, true) := by
  have h := q_fold (fun e => q_shown S j v e) (fun e => decide (S.1 5 e = j)) (fun e a => q_sh S v a e) (fun e => by
    show q_shown S j v (e + 1) = if decide (S.1 5 e = j) = true then q_sh S v (q_shown S j v e) e else q_shown S j v e
    unfold q_sh
    by_cases h1 : S.1 5 e = j
    · rw [if_pos (decide_eq_true h1)]
      by_cases h2 : 1 < S.2 7 e
      · rw [q_shown_no (fun q => q.2 h2), if_neg (fun q => q h2)]
      · rw [q_shown_yes ⟨h1, h2⟩, if_pos h2]
    · rw [q_shown_no (fun q => h1 q.1), if_neg (by simpa using h1)]) n
  exact h
theorem q_come_cp {S : q_S} {v : Int32} {e : Nat} (h : ¬ q_stage S e = 0) : q_come S v e = q_cp S v e := by
  unfold q_come q_cp
  rcases q_stage_cases S e with h3 | h3 | h3
  · exact absurd h3 h
  · rw [h3, if_neg (by decide), if_pos rfl]
  · rw [h3, if_pos rfl, if_neg (by decide), if_pos rfl]
theorem q_deed1 {a : Int32} (h0 : ¬ a < 0) : (¬ 1 < a) ↔ (a = 0 ∨ a = 1) := by
  rw [Int32.lt_iff_toInt_lt] at h0 ⊢
  rw [← Int32.toInt_inj, ← Int32.toInt_inj]
  have e0 : (0 : Int32).toInt = 0 := by decide
  have e1 : (1 : Int32).toInt = 1 := by decide
  rw [e0] at h0
  rw [e0, e1]
  omega
theorem q_st0 (S : q_S) (e : Nat) : (0 < q_stage S e) ↔ ¬ q_stage S e = 0 := by
  rcases q_stage_cases S e with h3 | h3 | h3 <;> rw [h3] <;> decide
theorem q_sh_false (S : q_S) (v : Int32) : ∀ (xs : List Nat) (a : Int32), (∀ e ∈ xs, ¬ S.2 7 e < 0) → xs.foldl (q_sh S v) (a, false) = (xs.foldl (q_al S v) a, false)
  | [], a, _ => rfl
  | e :: r, a, h => by
    have he := h e List.mem_cons_self
    have hr : ∀ e ∈ r, ¬ S.2 7 e < 0 := fun e q => h e (List.mem_cons_of_mem _ q)
    rw [List.foldl_cons, List.foldl_cons]
    have hs : q_sh S v (a, false) e = (q_al S v a e, false) := by
      unfold q_sh q_al
      by_cases h1 : 1 < S.2 7 e
      · rw [if_neg (fun q => q h1)]
        have h2 : ¬ (S.2 7 e = 0 ∨ S.2 7 e = 1) := fun q => (q_deed1 he).mpr q h1
        rw [if_neg (fun q => h2 (Or.inl q)), if_neg (fun q => h2 (Or.inr q)), ite_self]
      · rw [if_pos h1]
        by_cases h3 : q_stage S e = 0
        · rw [if_pos h3, if_neg (fun q => (q_st0 S e).mp q h3)]
          simp
        · rw [if_neg h3, if_pos ((q_st0 S e).mpr h3), q_come_cp h3]
          rcases (q_deed1 he).mp h1 with h4 | h4
          · rw [if_pos h4, if_pos h4]
          · rw [if_neg (by rw [h4]; decide), if_neg (by rw [h4]; decide), if_pos h4]
    rw [hs, q_sh_false S v r _ hr]
theorem q_sh_true (S : q_S) (v : Int32) : ∀ (xs : List Nat), (∀ e ∈ xs, ¬ S.2 7 e < 0) → (xs.foldl (q_sh S v) (v, true)).1 = xs.foldl (q_al S v) (if q_ef S xs = true then 0 else v)
  | [], _ => rfl
  | e :: r, h => by
    have he := h e List.mem_cons_self
    have hr : ∀ e ∈ r, ¬ S.2 7 e < 0 := fun e q => h e (List.mem_cons_of_mem _ q)
    rw [List.foldl_cons, List.foldl_cons]
    by_cases h1 : 1 < S.2 7 e
    · have h2 : ¬ (S.2 7 e = 0 ∨ S.2 7 e = 1) := fun q => (q_deed1 he).mpr q h1
      have e1 : q_sh S v (v, true) e = (v, true) := by unfold q_sh; rw [if_neg (fun q => q h1)]
      have e2 : q_ef S (e :: r) = q_ef S r := by rw [q_ef, if_neg (fun q => h2 (Or.inl q)), if_neg (fun q => h2 (Or.inr q))]
      have e3 : ∀ a, q_al S v a e = a := fun a => by unfold q_al; rw [if_neg (fun q => h2 (Or.inl q)), if_neg (fun q => h2 (Or.inr q)), ite_self]
      rw [e1, e2, e3, q_sh_true S v r hr]
    · have e1 : q_sh S v (v, true) e = (q_al S v (if q_ef S (e :: r) = true then 0 else v) e, false) := by
        unfold q_sh q_al
        rw [if_pos h1, q_ef]
        rcases (q_deed1 he).mp h1 with h4 | h4
        · rw [if_pos h4]
          by_cases h3 : q_stage S e = 0
          · rw [if_pos h3, if_neg (fun q => (q_st0 S e).mp q h3), if_pos ⟨rfl, h4⟩, if_pos h4]
            rfl
          · rw [if_neg h3, if_pos ((q_st0 S e).mpr h3), q_come_cp h3, if_pos h4]
        · have h5 : ¬ S.2 7 e = 0 := by rw [h4]; decide
          rw [if_neg h5]
          by_cases h3 : q_stage S e = 0
          · rw [if_pos h3, if_neg (fun q => (q_st0 S e).mp q h3), if_neg (fun q => h5 q.2), if_neg h5, if_pos h4]
            rfl
          · rw [if_neg h3, if_pos ((q_st0 S e).mpr h3), q_come_cp h3, if_neg h5, if_pos h4]
      rw [e1, q_sh_false S v r _ hr]
theorem q_paint_fold (S : q_S) (p : Nat) (all x y c : Int32) (n : Nat) : q_paint S p all x y c n = ((List.range n).filter (fun k => decide (q_home S k = p))).foldl (fun a k => if (all = 0 → S.2 1 k < 0) ∧ ¬ q_cov S k x y = 0 then q_over S k a else a) c := by
  have h := q_fold (fun k => q_paint S p all x y c k) (fun k => decide (q_home S k = p)) (fun k a => if (all = 0 → S.2 1 k < 0) ∧ ¬ q_cov S k x y = 0 then q_over S k a else a) (fun k => by
    show q_paint S p all x y c (k + 1) = if decide (q_home S k = p) = true then (if (all = 0 → S.2 1 k < 0) ∧ ¬ q_cov S k x y = 0 then q_over S k (q_paint S p all x y c k) else q_paint S p all x y c k) else q_paint S p all x y c k
    rw [q_paint]
    by_cases h1 : q_home S k = p
    · rw [if_pos (decide_eq_true h1)]
      by_cases h2 : (all = 0 → S.2 1 k < 0) ∧ ¬ q_cov S k x y = 0
      · rw [if_pos ⟨h1, h2⟩, if_pos h2]
      · rw [if_neg (fun q => h2 q.2), if_neg h2]
    · rw [if_neg (fun q => h1 q.1), if_neg (by simpa using h1)]) n
  exact h
