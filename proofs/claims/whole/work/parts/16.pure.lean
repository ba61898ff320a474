/-! the one mathematical state, and what each question is worth there -/
abbrev q_S : Type := (Nat → Nat → Nat) × (Nat → Nat → Int32)
def q_updN (f : Nat → Nat) (i x : Nat) : Nat → Nat := fun j => if j = i then x else f j
def q_up1 (S : q_S) (t i x : Nat) : q_S := (fun u => if u = t then q_updN (S.1 u) i x else S.1 u, S.2)
def q_up2 (S : q_S) (t i : Nat) (x : Int32) : q_S := (S.1, fun u => if u = t then upd (S.2 u) i x else S.2 u)
abbrev q_np (S : q_S) : Nat := S.1 0 0
abbrev q_ns (S : q_S) : Nat := S.1 0 1
abbrev q_ne (S : q_S) : Nat := S.1 0 2
abbrev q_at (S : q_S) : Nat := S.1 0 3
abbrev q_clicks (S : q_S) : Nat := S.1 0 4
abbrev q_time (S : q_S) : Int32 := S.2 13 0
abbrev q_home (S : q_S) (j : Nat) : Nat := S.1 2 j
abbrev q_kind (S : q_S) (p : Nat) : Int32 := S.2 0 p
abbrev q_slot (S : q_S) (j : Nat) : Int32 := S.2 1 j
abbrev q_has (S : q_S) (j pr : Nat) : Int32 := S.2 2 (7 * j + pr)
abbrev q_own (S : q_S) (j pr : Nat) : Int32 := S.2 3 (7 * j + pr)
def q_par (S : q_S) (p : Nat) : Option Nat := if S.1 1 p = 0 then none else some (S.1 1 p - 1)
def q_find (f : Nat → Bool) : Nat → Nat → Option Nat
  | 0, _ => none
  | r + 1, k => if f k = true then some k else q_find f r (k + 1)
def q_slotted (S : q_S) (p : Nat) (s : Int32) : Option Nat := q_find (fun k => decide (q_home S k = p ∧ q_slot S k = s)) (q_ns S) 0
def q_src (S : q_S) (j pr : Nat) : Nat → Option Nat → Option Nat
  | 0, _ => none
  | _ + 1, none => none
  | r + 1, some p => match q_slotted S p (q_slot S j) with
    | none => q_src S j pr r (q_par S p)
    | some s => if q_has S s pr = 0 then q_src S j pr r (q_par S p) else some s
def q_source (S : q_S) (j pr : Nat) : Option Nat := if q_has S j pr = 0 then (if q_slot S j < 0 then none else q_src S j pr 12 (q_par S (q_home S j))) else some j
def q_value (S : q_S) (j pr : Nat) : Int32 := match q_source S j pr with
  | none => S.2 4 pr
  | some s => q_own S s pr
def q_on (S : q_S) (p : Nat) : List Nat := (List.range (q_ns S)).filter (fun k => decide (q_home S k = p))
def q_eon (S : q_S) (p : Nat) : List Nat := (List.range (q_ne S)).filter (fun e => decide (q_home S (S.1 5 e) = p))
def q_eof (S : q_S) (j : Nat) : List Nat := (List.range (q_ne S)).filter (fun e => decide (S.1 5 e = j))
def q_sl (S : q_S) : List Nat := (List.range (q_np S)).filter (fun p => decide (q_kind S p = 2))
/-- base, end, whether there is one, builds: behind the effects before n on the page p -/
def q_run (S : q_S) (p : Nat) : Nat → Int32 × Int32 × Bool × Nat
  | 0 => (0, 0, false, 0)
  | n + 1 =>
    let r := q_run S p n
    if q_home S (S.1 5 n) = p then
      let b := if S.2 8 n = 0 ∨ r.2.2.1 = false then 0 else if S.2 8 n = 1 then r.1 else r.2.1
      (b, b + S.2 9 n + S.2 10 n, true, if S.2 8 n = 0 then r.2.2.2 + 1 else r.2.2.2)
    else r
def q_epage (S : q_S) (e : Nat) : Nat := q_home S (S.1 5 e)
def q_base (S : q_S) (e : Nat) : Int32 := (q_run S (q_epage S e) (e + 1)).1
def q_start (S : q_S) (e : Nat) : Int32 := q_base S e + S.2 9 e
def q_end (S : q_S) (e : Nat) : Int32 := q_base S e + S.2 9 e + S.2 10 e
def q_build (S : q_S) (e : Nat) : Nat := (q_run S (q_epage S e) (e + 1)).2.2.2
theorem q_find_filter (f g : Nat → Bool) : ∀ (r k : Nat), q_find (fun j => g j && f j) r k = ((List.range' k r).filter g).find? f
  | 0, k => rfl
  | r + 1, k => by
    rw [q_find, List.range'_succ, List.filter_cons, q_find_filter f g r (k + 1)]
    by_cases h1 : g k = true
    · by_cases h2 : f k = true
      · simp [h1, h2]
      · simp [h1, h2]
    · simp [h1]
theorem q_find_no {f : Nat → Bool} {r k : Nat} {res : Option Nat} (h : q_find f (r + 1) k = res) (hf : ¬ f k = true) : q_find f r (k + 1) = res := by
  rw [q_find, if_neg hf] at h
  exact h
theorem q_find_yes {f : Nat → Bool} {r k : Nat} {res : Option Nat} (h : q_find f (r + 1) k = res) (hf : f k = true) : res = some k := by
  rw [q_find, if_pos hf] at h
  exact h.symm
def q_oi (r : Option Nat) : Int32 := match r with
  | none => -1
  | some k => nI k
theorem q_inc (k : Nat) : nI k + Int32.ofInt 1 = nI (k + 1) := nI_1 k
theorem q_run_ne {S : q_S} {p n : Nat} (h : ¬ q_home S (S.1 5 n) = p) : q_run S p (n + 1) = q_run S p n := by
  rw [q_run]
  exact if_neg h
theorem q_run_eq {S : q_S} {p n : Nat} (h : q_home S (S.1 5 n) = p) : q_run S p (n + 1) =
    ((if S.2 8 n = 0 ∨ (q_run S p n).2.2.1 = false then 0 else if S.2 8 n = 1 then (q_run S p n).1 else (q_run S p n).2.1),
     (if S.2 8 n = 0 ∨ (q_run S p n).2.2.1 = false then 0 else if S.2 8 n = 1 then (q_run S p n).1 else (q_run S p n).2.1) + S.2 9 n + S.2 10 n, true, if S.2 8 n = 0 then (q_run S p n).2.2.2 + 1 else (q_run S p n).2.2.2) := by
  rw [q_run]
  exact if_pos h
/-- the k-th slide from the page p on, n of them seen -/
def q_slf (S : q_S) (k : Int32) : Nat → Nat → Nat → Option Nat
  | 0, _, _ => none
  | r + 1, p, n => if q_kind S p = 2 then (if nI n = k then some p else q_slf S k r (p + 1) (n + 1)) else q_slf S k r (p + 1) n
def q_slide (S : q_S) (k : Int32) : Option Nat := q_slf S k (q_np S) 0 0
def q_len (S : q_S) (p : Nat) (b : Int32) : Nat → Int32
  | 0 => 0
  | e + 1 => if q_epage S e = p ∧ nI (q_build S e) = b ∧ q_len S p b e < q_end S e then q_end S e else q_len S p b e
def q_stage (S : q_S) (e : Nat) : Int32 :=
  if nI (q_build S e) < nI (q_clicks S) then 2 else if nI (q_build S e) = nI (q_clicks S) ∧ ¬ q_time S < q_end S e then 2
  else if nI (q_build S e) = nI (q_clicks S) ∧ ¬ q_time S < q_start S e then 1 else 0
def q_part (S : q_S) (w : Int32) (e : Nat) : Int32 := w * (q_time S - q_start S e) / S.2 10 e
def q_last (S : q_S) (p : Nat) : Nat := (q_run S p (q_ne S)).2.2.2
theorem q_7 (j pr : Nat) : (7 : Int32) * nI j + nI pr = nI (7 * j + pr) := by
  rw [show (7 : Int32) = nI 7 from rfl, ← nI_add]
  congr 1
  exact (Int32.ofNat_mul 7 j).symm
theorem q_4 (j pr : Nat) : (4 : Int32) * nI j + nI pr = nI (4 * j + pr) := by
  rw [show (4 : Int32) = nI 4 from rfl, ← nI_add]
  congr 1
  exact (Int32.ofNat_mul 4 j).symm
theorem g_ix.eq {i : Int32} {k n : Nat} (e : i = nI k) (h : k < n) (hn : n < 2 ^ 31) : g_ix i k n := by
  subst e
  exact g_ix.nat h hn
/-- a local that isn't wanted any more -/
theorem g_drop {E : g_E} {X : g_X} {P : g_P} {h : g_H} {z : Bool} {cs ss pc : Nat} {L L' : List (Option Value)} {st : List Value} (i : Nat) (hL' : L.set i none = L') (k : g_Go E X P h z cs ss pc L' st) : g_Go E X P h z cs ss pc L st := by
  subst hL'
  intro H locs ls hV hB hlo hL hz
  refine k H locs ls hV hB hlo ⟨hL.1, hL.2.1, fun j v hj => hL.2.2 j v ?_⟩ hz
  by_cases hij : i = j
  · subst hij
    by_cases hlt : i < L.length
    · rw [List.getElem?_set_self hlt] at hj
      cases hj
    · rw [List.getElem?_eq_none (by simpa using Nat.not_lt.mp hlt)] at hj
      cases hj
  · rw [List.getElem?_set_ne hij] at hj
    exact hj
theorem q_inj {a b : Nat} (h : nI a = nI b) (ha : a < 2 ^ 31) (hb : b < 2 ^ 31) : a = b := (nI_eq ha hb).mp h
theorem q_find_lt {f : Nat → Bool} : ∀ {r k x : Nat}, q_find f r k = some x → k ≤ x ∧ x < k + r ∧ f x = true
  | 0, k, x, h => by cases h
  | r + 1, k, x, h => by
    rw [q_find] at h
    by_cases hf : f k = true
    · rw [if_pos hf] at h
      cases h
      exact ⟨Nat.le_refl _, by omega, hf⟩
    · rw [if_neg hf] at h
      obtain ⟨h1, h2, h3⟩ := q_find_lt h
      exact ⟨by omega, by omega, h3⟩
theorem q_slotted_lt {S : q_S} {p s : Nat} {t : Int32} (h : q_slotted S p t = some s) : s < q_ns S := by
  obtain ⟨-, h2, -⟩ := q_find_lt h
  omega
theorem q_par_oi (S : q_S) (p : Nat) : nI (S.1 1 p) - 1 = q_oi (q_par S p) := by
  unfold q_par
  by_cases h : S.1 1 p = 0
  · rw [if_pos h, h]
    decide
  · rw [if_neg h]
    obtain ⟨n, hn⟩ : ∃ n, S.1 1 p = n + 1 := ⟨S.1 1 p - 1, by omega⟩
    rw [hn]
    exact nI_pred n
theorem q_par_lt {S : q_S} {p q : Nat} (hb : S.1 1 p ≤ p) (h : q_par S p = some q) : q < p := by
  unfold q_par at h
  split at h
  · cases h
  · cases h
    omega
theorem q_src_none {S : q_S} {j pr r p : Nat} (hs : q_slotted S p (S.2 1 j) = none) : q_src S j pr (r + 1) (some p) = q_src S j pr r (q_par S p) := by
  rw [q_src, show q_slotted S p (q_slot S j) = none from hs]
theorem q_src_zero {S : q_S} {j pr r p s : Nat} (hs : q_slotted S p (S.2 1 j) = some s) (h0 : S.2 2 (7 * s + pr) = 0) : q_src S j pr (r + 1) (some p) = q_src S j pr r (q_par S p) := by
  rw [q_src, show q_slotted S p (q_slot S j) = some s from hs]
  exact if_pos h0
theorem q_src_hit {S : q_S} {j pr r p s : Nat} (hs : q_slotted S p (S.2 1 j) = some s) (h0 : ¬ S.2 2 (7 * s + pr) = 0) : q_src S j pr (r + 1) (some p) = some s := by
  rw [q_src, show q_slotted S p (q_slot S j) = some s from hs]
  exact if_neg h0
theorem q_src_lt {S : q_S} {j pr : Nat} : ∀ {r : Nat} {po : Option Nat} {s : Nat}, q_src S j pr r po = some s → s < q_ns S
  | 0, _, s, h => by cases h
  | r + 1, none, s, h => by cases h
  | r + 1, some p, s, h => by
    cases hs : q_slotted S p (S.2 1 j) with
    | none => rw [q_src_none hs] at h; exact q_src_lt h
    | some t =>
      by_cases h0 : S.2 2 (7 * t + pr) = 0
      · rw [q_src_zero hs h0] at h; exact q_src_lt h
      · rw [q_src_hit hs h0] at h
        cases h
        exact q_slotted_lt hs
theorem q_source_lt {S : q_S} {j pr s : Nat} (hj : j < q_ns S) (h : q_source S j pr = some s) : s < q_ns S := by
  unfold q_source at h
  split at h
  · split at h
    · cases h
    · exact q_src_lt h
  · cases h
    exact hj
def q_moved (S : q_S) (j : Nat) (w : Int32) : Nat → Int32
  | 0 => 0
  | e + 1 => if S.1 5 e = j ∧ S.2 7 e = w then (if q_stage S e = 2 then q_moved S j w e + S.2 11 e else if q_stage S e = 1 then q_moved S j w e + q_part S (S.2 11 e) e else q_moved S j w e) else q_moved S j w e
def q_come (S : q_S) (whole : Int32) (e : Nat) : Int32 := if q_stage S e = 2 then whole else q_part S whole e
def q_shown (S : q_S) (j : Nat) (whole : Int32) : Nat → Int32 × Bool
  | 0 => (whole, true)
  | e + 1 => if S.1 5 e = j ∧ ¬ 1 < S.2 7 e then
      (if 0 < q_stage S e then (if S.2 7 e = 0 then q_come S whole e else whole - q_come S whole e) else (if (q_shown S j whole e).2 = true ∧ S.2 7 e = 0 then 0 else (q_shown S j whole e).1), false)
    else q_shown S j whole e
def q_now (S : q_S) (j pr : Nat) : Int32 :=
  if nI (q_home S j) = q_oi (q_slide S (nI (q_at S))) then
    (if nI pr = 0 then q_value S j pr + q_moved S j 2 (q_ne S) else if nI pr = 1 then q_value S j pr + q_moved S j 3 (q_ne S) else if nI pr = 5 then (q_shown S j (q_value S j pr) (q_ne S)).1 else q_value S j pr)
  else q_value S j pr
def q_cov (S : q_S) (j : Nat) (x y : Int32) : Int32 :=
  if x < q_now S j 0 then 0 else if q_now S j 0 + q_value S j 2 ≤ x then 0 else if y < q_now S j 1 then 0 else if q_now S j 1 + q_value S j 3 ≤ y then 0 else 1
def q_mix (c d a : Int32) : Int32 := (c * a + d * (255 - a) + 127) / 255
def q_mixk (c d a k : Int32) : Int32 := q_mix (c >>> (k &&& 31) &&& 255) (d >>> (k &&& 31) &&& 255) a <<< (k &&& 31)
def q_over (S : q_S) (j : Nat) (c : Int32) : Int32 := ((0 ||| q_mixk (q_value S j 4) c (q_now S j 5) 0) ||| q_mixk (q_value S j 4) c (q_now S j 5) 8) ||| q_mixk (q_value S j 4) c (q_now S j 5) 16
def q_paint (S : q_S) (p : Nat) (all x y : Int32) (c : Int32) : Nat → Int32
  | 0 => c
  | s + 1 => if q_home S s = p ∧ (all = 0 → q_slot S s < 0) ∧ ¬ q_cov S s x y = 0 then q_over S s (q_paint S p all x y c s) else q_paint S p all x y c s
theorem q_stage1 {S : q_S} {e : Nat} (h : q_stage S e = 1) : ¬ S.2 10 e = 0 := by
  intro h0
  unfold q_stage at h
  have he : q_end S e = q_start S e := by
    unfold q_end q_start
    rw [h0, Int32.add_zero]
  rw [he] at h
  split at h
  · exact absurd h (by decide)
  · split at h
    · exact absurd h (by decide)
    · exact absurd h (by decide)
theorem q_stage_cases (S : q_S) (e : Nat) : q_stage S e = 0 ∨ q_stage S e = 1 ∨ q_stage S e = 2 := by
  unfold q_stage
  repeat' split
  all_goals simp
theorem q_shown_no {S : q_S} {j e : Nat} {v : Int32} (h : ¬ (S.1 5 e = j ∧ ¬ 1 < S.2 7 e)) : q_shown S j v (e + 1) = q_shown S j v e := by
  rw [q_shown]
  exact if_neg h
theorem q_shown_yes {S : q_S} {j e : Nat} {v : Int32} (h : S.1 5 e = j ∧ ¬ 1 < S.2 7 e) : q_shown S j v (e + 1) =
    (if 0 < q_stage S e then (if S.2 7 e = 0 then q_come S v e else v - q_come S v e) else (if (q_shown S j v e).2 = true ∧ S.2 7 e = 0 then 0 else (q_shown S j v e).1), false) := by
  rw [q_shown]
  exact if_pos h
