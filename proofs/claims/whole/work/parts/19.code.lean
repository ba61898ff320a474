/-! the reference's code is no part of any other answer -/
section VCODE
variable (S : q_S) (c : Int32)
theorem v_2 {t : Nat} (h : ¬ t = 13) : (q_up2 S 13 1 c).2 t = S.2 t := if_neg h
theorem v_time : q_time (q_up2 S 13 1 c) = q_time S := rfl
theorem v_par (p : Nat) : q_par (q_up2 S 13 1 c) p = q_par S p := rfl
theorem v_slotted (p : Nat) (s : Int32) : q_slotted (q_up2 S 13 1 c) p s = q_slotted S p s := by
  unfold q_slotted
  rfl
theorem v_src (j pr : Nat) : ∀ (r : Nat) (po : Option Nat), q_src (q_up2 S 13 1 c) j pr r po = q_src S j pr r po
  | 0, _ => by rw [q_src, q_src]
  | r + 1, none => by rw [q_src, q_src]
  | r + 1, some p => by
    cases hs : q_slotted S p (S.2 1 j) with
    | none => rw [q_src_none (S := S) hs, q_src_none (S := q_up2 S 13 1 c) (by rw [v_slotted]; exact hs), v_src j pr r, v_par]
    | some s =>
      by_cases h0 : S.2 2 (7 * s + pr) = 0
      · rw [q_src_zero (S := S) hs h0, q_src_zero (S := q_up2 S 13 1 c) (by rw [v_slotted]; exact hs) h0, v_src j pr r, v_par]
      · rw [q_src_hit (S := S) hs h0, q_src_hit (S := q_up2 S 13 1 c) (by rw [v_slotted]; exact hs) h0]
theorem v_source (j pr : Nat) : q_source (q_up2 S 13 1 c) j pr = q_source S j pr := by
  unfold q_source
  rw [v_src, v_par]
  rfl
theorem v_value (j pr : Nat) : q_value (q_up2 S 13 1 c) j pr = q_value S j pr := by
  unfold q_value
  rw [v_source]
  rfl
theorem v_run (p : Nat) : ∀ n : Nat, q_run (q_up2 S 13 1 c) p n = q_run S p n
  | 0 => by rw [q_run, q_run]
  | n + 1 => by
    by_cases h : q_home S (S.1 5 n) = p
    · rw [q_run_eq (S := S) h, q_run_eq (S := q_up2 S 13 1 c) h, v_run p n]
      rfl
    · rw [q_run_ne (S := S) h, q_run_ne (S := q_up2 S 13 1 c) h, v_run p n]
theorem v_base (e : Nat) : q_base (q_up2 S 13 1 c) e = q_base S e := by
  unfold q_base
  rw [v_run]
  rfl
theorem v_start (e : Nat) : q_start (q_up2 S 13 1 c) e = q_start S e := by
  unfold q_start
  rw [v_base]
  rfl
theorem v_end (e : Nat) : q_end (q_up2 S 13 1 c) e = q_end S e := by
  unfold q_end
  rw [v_base]
  rfl
theorem v_build (e : Nat) : q_build (q_up2 S 13 1 c) e = q_build S e := by
  unfold q_build
  rw [v_run]
  rfl
theorem v_last (p : Nat) : q_last (q_up2 S 13 1 c) p = q_last S p := by
  unfold q_last
  rw [v_run]
  rfl
theorem v_slf (k : Int32) : ∀ r p n : Nat, q_slf (q_up2 S 13 1 c) k r p n = q_slf S k r p n
  | 0, _, _ => by rw [q_slf, q_slf]
  | r + 1, p, n => by
    rw [q_slf, q_slf, v_slf k r, v_slf k r]
    rfl
theorem v_slide (k : Int32) : q_slide (q_up2 S 13 1 c) k = q_slide S k := by
  unfold q_slide
  rw [v_slf]
  rfl
theorem v_len (p : Nat) (b : Int32) : ∀ e : Nat, q_len (q_up2 S 13 1 c) p b e = q_len S p b e
  | 0 => by rw [q_len, q_len]
  | e + 1 => by
    rw [q_len, q_len, v_len p b e, v_build, v_end]
    rfl
theorem v_stage (e : Nat) : q_stage (q_up2 S 13 1 c) e = q_stage S e := by
  unfold q_stage
  rw [v_build, v_end, v_start]
  rfl
theorem v_part (w : Int32) (e : Nat) : q_part (q_up2 S 13 1 c) w e = q_part S w e := by
  unfold q_part
  rw [v_start]
  rfl
theorem v_moved (j : Nat) (w : Int32) : ∀ e : Nat, q_moved (q_up2 S 13 1 c) j w e = q_moved S j w e
  | 0 => by rw [q_moved, q_moved]
  | e + 1 => by
    rw [q_moved, q_moved, v_moved j w e, v_stage, v_part]
    rfl
theorem v_come (w : Int32) (e : Nat) : q_come (q_up2 S 13 1 c) w e = q_come S w e := by
  unfold q_come
  rw [v_stage, v_part]
theorem v_shown (j : Nat) (v : Int32) : ∀ e : Nat, q_shown (q_up2 S 13 1 c) j v e = q_shown S j v e
  | 0 => by rw [q_shown, q_shown]
  | e + 1 => by
    rw [q_shown, q_shown, v_shown j v e, v_stage, v_come]
    rfl
theorem v_now (j pr : Nat) : q_now (q_up2 S 13 1 c) j pr = q_now S j pr := by
  unfold q_now
  rw [v_value, show q_ne (q_up2 S 13 1 c) = q_ne S from rfl, v_moved, v_moved, v_shown, show q_at (q_up2 S 13 1 c) = q_at S from rfl, v_slide]
  rfl
theorem v_cov (j : Nat) (x y : Int32) : q_cov (q_up2 S 13 1 c) j x y = q_cov S j x y := by
  unfold q_cov
  rw [v_now, v_now, v_value, v_value]
theorem v_over (j : Nat) (x : Int32) : q_over (q_up2 S 13 1 c) j x = q_over S j x := by
  unfold q_over
  rw [v_now, v_value]
theorem v_paint (p : Nat) (all x y c0 : Int32) : ∀ s : Nat, q_paint (q_up2 S 13 1 c) p all x y c0 s = q_paint S p all x y c0 s
  | 0 => by rw [q_paint, q_paint]
  | s + 1 => by
    rw [q_paint, q_paint, v_paint p all x y c0 s, v_cov, v_over]
    rfl
end VCODE
