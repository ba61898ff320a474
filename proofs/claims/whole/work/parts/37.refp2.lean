def q_lo (p : Nat) : Int32 := ([-40, -40, 0, 0, 0, 0, 1] : List Int32).getD p 0
def q_hi (p : Nat) : Int32 := ([40, 40, 40, 40, 16777215, 255, 4] : List Int32).getD p 0
def r_lim (p : Nat) (v : Int32) : Int32 := if v < q_lo p then 1 else if v ≤ q_hi p then 0 else 1
theorem r_noPage_ok {S : q_S} {j : Nat} (hB : w_B S) (hj : j < q_np S) : r_noPage S (nI j) = 0 := by
  have := hB.1
  unfold r_noPage
  rw [if_neg (nI_pos (by omega)), if_pos (nI_lt hj (by omega))]
theorem r_noPage_0 {S : q_S} {p : Int32} (hB : w_B S) (h : r_noPage S p = 0) : ∃ j, j < q_np S ∧ p = nI j := by
  have := hB.1
  unfold r_noPage at h
  split at h
  · exact absurd h (by decide)
  · rename_i h0
    split at h
    · rename_i h1
      obtain ⟨j, hj, rfl⟩ := nI_of h0
      exact ⟨j, (nI_ltI hj (by omega)).mp h1, rfl⟩
    · exact absurd h (by decide)
theorem q_lt0 {a : Int32} (h : a < 0) : ¬ 0 ≤ a := fun q => by
  rw [Int32.le_iff_toInt_le] at q
  rw [Int32.lt_iff_toInt_lt] at h
  omega
theorem q_nlt0 {a : Int32} (h : ¬ a < 0) : 0 ≤ a := by
  rw [Int32.le_iff_toInt_le]
  rw [Int32.lt_iff_toInt_lt] at h
  omega
theorem q_lt_nle {a b : Int32} (h : a < b) : ¬ b ≤ a := fun q => by
  rw [Int32.le_iff_toInt_le] at q
  rw [Int32.lt_iff_toInt_lt] at h
  omega
theorem q_oin {r : Option Nat} (h : r = none) : ¬ 0 ≤ q_oi r := by subst h; decide
theorem q_oin' {r : Option Nat} (h : r = none) : q_oi r < 0 := by subst h; decide
theorem q_ois {r : Option Nat} {k : Nat} (h : r = some k) (hk : k < 2 ^ 31) : 0 ≤ q_oi r := by subst h; exact nI_pos' hk
theorem q_ois' {r : Option Nat} {k : Nat} (h : r = some k) (hk : k < 2 ^ 31) : ¬ q_oi r < 0 := by subst h; exact nI_pos hk
theorem q_slf_lt {S : q_S} {k : Int32} : ∀ {r p n x : Nat}, q_slf S k r p n = some x → p ≤ x ∧ x < p + r
  | 0, p, n, x, h => by cases h
  | r + 1, p, n, x, h => by
    rw [q_slf] at h
    split at h
    · split at h
      · cases h
        omega
      · have := q_slf_lt h
        omega
    · have := q_slf_lt h
      omega
theorem q_slide_b {S : q_S} {k : Int32} {x : Nat} (hB : w_B S) (h : q_slide S k = some x) : x < 2 ^ 31 := by
  have := q_slf_lt h
  have := hB.1
  omega
theorem q_slide_lt {S : q_S} {k : Int32} {x : Nat} (h : q_slide S k = some x) : x < q_np S := by
  have := q_slf_lt h
  omega
set_option maxRecDepth 100000 in
set_option maxHeartbeats 4000000 in
theorem c_M_bad_0 {l : Launch} (hl : l.stackTraces = false) (E : g_E) (h : g_H) (v : Int32)  : g_Rd l mM_bad 0 0 [.int 0, .int v] E h (some (.int (r_lim 0 v))) := by
  refine g_Rd.of hl (by decide) (rfl) (Nat.le_of_ble_eq_true rfl) ?_
  intro X hX hXl hR
  show g_Go E X _ h true 0 0 0 [some (.int 0), some (.int v)] []
  refine g_iload_n hX dM_bad_0 rfl rfl 1 rfl ?_
  refine g_tableIn hX (off := 43) 44 dM_bad_1 (by decide) (by decide) (by decide) (by decide) ?_
  refine g_iload_n hX dM_bad_44 rfl rfl 45 rfl ?_
  refine g_bipush hX dM_bad_45 (v := (-40)) (by decide) 47 rfl ?_
  refine g_icmp_lt hX dM_bad_47 56 50 (by decide) rfl (fun c47 => ?_) (fun c47 => ?_)
  · refine g_iconst hX dM_bad_56 (v := 1) (by decide) 57 rfl ?_
    refine g_goto hX dM_bad_57 61 (by decide) ?_
    exact g_iret hX rfl rfl dM_bad_61 ⟨by show _ = Sum.inr (some (Value.int (r_lim 0 v))); unfold r_lim; first | rw [if_pos (show v < q_lo 0 by assumption)] | rw [if_neg (show ¬ v < q_lo 0 by assumption), if_pos (show v ≤ q_hi 0 by assumption)] | rw [if_neg (show ¬ v < q_lo 0 by assumption), if_neg (show ¬ v ≤ q_hi 0 by assumption)], rfl⟩ rfl (Nat.zero_le _) (Nat.zero_le _)
  · refine g_iload_n hX dM_bad_50 rfl rfl 51 rfl ?_
    refine g_bipush hX dM_bad_51 (v := 40) (by decide) 53 rfl ?_
    refine g_icmp_le hX dM_bad_53 60 56 (by decide) rfl (fun c53 => ?_) (fun c53 => ?_)
    · refine g_iconst hX dM_bad_60 (v := 0) (by decide) 61 rfl ?_
      exact g_iret hX rfl rfl dM_bad_61 ⟨by show _ = Sum.inr (some (Value.int (r_lim 0 v))); unfold r_lim; first | rw [if_pos (show v < q_lo 0 by assumption)] | rw [if_neg (show ¬ v < q_lo 0 by assumption), if_pos (show v ≤ q_hi 0 by assumption)] | rw [if_neg (show ¬ v < q_lo 0 by assumption), if_neg (show ¬ v ≤ q_hi 0 by assumption)], rfl⟩ rfl (Nat.zero_le _) (Nat.zero_le _)
    · refine g_iconst hX dM_bad_56 (v := 1) (by decide) 57 rfl ?_
      refine g_goto hX dM_bad_57 61 (by decide) ?_
      exact g_iret hX rfl rfl dM_bad_61 ⟨by show _ = Sum.inr (some (Value.int (r_lim 0 v))); unfold r_lim; first | rw [if_pos (show v < q_lo 0 by assumption)] | rw [if_neg (show ¬ v < q_lo 0 by assumption), if_pos (show v ≤ q_hi 0 by assumption)] | rw [if_neg (show ¬ v < q_lo 0 by assumption), if_neg (show ¬ v ≤ q_hi 0 by assumption)], rfl⟩ rfl (Nat.zero_le _) (Nat.zero_le _)
set_option maxRecDepth 100000 in
set_option maxHeartbeats 4000000 in
theorem c_M_bad_1 {l : Launch} (hl : l.stackTraces = false) (E : g_E) (h : g_H) (v : Int32)  : g_Rd l mM_bad 0 0 [.int 1, .int v] E h (some (.int (r_lim 1 v))) := by
  refine g_Rd.of hl (by decide) (rfl) (Nat.le_of_ble_eq_true rfl) ?_
  intro X hX hXl hR
  show g_Go E X _ h true 0 0 0 [some (.int 1), some (.int v)] []
  refine g_iload_n hX dM_bad_0 rfl rfl 1 rfl ?_
  refine g_tableIn hX (off := 43) 44 dM_bad_1 (by decide) (by decide) (by decide) (by decide) ?_
  refine g_iload_n hX dM_bad_44 rfl rfl 45 rfl ?_
  refine g_bipush hX dM_bad_45 (v := (-40)) (by decide) 47 rfl ?_
  refine g_icmp_lt hX dM_bad_47 56 50 (by decide) rfl (fun c47 => ?_) (fun c47 => ?_)
  · refine g_iconst hX dM_bad_56 (v := 1) (by decide) 57 rfl ?_
    refine g_goto hX dM_bad_57 61 (by decide) ?_
    exact g_iret hX rfl rfl dM_bad_61 ⟨by show _ = Sum.inr (some (Value.int (r_lim 1 v))); unfold r_lim; first | rw [if_pos (show v < q_lo 1 by assumption)] | rw [if_neg (show ¬ v < q_lo 1 by assumption), if_pos (show v ≤ q_hi 1 by assumption)] | rw [if_neg (show ¬ v < q_lo 1 by assumption), if_neg (show ¬ v ≤ q_hi 1 by assumption)], rfl⟩ rfl (Nat.zero_le _) (Nat.zero_le _)
  · refine g_iload_n hX dM_bad_50 rfl rfl 51 rfl ?_
    refine g_bipush hX dM_bad_51 (v := 40) (by decide) 53 rfl ?_
    refine g_icmp_le hX dM_bad_53 60 56 (by decide) rfl (fun c53 => ?_) (fun c53 => ?_)
    · refine g_iconst hX dM_bad_60 (v := 0) (by decide) 61 rfl ?_
      exact g_iret hX rfl rfl dM_bad_61 ⟨by show _ = Sum.inr (some (Value.int (r_lim 1 v))); unfold r_lim; first | rw [if_pos (show v < q_lo 1 by assumption)] | rw [if_neg (show ¬ v < q_lo 1 by assumption), if_pos (show v ≤ q_hi 1 by assumption)] | rw [if_neg (show ¬ v < q_lo 1 by assumption), if_neg (show ¬ v ≤ q_hi 1 by assumption)], rfl⟩ rfl (Nat.zero_le _) (Nat.zero_le _)
    · refine g_iconst hX dM_bad_56 (v := 1) (by decide) 57 rfl ?_
      refine g_goto hX dM_bad_57 61 (by decide) ?_
      exact g_iret hX rfl rfl dM_bad_61 ⟨by show _ = Sum.inr (some (Value.int (r_lim 1 v))); unfold r_lim; first | rw [if_pos (show v < q_lo 1 by assumption)] | rw [if_neg (show ¬ v < q_lo 1 by assumption), if_pos (show v ≤ q_hi 1 by assumption)] | rw [if_neg (show ¬ v < q_lo 1 by assumption), if_neg (show ¬ v ≤ q_hi 1 by assumption)], rfl⟩ rfl (Nat.zero_le _) (Nat.zero_le _)
set_option maxRecDepth 100000 in
set_option maxHeartbeats 4000000 in
theorem c_M_bad_2 {l : Launch} (hl : l.stackTraces = false) (E : g_E) (h : g_H) (v : Int32)  : g_Rd l mM_bad 0 0 [.int 2, .int v] E h (some (.int (r_lim 2 v))) := by
  refine g_Rd.of hl (by decide) (rfl) (Nat.le_of_ble_eq_true rfl) ?_
  intro X hX hXl hR
  show g_Go E X _ h true 0 0 0 [some (.int 2), some (.int v)] []
  refine g_iload_n hX dM_bad_0 rfl rfl 1 rfl ?_
  refine g_tableIn hX (off := 61) 62 dM_bad_1 (by decide) (by decide) (by decide) (by decide) ?_
  refine g_iload_n hX dM_bad_62 rfl rfl 63 rfl ?_
  refine g_if_lt hX dM_bad_63 72 66 (by decide) rfl (fun c63 => ?_) (fun c63 => ?_)
  · refine g_iconst hX dM_bad_72 (v := 1) (by decide) 73 rfl ?_
    refine g_goto hX dM_bad_73 77 (by decide) ?_
    exact g_iret hX rfl rfl dM_bad_77 ⟨by show _ = Sum.inr (some (Value.int (r_lim 2 v))); unfold r_lim; first | rw [if_pos (show v < q_lo 2 by assumption)] | rw [if_neg (show ¬ v < q_lo 2 by assumption), if_pos (show v ≤ q_hi 2 by assumption)] | rw [if_neg (show ¬ v < q_lo 2 by assumption), if_neg (show ¬ v ≤ q_hi 2 by assumption)], rfl⟩ rfl (Nat.zero_le _) (Nat.zero_le _)
  · refine g_iload_n hX dM_bad_66 rfl rfl 67 rfl ?_
    refine g_bipush hX dM_bad_67 (v := 40) (by decide) 69 rfl ?_
    refine g_icmp_le hX dM_bad_69 76 72 (by decide) rfl (fun c69 => ?_) (fun c69 => ?_)
    · refine g_iconst hX dM_bad_76 (v := 0) (by decide) 77 rfl ?_
      exact g_iret hX rfl rfl dM_bad_77 ⟨by show _ = Sum.inr (some (Value.int (r_lim 2 v))); unfold r_lim; first | rw [if_pos (show v < q_lo 2 by assumption)] | rw [if_neg (show ¬ v < q_lo 2 by assumption), if_pos (show v ≤ q_hi 2 by assumption)] | rw [if_neg (show ¬ v < q_lo 2 by assumption), if_neg (show ¬ v ≤ q_hi 2 by assumption)], rfl⟩ rfl (Nat.zero_le _) (Nat.zero_le _)
    · refine g_iconst hX dM_bad_72 (v := 1) (by decide) 73 rfl ?_
      refine g_goto hX dM_bad_73 77 (by decide) ?_
      exact g_iret hX rfl rfl dM_bad_77 ⟨by show _ = Sum.inr (some (Value.int (r_lim 2 v))); unfold r_lim; first | rw [if_pos (show v < q_lo 2 by assumption)] | rw [if_neg (show ¬ v < q_lo 2 by assumption), if_pos (show v ≤ q_hi 2 by assumption)] | rw [if_neg (show ¬ v < q_lo 2 by assumption), if_neg (show ¬ v ≤ q_hi 2 by assumption)], rfl⟩ rfl (Nat.zero_le _) (Nat.zero_le _)
set_option maxRecDepth 100000 in
set_option maxHeartbeats 4000000 in
theorem c_M_bad_3 {l : Launch} (hl : l.stackTraces = false) (E : g_E) (h : g_H) (v : Int32)  : g_Rd l mM_bad 0 0 [.int 3, .int v] E h (some (.int (r_lim 3 v))) := by
  refine g_Rd.of hl (by decide) (rfl) (Nat.le_of_ble_eq_true rfl) ?_
  intro X hX hXl hR
  show g_Go E X _ h true 0 0 0 [some (.int 3), some (.int v)] []
  refine g_iload_n hX dM_bad_0 rfl rfl 1 rfl ?_
  refine g_tableIn hX (off := 61) 62 dM_bad_1 (by decide) (by decide) (by decide) (by decide) ?_
  refine g_iload_n hX dM_bad_62 rfl rfl 63 rfl ?_
  refine g_if_lt hX dM_bad_63 72 66 (by decide) rfl (fun c63 => ?_) (fun c63 => ?_)
  · refine g_iconst hX dM_bad_72 (v := 1) (by decide) 73 rfl ?_
    refine g_goto hX dM_bad_73 77 (by decide) ?_
    exact g_iret hX rfl rfl dM_bad_77 ⟨by show _ = Sum.inr (some (Value.int (r_lim 3 v))); unfold r_lim; first | rw [if_pos (show v < q_lo 3 by assumption)] | rw [if_neg (show ¬ v < q_lo 3 by assumption), if_pos (show v ≤ q_hi 3 by assumption)] | rw [if_neg (show ¬ v < q_lo 3 by assumption), if_neg (show ¬ v ≤ q_hi 3 by assumption)], rfl⟩ rfl (Nat.zero_le _) (Nat.zero_le _)
  · refine g_iload_n hX dM_bad_66 rfl rfl 67 rfl ?_
    refine g_bipush hX dM_bad_67 (v := 40) (by decide) 69 rfl ?_
    refine g_icmp_le hX dM_bad_69 76 72 (by decide) rfl (fun c69 => ?_) (fun c69 => ?_)
    · refine g_iconst hX dM_bad_76 (v := 0) (by decide) 77 rfl ?_
      exact g_iret hX rfl rfl dM_bad_77 ⟨by show _ = Sum.inr (some (Value.int (r_lim 3 v))); unfold r_lim; first | rw [if_pos (show v < q_lo 3 by assumption)] | rw [if_neg (show ¬ v < q_lo 3 by assumption), if_pos (show v ≤ q_hi 3 by assumption)] | rw [if_neg (show ¬ v < q_lo 3 by assumption), if_neg (show ¬ v ≤ q_hi 3 by assumption)], rfl⟩ rfl (Nat.zero_le _) (Nat.zero_le _)
    · refine g_iconst hX dM_bad_72 (v := 1) (by decide) 73 rfl ?_
      refine g_goto hX dM_bad_73 77 (by decide) ?_
      exact g_iret hX rfl rfl dM_bad_77 ⟨by show _ = Sum.inr (some (Value.int (r_lim 3 v))); unfold r_lim; first | rw [if_pos (show v < q_lo 3 by assumption)] | rw [if_neg (show ¬ v < q_lo 3 by assumption), if_pos (show v ≤ q_hi 3 by assumption)] | rw [if_neg (show ¬ v < q_lo 3 by assumption), if_neg (show ¬ v ≤ q_hi 3 by assumption)], rfl⟩ rfl (Nat.zero_le _) (Nat.zero_le _)
set_option maxRecDepth 100000 in
set_option maxHeartbeats 4000000 in
theorem c_M_bad_4 {l : Launch} (hl : l.stackTraces = false) (E : g_E) (h : g_H) (v : Int32)  : g_Rd l mM_bad 0 0 [.int 4, .int v] E h (some (.int (r_lim 4 v))) := by
  refine g_Rd.of hl (by decide) (rfl) (Nat.le_of_ble_eq_true rfl) ?_
  intro X hX hXl hR
  show g_Go E X _ h true 0 0 0 [some (.int 4), some (.int v)] []
  refine g_iload_n hX dM_bad_0 rfl rfl 1 rfl ?_
  refine g_tableIn hX (off := 77) 78 dM_bad_1 (by decide) (by decide) (by decide) (by decide) ?_
  refine g_iload_n hX dM_bad_78 rfl rfl 79 rfl ?_
  refine g_if_lt hX dM_bad_79 88 82 (by decide) rfl (fun c79 => ?_) (fun c79 => ?_)
  · refine g_iconst hX dM_bad_88 (v := 1) (by decide) 89 rfl ?_
    refine g_goto hX dM_bad_89 93 (by decide) ?_
    exact g_iret hX rfl rfl dM_bad_93 ⟨by show _ = Sum.inr (some (Value.int (r_lim 4 v))); unfold r_lim; first | rw [if_pos (show v < q_lo 4 by assumption)] | rw [if_neg (show ¬ v < q_lo 4 by assumption), if_pos (show v ≤ q_hi 4 by assumption)] | rw [if_neg (show ¬ v < q_lo 4 by assumption), if_neg (show ¬ v ≤ q_hi 4 by assumption)], rfl⟩ rfl (Nat.zero_le _) (Nat.zero_le _)
  · refine g_iload_n hX dM_bad_82 rfl rfl 83 rfl ?_
    refine g_ldc hX dM_bad_83 lM_93 85 rfl ?_
    refine g_icmp_le hX dM_bad_85 92 88 (by decide) rfl (fun c85 => ?_) (fun c85 => ?_)
    · refine g_iconst hX dM_bad_92 (v := 0) (by decide) 93 rfl ?_
      exact g_iret hX rfl rfl dM_bad_93 ⟨by show _ = Sum.inr (some (Value.int (r_lim 4 v))); unfold r_lim; first | rw [if_pos (show v < q_lo 4 by assumption)] | rw [if_neg (show ¬ v < q_lo 4 by assumption), if_pos (show v ≤ q_hi 4 by assumption)] | rw [if_neg (show ¬ v < q_lo 4 by assumption), if_neg (show ¬ v ≤ q_hi 4 by assumption)], rfl⟩ rfl (Nat.zero_le _) (Nat.zero_le _)
    · refine g_iconst hX dM_bad_88 (v := 1) (by decide) 89 rfl ?_
      refine g_goto hX dM_bad_89 93 (by decide) ?_
      exact g_iret hX rfl rfl dM_bad_93 ⟨by show _ = Sum.inr (some (Value.int (r_lim 4 v))); unfold r_lim; first | rw [if_pos (show v < q_lo 4 by assumption)] | rw [if_neg (show ¬ v < q_lo 4 by assumption), if_pos (show v ≤ q_hi 4 by assumption)] | rw [if_neg (show ¬ v < q_lo 4 by assumption), if_neg (show ¬ v ≤ q_hi 4 by assumption)], rfl⟩ rfl (Nat.zero_le _) (Nat.zero_le _)
set_option maxRecDepth 100000 in
set_option maxHeartbeats 4000000 in
theorem c_M_bad_5 {l : Launch} (hl : l.stackTraces = false) (E : g_E) (h : g_H) (v : Int32)  : g_Rd l mM_bad 0 0 [.int 5, .int v] E h (some (.int (r_lim 5 v))) := by
  refine g_Rd.of hl (by decide) (rfl) (Nat.le_of_ble_eq_true rfl) ?_
  intro X hX hXl hR
  show g_Go E X _ h true 0 0 0 [some (.int 5), some (.int v)] []
  refine g_iload_n hX dM_bad_0 rfl rfl 1 rfl ?_
  refine g_tableIn hX (off := 93) 94 dM_bad_1 (by decide) (by decide) (by decide) (by decide) ?_
  refine g_iload_n hX dM_bad_94 rfl rfl 95 rfl ?_
  refine g_if_lt hX dM_bad_95 105 98 (by decide) rfl (fun c95 => ?_) (fun c95 => ?_)
  · refine g_iconst hX dM_bad_105 (v := 1) (by decide) 106 rfl ?_
    refine g_goto hX dM_bad_106 110 (by decide) ?_
    exact g_iret hX rfl rfl dM_bad_110 ⟨by show _ = Sum.inr (some (Value.int (r_lim 5 v))); unfold r_lim; first | rw [if_pos (show v < q_lo 5 by assumption)] | rw [if_neg (show ¬ v < q_lo 5 by assumption), if_pos (show v ≤ q_hi 5 by assumption)] | rw [if_neg (show ¬ v < q_lo 5 by assumption), if_neg (show ¬ v ≤ q_hi 5 by assumption)], rfl⟩ rfl (Nat.zero_le _) (Nat.zero_le _)
  · refine g_iload_n hX dM_bad_98 rfl rfl 99 rfl ?_
    refine g_sipush hX dM_bad_99 (v := 255) (by decide) 102 rfl ?_
    refine g_icmp_le hX dM_bad_102 109 105 (by decide) rfl (fun c102 => ?_) (fun c102 => ?_)
    · refine g_iconst hX dM_bad_109 (v := 0) (by decide) 110 rfl ?_
      exact g_iret hX rfl rfl dM_bad_110 ⟨by show _ = Sum.inr (some (Value.int (r_lim 5 v))); unfold r_lim; first | rw [if_pos (show v < q_lo 5 by assumption)] | rw [if_neg (show ¬ v < q_lo 5 by assumption), if_pos (show v ≤ q_hi 5 by assumption)] | rw [if_neg (show ¬ v < q_lo 5 by assumption), if_neg (show ¬ v ≤ q_hi 5 by assumption)], rfl⟩ rfl (Nat.zero_le _) (Nat.zero_le _)
    · refine g_iconst hX dM_bad_105 (v := 1) (by decide) 106 rfl ?_
      refine g_goto hX dM_bad_106 110 (by decide) ?_
      exact g_iret hX rfl rfl dM_bad_110 ⟨by show _ = Sum.inr (some (Value.int (r_lim 5 v))); unfold r_lim; first | rw [if_pos (show v < q_lo 5 by assumption)] | rw [if_neg (show ¬ v < q_lo 5 by assumption), if_pos (show v ≤ q_hi 5 by assumption)] | rw [if_neg (show ¬ v < q_lo 5 by assumption), if_neg (show ¬ v ≤ q_hi 5 by assumption)], rfl⟩ rfl (Nat.zero_le _) (Nat.zero_le _)
set_option maxRecDepth 100000 in
set_option maxHeartbeats 4000000 in
theorem c_M_bad_6 {l : Launch} (hl : l.stackTraces = false) (E : g_E) (h : g_H) (v : Int32)  : g_Rd l mM_bad 0 0 [.int 6, .int v] E h (some (.int (r_lim 6 v))) := by
  refine g_Rd.of hl (by decide) (rfl) (Nat.le_of_ble_eq_true rfl) ?_
  intro X hX hXl hR
  show g_Go E X _ h true 0 0 0 [some (.int 6), some (.int v)] []
  refine g_iload_n hX dM_bad_0 rfl rfl 1 rfl ?_
  refine g_tableIn hX (off := 110) 111 dM_bad_1 (by decide) (by decide) (by decide) (by decide) ?_
  refine g_iload_n hX dM_bad_111 rfl rfl 112 rfl ?_
  refine g_iconst hX dM_bad_112 (v := 1) (by decide) 113 rfl ?_
  refine g_icmp_lt hX dM_bad_113 121 116 (by decide) rfl (fun c113 => ?_) (fun c113 => ?_)
  · refine g_iconst hX dM_bad_121 (v := 1) (by decide) 122 rfl ?_
    refine g_goto hX dM_bad_122 126 (by decide) ?_
    exact g_iret hX rfl rfl dM_bad_126 ⟨by show _ = Sum.inr (some (Value.int (r_lim 6 v))); unfold r_lim; first | rw [if_pos (show v < q_lo 6 by assumption)] | rw [if_neg (show ¬ v < q_lo 6 by assumption), if_pos (show v ≤ q_hi 6 by assumption)] | rw [if_neg (show ¬ v < q_lo 6 by assumption), if_neg (show ¬ v ≤ q_hi 6 by assumption)], rfl⟩ rfl (Nat.zero_le _) (Nat.zero_le _)
  · refine g_iload_n hX dM_bad_116 rfl rfl 117 rfl ?_
    refine g_iconst hX dM_bad_117 (v := 4) (by decide) 118 rfl ?_
    refine g_icmp_le hX dM_bad_118 125 121 (by decide) rfl (fun c118 => ?_) (fun c118 => ?_)
    · refine g_iconst hX dM_bad_125 (v := 0) (by decide) 126 rfl ?_
      exact g_iret hX rfl rfl dM_bad_126 ⟨by show _ = Sum.inr (some (Value.int (r_lim 6 v))); unfold r_lim; first | rw [if_pos (show v < q_lo 6 by assumption)] | rw [if_neg (show ¬ v < q_lo 6 by assumption), if_pos (show v ≤ q_hi 6 by assumption)] | rw [if_neg (show ¬ v < q_lo 6 by assumption), if_neg (show ¬ v ≤ q_hi 6 by assumption)], rfl⟩ rfl (Nat.zero_le _) (Nat.zero_le _)
    · refine g_iconst hX dM_bad_121 (v := 1) (by decide) 122 rfl ?_
      refine g_goto hX dM_bad_122 126 (by decide) ?_
      exact g_iret hX rfl rfl dM_bad_126 ⟨by show _ = Sum.inr (some (Value.int (r_lim 6 v))); unfold r_lim; first | rw [if_pos (show v < q_lo 6 by assumption)] | rw [if_neg (show ¬ v < q_lo 6 by assumption), if_pos (show v ≤ q_hi 6 by assumption)] | rw [if_neg (show ¬ v < q_lo 6 by assumption), if_neg (show ¬ v ≤ q_hi 6 by assumption)], rfl⟩ rfl (Nat.zero_le _) (Nat.zero_le _)
set_option maxRecDepth 100000 in
set_option maxHeartbeats 4000000 in
theorem c_M_bad_out {l : Launch} (hl : l.stackTraces = false) (E : g_E) (h : g_H) (p v : Int32) (hp : p.toInt < 0 ∨ 6 < p.toInt) : g_Rd l mM_bad 0 0 [.int p, .int v] E h (some (.int 1)) := by
  refine g_Rd.of hl (by decide) (rfl) (Nat.le_of_ble_eq_true rfl) ?_
  intro X hX hXl hR
  show g_Go E X _ h true 0 0 0 [some (.int p), some (.int v)] []
  refine g_iload_n hX dM_bad_0 rfl rfl 1 rfl ?_
  refine g_tableOut hX 127 dM_bad_1 hp (by decide) ?_
  refine g_iconst hX dM_bad_127 (v := 1) (by decide) 128 rfl ?_
  exact g_iret hX rfl rfl dM_bad_128 ⟨by rfl, rfl⟩ rfl (Nat.zero_le _) (Nat.zero_le _)
theorem c_M_bad {l : Launch} (hl : l.stackTraces = false) (E : g_E) (h : g_H) {p : Nat} (hp : p < 7) (v : Int32) : g_Rd l mM_bad 0 0 [.int (nI p), .int v] E h (some (.int (r_lim p v))) := by
  have h3 : p = 0 ∨ p = 1 ∨ p = 2 ∨ p = 3 ∨ p = 4 ∨ p = 5 ∨ p = 6 := by omega
  rcases h3 with rfl | rfl | rfl | rfl | rfl | rfl | rfl
  · exact c_M_bad_0 hl E h v
  · exact c_M_bad_1 hl E h v
  · exact c_M_bad_2 hl E h v
  · exact c_M_bad_3 hl E h v
  · exact c_M_bad_4 hl E h v
  · exact c_M_bad_5 hl E h v
  · exact c_M_bad_6 hl E h v
set_option maxRecDepth 100000 in
set_option maxHeartbeats 4000000 in
theorem c_M_theme_1 {l : Launch} (hl : l.stackTraces = false) {E : g_E} {A : w_A} {Sc S : q_S} {h : g_H} (hW : w_W E A Sc S h) (hB : w_B S) {p v : Int32} (hb : g_Rd l mM_bad 0 0 [.int p, .int v] E h (some (.int 1))) : g_Ct l mM_theme 1 14 0 0 [.ref (A 30 0), .int p, .int v] E h (false, fun r h' => r = .inr none ∧ w_W E A Sc (q_up2 S 13 1 1) h') := by
  refine g_Ct.of hl (by decide) rfl (Nat.le_of_ble_eq_true rfl) ?_
  intro X hX hXl hR
  obtain ⟨hnp, hns, hne, hpar, hhome, hact⟩ := id hB
  show g_Go E X _ h true 0 0 0 [some (.ref (A 30 0)), some (.int p), some (.int v)] []
  refine g_aload_n hX dM_theme_0 rfl rfl (by first | rfl | exact g_rfr _) 1 rfl ?_
  refine g_iload_n hX dM_theme_1 rfl rfl 2 rfl ?_
  refine g_iload_n hX dM_theme_2 rfl rfl 3 rfl ?_
  refine g_cS2r (wt := 1) hX (hXl.symm ▸ hb) dM_theme_3 kM_94 (g_rm.of hR (by decide) (by decide)) (by first | exact Nat.zero_le _ | (rw [hR]; decide)) (by first | exact Nat.zero_le _ | (rw [hR]; decide)) (by first | decide | (simp [Value.category])) 6 rfl ?_
  refine g_if_eq hX dM_theme_6 13 9 (by decide) rfl (fun c6 => ?_) (fun c6 => ?_)
  · exact absurd c6 (by decide)
  · refine g_iconst hX dM_theme_9 (v := 1) (by decide) 10 rfl ?_
    refine g_goto hX dM_theme_10 14 (by decide) ?_
    refine g_put0 hX dM_theme_14 fM_75 (w_m hW.r) (w_baseM hW 30 (by decide) (by decide)) rfl rfl (Nat.le_of_ble_eq_true rfl) 17 rfl ?_
    refine g_stepM hW 30 (q_up2 S 13 1 _) (by decide) (by decide) w_hc13 rfl (fun h hW => ?_)
    refine g_aload_n hX dM_theme_17 rfl rfl (by first | rfl | exact g_rfr _) 18 rfl ?_
    refine g_get hX dM_theme_18 fM_75 (w_m hW.r) rfl 21 rfl ?_
    refine g_if_ne hX dM_theme_21 31 24 (by decide) rfl (fun c21 => ?_) (fun c21 => ?_)
    · exact g_vret hX rfl dM_theme_31 ⟨rfl, hW⟩ rfl (Nat.zero_le _) (Nat.zero_le _)
    · exact absurd c21 (show ¬ (1 : Int32) = 0 by decide)
set_option maxRecDepth 100000 in
set_option maxHeartbeats 4000000 in
theorem c_M_theme_0 {l : Launch} (hl : l.stackTraces = false) {E : g_E} {A : w_A} {Sc S : q_S} {h : g_H} (hW : w_W E A Sc S h) (hB : w_B S) {p : Nat} (hp : p < 7) {v : Int32} (hb : g_Rd l mM_bad 0 0 [.int (nI p), .int v] E h (some (.int 0))) : g_Ct l mM_theme 1 14 0 0 [.ref (A 30 0), .int (nI p), .int v] E h (false, fun r h' => r = .inr none ∧ w_W E A Sc (q_up2 (q_up2 S 13 1 0) 4 p v) h') := by
  refine g_Ct.of hl (by decide) rfl (Nat.le_of_ble_eq_true rfl) ?_
  intro X hX hXl hR
  obtain ⟨hnp, hns, hne, hpar, hhome, hact⟩ := id hB
  show g_Go E X _ h true 0 0 0 [some (.ref (A 30 0)), some (.int (nI p)), some (.int v)] []
  refine g_aload_n hX dM_theme_0 rfl rfl (by first | rfl | exact g_rfr _) 1 rfl ?_
  refine g_iload_n hX dM_theme_1 rfl rfl 2 rfl ?_
  refine g_iload_n hX dM_theme_2 rfl rfl 3 rfl ?_
  refine g_cS2r (wt := 1) hX (hXl.symm ▸ hb) dM_theme_3 kM_94 (g_rm.of hR (by decide) (by decide)) (by first | exact Nat.zero_le _ | (rw [hR]; decide)) (by first | exact Nat.zero_le _ | (rw [hR]; decide)) (by first | decide | (simp [Value.category])) 6 rfl ?_
  refine g_if_eq hX dM_theme_6 13 9 (by decide) rfl (fun c6 => ?_) (fun c6 => ?_)
  · refine g_iconst hX dM_theme_13 (v := 0) (by decide) 14 rfl ?_
    refine g_put0 hX dM_theme_14 fM_75 (w_m hW.r) (w_baseM hW 30 (by decide) (by decide)) rfl rfl (Nat.le_of_ble_eq_true rfl) 17 rfl ?_
    refine g_stepM hW 30 (q_up2 S 13 1 _) (by decide) (by decide) w_hc13 rfl (fun h hW => ?_)
    refine g_aload_n hX dM_theme_17 rfl rfl (by first | rfl | exact g_rfr _) 18 rfl ?_
    refine g_get hX dM_theme_18 fM_75 (w_m hW.r) rfl 21 rfl ?_
    refine g_if_ne hX dM_theme_21 31 24 (by decide) rfl (fun c21 => ?_) (fun c21 => ?_)
    · exact absurd rfl c21
    · refine g_aload_n hX dM_theme_24 rfl rfl (by first | rfl | exact g_rfr _) 25 rfl ?_
      refine g_get hX dM_theme_25 fM_30 (w_m hW.r) rfl 28 rfl ?_
      refine g_iload_n hX dM_theme_28 rfl rfl 29 rfl ?_
      refine g_iload_n hX dM_theme_29 rfl rfl 30 rfl ?_
      refine g_iast hX dM_theme_30 (w_ar hW.r 37 (by decide)) (w_baseM hW 37 (by decide) (by decide)) (g_ix.nat hp (by decide)) 31 rfl ?_
      refine g_stepM hW 37 (q_up2 (q_up2 S 13 1 0) 4 p v) (by decide) (by decide) w_hv4 rfl (fun h hW => ?_)
      exact g_vret hX rfl dM_theme_31 ⟨rfl, hW⟩ rfl (Nat.zero_le _) (Nat.zero_le _)
  · exact absurd rfl c6
set_option maxRecDepth 100000 in
set_option maxHeartbeats 4000000 in
theorem c_M_set_1 {l : Launch} (hl : l.stackTraces = false) {E : g_E} {A : w_A} {Sc S : q_S} {h : g_H} (hW : w_W E A Sc S h) (hB : w_B S) {s : Int32} (p v : Int32) (hs : r_noShape S s = 1) : g_Ct l mM_set 1 14 0 0 [.ref (A 30 0), .int s, .int p, .int v] E h (false, fun r h' => r = .inr none ∧ w_W E A Sc (q_up2 S 13 1 1) h') := by
  refine g_Ct.of hl (by decide) rfl (Nat.le_of_ble_eq_true rfl) ?_
  intro X hX hXl hR
  obtain ⟨hnp, hns, hne, hpar, hhome, hact⟩ := id hB
  show g_Go E X _ h true 0 0 0 [some (.ref (A 30 0)), some (.int s), some (.int p), some (.int v)] []
  refine g_aload_n hX dM_set_0 rfl rfl (by first | rfl | exact g_rfr _) 1 rfl ?_
  refine g_aload_n hX dM_set_1 rfl rfl (by first | rfl | exact g_rfr _) 2 rfl ?_
  refine g_iload_n hX dM_set_2 rfl rfl 3 rfl ?_
  refine g_cV1r (wt := 1) hX (c_M_noShape hX.tr hW.r hB _) dM_set_3 (w_m hW.r) kM_98 (g_rm.of hR (by decide) (by decide)) (by first | exact Nat.zero_le _ | (rw [hR]; decide)) (by first | exact Nat.zero_le _ | (rw [hR]; decide)) (by first | decide | (simp [Value.category])) 6 rfl ?_
  refine g_if_eq hX dM_set_6 13 9 (by decide) rfl (fun c6 => ?_) (fun c6 => ?_)
  · exact absurd (c6.symm.trans hs) (by decide)
  · refine g_iconst hX dM_set_9 (v := 1) (by decide) 10 rfl ?_
    refine g_goto hX dM_set_10 26 (by decide) ?_
    refine g_put0 hX dM_set_26 fM_75 (w_m hW.r) (w_baseM hW 30 (by decide) (by decide)) rfl rfl (Nat.le_of_ble_eq_true rfl) 29 rfl ?_
    refine g_stepM hW 30 (q_up2 S 13 1 _) (by decide) (by decide) w_hc13 rfl (fun h hW => ?_)
    refine g_aload_n hX dM_set_29 rfl rfl (by first | rfl | exact g_rfr _) 30 rfl ?_
    refine g_get hX dM_set_30 fM_75 (w_m hW.r) rfl 33 rfl ?_
    refine g_if_ne hX dM_set_33 60 36 (by decide) rfl (fun c33 => ?_) (fun c33 => ?_)
    · exact g_vret hX rfl dM_set_60 ⟨rfl, hW⟩ rfl (Nat.zero_le _) (Nat.zero_le _)
    · exact absurd c33 (show ¬ (1 : Int32) = 0 by decide)
set_option maxRecDepth 100000 in
set_option maxHeartbeats 4000000 in
theorem c_M_set_2 {l : Launch} (hl : l.stackTraces = false) {E : g_E} {A : w_A} {Sc S : q_S} {h : g_H} (hW : w_W E A Sc S h) (hB : w_B S) {j : Nat} (hj : j < q_ns S) {p v : Int32} (hb : g_Rd l mM_bad 0 0 [.int p, .int v] E h (some (.int 1))) : g_Ct l mM_set 1 14 0 0 [.ref (A 30 0), .int (nI j), .int p, .int v] E h (false, fun r h' => r = .inr none ∧ w_W E A Sc (q_up2 S 13 1 2) h') := by
  refine g_Ct.of hl (by decide) rfl (Nat.le_of_ble_eq_true rfl) ?_
  intro X hX hXl hR
  obtain ⟨hnp, hns, hne, hpar, hhome, hact⟩ := id hB
  show g_Go E X _ h true 0 0 0 [some (.ref (A 30 0)), some (.int (nI j)), some (.int p), some (.int v)] []
  refine g_aload_n hX dM_set_0 rfl rfl (by first | rfl | exact g_rfr _) 1 rfl ?_
  refine g_aload_n hX dM_set_1 rfl rfl (by first | rfl | exact g_rfr _) 2 rfl ?_
  refine g_iload_n hX dM_set_2 rfl rfl 3 rfl ?_
  refine g_cV1r (wt := 1) hX (c_M_noShape hX.tr hW.r hB _) dM_set_3 (w_m hW.r) kM_98 (g_rm.of hR (by decide) (by decide)) (by first | exact Nat.zero_le _ | (rw [hR]; decide)) (by first | exact Nat.zero_le _ | (rw [hR]; decide)) (by first | decide | (simp [Value.category])) 6 rfl ?_
  refine g_if_eq hX dM_set_6 13 9 (by decide) rfl (fun c6 => ?_) (fun c6 => ?_)
  · refine g_iload_n hX dM_set_13 rfl rfl 14 rfl ?_
    refine g_iload_n hX dM_set_14 rfl rfl 15 rfl ?_
    refine g_cS2r (wt := 1) hX (hXl.symm ▸ hb) dM_set_15 kM_94 (g_rm.of hR (by decide) (by decide)) (by first | exact Nat.zero_le _ | (rw [hR]; decide)) (by first | exact Nat.zero_le _ | (rw [hR]; decide)) (by first | decide | (simp [Value.category])) 18 rfl ?_
    refine g_if_eq hX dM_set_18 25 21 (by decide) rfl (fun c18 => ?_) (fun c18 => ?_)
    · exact absurd c18 (by decide)
    · refine g_iconst hX dM_set_21 (v := 2) (by decide) 22 rfl ?_
      refine g_goto hX dM_set_22 26 (by decide) ?_
      refine g_put0 hX dM_set_26 fM_75 (w_m hW.r) (w_baseM hW 30 (by decide) (by decide)) rfl rfl (Nat.le_of_ble_eq_true rfl) 29 rfl ?_
      refine g_stepM hW 30 (q_up2 S 13 1 _) (by decide) (by decide) w_hc13 rfl (fun h hW => ?_)
      refine g_aload_n hX dM_set_29 rfl rfl (by first | rfl | exact g_rfr _) 30 rfl ?_
      refine g_get hX dM_set_30 fM_75 (w_m hW.r) rfl 33 rfl ?_
      refine g_if_ne hX dM_set_33 60 36 (by decide) rfl (fun c33 => ?_) (fun c33 => ?_)
      · exact g_vret hX rfl dM_set_60 ⟨rfl, hW⟩ rfl (Nat.zero_le _) (Nat.zero_le _)
      · exact absurd c33 (show ¬ (2 : Int32) = 0 by decide)
  · exact absurd (r_noShape_ok hB hj) c6
set_option maxRecDepth 100000 in
set_option maxHeartbeats 4000000 in
theorem c_M_set_0 {l : Launch} (hl : l.stackTraces = false) {E : g_E} {A : w_A} {Sc S : q_S} {h : g_H} (hW : w_W E A Sc S h) (hB : w_B S) {j : Nat} (hj : j < q_ns S) {p : Nat} (hp : p < 7) {v : Int32} (hb : g_Rd l mM_bad 0 0 [.int (nI p), .int v] E h (some (.int 0))) : g_Ct l mM_set 1 14 0 0 [.ref (A 30 0), .int (nI j), .int (nI p), .int v] E h (false, fun r h' => r = .inr none ∧ w_W E A Sc (q_up2 (q_up2 (q_up2 S 13 1 0) 2 (7 * j + p) 1) 3 (7 * j + p) v) h') := by
  refine g_Ct.of hl (by decide) rfl (Nat.le_of_ble_eq_true rfl) ?_
  intro X hX hXl hR
  obtain ⟨hnp, hns, hne, hpar, hhome, hact⟩ := id hB
  show g_Go E X _ h true 0 0 0 [some (.ref (A 30 0)), some (.int (nI j)), some (.int (nI p)), some (.int v)] []
  refine g_aload_n hX dM_set_0 rfl rfl (by first | rfl | exact g_rfr _) 1 rfl ?_
  refine g_aload_n hX dM_set_1 rfl rfl (by first | rfl | exact g_rfr _) 2 rfl ?_
  refine g_iload_n hX dM_set_2 rfl rfl 3 rfl ?_
  refine g_cV1r (wt := 1) hX (c_M_noShape hX.tr hW.r hB _) dM_set_3 (w_m hW.r) kM_98 (g_rm.of hR (by decide) (by decide)) (by first | exact Nat.zero_le _ | (rw [hR]; decide)) (by first | exact Nat.zero_le _ | (rw [hR]; decide)) (by first | decide | (simp [Value.category])) 6 rfl ?_
  refine g_if_eq hX dM_set_6 13 9 (by decide) rfl (fun c6 => ?_) (fun c6 => ?_)
  · refine g_iload_n hX dM_set_13 rfl rfl 14 rfl ?_
    refine g_iload_n hX dM_set_14 rfl rfl 15 rfl ?_
    refine g_cS2r (wt := 1) hX (hXl.symm ▸ hb) dM_set_15 kM_94 (g_rm.of hR (by decide) (by decide)) (by first | exact Nat.zero_le _ | (rw [hR]; decide)) (by first | exact Nat.zero_le _ | (rw [hR]; decide)) (by first | decide | (simp [Value.category])) 18 rfl ?_
    refine g_if_eq hX dM_set_18 25 21 (by decide) rfl (fun c18 => ?_) (fun c18 => ?_)
    · refine g_iconst hX dM_set_25 (v := 0) (by decide) 26 rfl ?_
      refine g_put0 hX dM_set_26 fM_75 (w_m hW.r) (w_baseM hW 30 (by decide) (by decide)) rfl rfl (Nat.le_of_ble_eq_true rfl) 29 rfl ?_
      refine g_stepM hW 30 (q_up2 S 13 1 _) (by decide) (by decide) w_hc13 rfl (fun h hW => ?_)
      refine g_aload_n hX dM_set_29 rfl rfl (by first | rfl | exact g_rfr _) 30 rfl ?_
      refine g_get hX dM_set_30 fM_75 (w_m hW.r) rfl 33 rfl ?_
      refine g_if_ne hX dM_set_33 60 36 (by decide) rfl (fun c33 => ?_) (fun c33 => ?_)
      · exact absurd rfl c33
      · refine g_aload_n hX dM_set_36 rfl rfl (by first | rfl | exact g_rfr _) 37 rfl ?_
        refine g_get hX dM_set_37 fM_22 (w_m hW.r) rfl 40 rfl ?_
        refine g_bipush hX dM_set_40 (v := 7) (by decide) 42 rfl ?_
        refine g_iload_n hX dM_set_42 rfl rfl 43 rfl ?_
        refine g_imul hX dM_set_43 44 rfl ?_
        refine g_iload_n hX dM_set_44 rfl rfl 45 rfl ?_
        refine g_iadd hX dM_set_45 46 rfl ?_
        refine g_iconst hX dM_set_46 (v := 1) (by decide) 47 rfl ?_
        refine g_zast hX dM_set_47 (w_ar hW.r 35 (by decide)) (w_baseM hW 35 (by decide) (by decide)) (g_ix.eq (q_7 j p) (by omega) (by decide)) rfl 48 rfl ?_
        refine g_stepM hW 35 (q_up2 (q_up2 S 13 1 0) 2 (7 * j + p) 1) (by decide) (by decide) w_hv2 rfl (fun h hW => ?_)
        refine g_aload_n hX dM_set_48 rfl rfl (by first | rfl | exact g_rfr _) 49 rfl ?_
        refine g_get hX dM_set_49 fM_26 (w_m hW.r) rfl 52 rfl ?_
        refine g_bipush hX dM_set_52 (v := 7) (by decide) 54 rfl ?_
        refine g_iload_n hX dM_set_54 rfl rfl 55 rfl ?_
        refine g_imul hX dM_set_55 56 rfl ?_
        refine g_iload_n hX dM_set_56 rfl rfl 57 rfl ?_
        refine g_iadd hX dM_set_57 58 rfl ?_
        refine g_iload_n hX dM_set_58 rfl rfl 59 rfl ?_
        refine g_iast hX dM_set_59 (w_ar hW.r 36 (by decide)) (w_baseM hW 36 (by decide) (by decide)) (g_ix.eq (q_7 j p) (by omega) (by decide)) 60 rfl ?_
        refine g_stepM hW 36 (q_up2 (q_up2 (q_up2 S 13 1 0) 2 (7 * j + p) 1) 3 (7 * j + p) v) (by decide) (by decide) w_hv3 rfl (fun h hW => ?_)
        exact g_vret hX rfl dM_set_60 ⟨rfl, hW⟩ rfl (Nat.zero_le _) (Nat.zero_le _)
    · exact absurd rfl c18
  · exact absurd (r_noShape_ok hB hj) c6
set_option maxRecDepth 100000 in
set_option maxHeartbeats 4000000 in
theorem c_M_unset_1 {l : Launch} (hl : l.stackTraces = false) {E : g_E} {A : w_A} {Sc S : q_S} {h : g_H} (hW : w_W E A Sc S h) (hB : w_B S) {s : Int32} (p : Int32) (hs : r_noShape S s = 1) : g_Ct l mM_unset 1 14 0 0 [.ref (A 30 0), .int s, .int p] E h (false, fun r h' => r = .inr (some (.int 0)) ∧ w_W E A Sc (q_up2 S 13 1 1) h') := by
  refine g_Ct.of hl (by decide) rfl (Nat.le_of_ble_eq_true rfl) ?_
  intro X hX hXl hR
  obtain ⟨hnp, hns, hne, hpar, hhome, hact⟩ := id hB
  show g_Go E X _ h true 0 0 0 [some (.ref (A 30 0)), some (.int s), some (.int p), none] []
  refine g_aload_n hX dM_unset_0 rfl rfl (by first | rfl | exact g_rfr _) 1 rfl ?_
  refine g_aload_n hX dM_unset_1 rfl rfl (by first | rfl | exact g_rfr _) 2 rfl ?_
  refine g_iload_n hX dM_unset_2 rfl rfl 3 rfl ?_
  refine g_cV1r (wt := 1) hX (c_M_noShape hX.tr hW.r hB _) dM_unset_3 (w_m hW.r) kM_98 (g_rm.of hR (by decide) (by decide)) (by first | exact Nat.zero_le _ | (rw [hR]; decide)) (by first | exact Nat.zero_le _ | (rw [hR]; decide)) (by first | decide | (simp [Value.category])) 6 rfl ?_
  refine g_if_eq hX dM_unset_6 13 9 (by decide) rfl (fun c6 => ?_) (fun c6 => ?_)
  · exact absurd (c6.symm.trans hs) (by decide)
  · refine g_iconst hX dM_unset_9 (v := 1) (by decide) 10 rfl ?_
    refine g_goto hX dM_unset_10 25 (by decide) ?_
    refine g_put0 hX dM_unset_25 fM_75 (w_m hW.r) (w_baseM hW 30 (by decide) (by decide)) rfl rfl (Nat.le_of_ble_eq_true rfl) 28 rfl ?_
    refine g_stepM hW 30 (q_up2 S 13 1 _) (by decide) (by decide) w_hc13 rfl (fun h hW => ?_)
    refine g_aload_n hX dM_unset_28 rfl rfl (by first | rfl | exact g_rfr _) 29 rfl ?_
    refine g_get hX dM_unset_29 fM_75 (w_m hW.r) rfl 32 rfl ?_
    refine g_if_le hX dM_unset_32 37 35 (by decide) rfl (fun c32 => ?_) (fun c32 => ?_)
    · exact absurd c32 (show ¬ (1 : Int32) ≤ 0 by decide)
    · refine g_iconst hX dM_unset_35 (v := 0) (by decide) 36 rfl ?_
      exact g_iret hX rfl rfl dM_unset_36 ⟨rfl, hW⟩ rfl (Nat.zero_le _) (Nat.zero_le _)
set_option maxRecDepth 100000 in
set_option maxHeartbeats 4000000 in
theorem c_M_unset_2 {l : Launch} (hl : l.stackTraces = false) {E : g_E} {A : w_A} {Sc S : q_S} {h : g_H} (hW : w_W E A Sc S h) (hB : w_B S) {j : Nat} (hj : j < q_ns S) {p : Int32} (hp : r_noProperty p = 1) : g_Ct l mM_unset 1 14 0 0 [.ref (A 30 0), .int (nI j), .int p] E h (false, fun r h' => r = .inr (some (.int 0)) ∧ w_W E A Sc (q_up2 S 13 1 2) h') := by
  refine g_Ct.of hl (by decide) rfl (Nat.le_of_ble_eq_true rfl) ?_
  intro X hX hXl hR
  obtain ⟨hnp, hns, hne, hpar, hhome, hact⟩ := id hB
  show g_Go E X _ h true 0 0 0 [some (.ref (A 30 0)), some (.int (nI j)), some (.int p), none] []
  refine g_aload_n hX dM_unset_0 rfl rfl (by first | rfl | exact g_rfr _) 1 rfl ?_
  refine g_aload_n hX dM_unset_1 rfl rfl (by first | rfl | exact g_rfr _) 2 rfl ?_
  refine g_iload_n hX dM_unset_2 rfl rfl 3 rfl ?_
  refine g_cV1r (wt := 1) hX (c_M_noShape hX.tr hW.r hB _) dM_unset_3 (w_m hW.r) kM_98 (g_rm.of hR (by decide) (by decide)) (by first | exact Nat.zero_le _ | (rw [hR]; decide)) (by first | exact Nat.zero_le _ | (rw [hR]; decide)) (by first | decide | (simp [Value.category])) 6 rfl ?_
  refine g_if_eq hX dM_unset_6 13 9 (by decide) rfl (fun c6 => ?_) (fun c6 => ?_)
  · refine g_iload_n hX dM_unset_13 rfl rfl 14 rfl ?_
    refine g_cS1r (wt := 1) hX (c_M_noProperty hX.tr E h _) dM_unset_14 kM_101 (g_rm.of hR (by decide) (by decide)) (by first | exact Nat.zero_le _ | (rw [hR]; decide)) (by first | exact Nat.zero_le _ | (rw [hR]; decide)) (by first | decide | (simp [Value.category])) 17 rfl ?_
    refine g_if_eq hX dM_unset_17 24 20 (by decide) rfl (fun c17 => ?_) (fun c17 => ?_)
    · exact absurd (c17.symm.trans hp) (by decide)
    · refine g_iconst hX dM_unset_20 (v := 2) (by decide) 21 rfl ?_
      refine g_goto hX dM_unset_21 25 (by decide) ?_
      refine g_put0 hX dM_unset_25 fM_75 (w_m hW.r) (w_baseM hW 30 (by decide) (by decide)) rfl rfl (Nat.le_of_ble_eq_true rfl) 28 rfl ?_
      refine g_stepM hW 30 (q_up2 S 13 1 _) (by decide) (by decide) w_hc13 rfl (fun h hW => ?_)
      refine g_aload_n hX dM_unset_28 rfl rfl (by first | rfl | exact g_rfr _) 29 rfl ?_
      refine g_get hX dM_unset_29 fM_75 (w_m hW.r) rfl 32 rfl ?_
      refine g_if_le hX dM_unset_32 37 35 (by decide) rfl (fun c32 => ?_) (fun c32 => ?_)
      · exact absurd c32 (show ¬ (2 : Int32) ≤ 0 by decide)
      · refine g_iconst hX dM_unset_35 (v := 0) (by decide) 36 rfl ?_
        exact g_iret hX rfl rfl dM_unset_36 ⟨rfl, hW⟩ rfl (Nat.zero_le _) (Nat.zero_le _)
  · exact absurd (r_noShape_ok hB hj) c6
set_option maxRecDepth 100000 in
set_option maxHeartbeats 4000000 in
theorem c_M_unset_0 {l : Launch} (hl : l.stackTraces = false) {E : g_E} {A : w_A} {Sc S : q_S} {h : g_H} (hW : w_W E A Sc S h) (hB : w_B S) {j : Nat} (hj : j < q_ns S) {p : Nat} (hp : p < 7) (hz : S.2 2 (7 * j + p) = 0 ∨ S.2 2 (7 * j + p) = 1) : g_Ct l mM_unset 1 14 0 0 [.ref (A 30 0), .int (nI j), .int (nI p)] E h (false, fun r h' => r = .inr (some (.int (S.2 2 (7 * j + p)))) ∧ w_W E A Sc (q_up2 (q_up2 S 13 1 0) 2 (7 * j + p) 0) h') := by
  refine g_Ct.of hl (by decide) rfl (Nat.le_of_ble_eq_true rfl) ?_
  intro X hX hXl hR
  obtain ⟨hnp, hns, hne, hpar, hhome, hact⟩ := id hB
  show g_Go E X _ h true 0 0 0 [some (.ref (A 30 0)), some (.int (nI j)), some (.int (nI p)), none] []
  refine g_aload_n hX dM_unset_0 rfl rfl (by first | rfl | exact g_rfr _) 1 rfl ?_
  refine g_aload_n hX dM_unset_1 rfl rfl (by first | rfl | exact g_rfr _) 2 rfl ?_
  refine g_iload_n hX dM_unset_2 rfl rfl 3 rfl ?_
  refine g_cV1r (wt := 1) hX (c_M_noShape hX.tr hW.r hB _) dM_unset_3 (w_m hW.r) kM_98 (g_rm.of hR (by decide) (by decide)) (by first | exact Nat.zero_le _ | (rw [hR]; decide)) (by first | exact Nat.zero_le _ | (rw [hR]; decide)) (by first | decide | (simp [Value.category])) 6 rfl ?_
  refine g_if_eq hX dM_unset_6 13 9 (by decide) rfl (fun c6 => ?_) (fun c6 => ?_)
  · refine g_iload_n hX dM_unset_13 rfl rfl 14 rfl ?_
    refine g_cS1r (wt := 1) hX (c_M_noProperty hX.tr E h _) dM_unset_14 kM_101 (g_rm.of hR (by decide) (by decide)) (by first | exact Nat.zero_le _ | (rw [hR]; decide)) (by first | exact Nat.zero_le _ | (rw [hR]; decide)) (by first | decide | (simp [Value.category])) 17 rfl ?_
    refine g_if_eq hX dM_unset_17 24 20 (by decide) rfl (fun c17 => ?_) (fun c17 => ?_)
    · refine g_iconst hX dM_unset_24 (v := 0) (by decide) 25 rfl ?_
      refine g_put0 hX dM_unset_25 fM_75 (w_m hW.r) (w_baseM hW 30 (by decide) (by decide)) rfl rfl (Nat.le_of_ble_eq_true rfl) 28 rfl ?_
      refine g_stepM hW 30 (q_up2 S 13 1 _) (by decide) (by decide) w_hc13 rfl (fun h hW => ?_)
      refine g_aload_n hX dM_unset_28 rfl rfl (by first | rfl | exact g_rfr _) 29 rfl ?_
      refine g_get hX dM_unset_29 fM_75 (w_m hW.r) rfl 32 rfl ?_
      refine g_if_le hX dM_unset_32 37 35 (by decide) rfl (fun c32 => ?_) (fun c32 => ?_)
      · refine g_aload_n hX dM_unset_37 rfl rfl (by first | rfl | exact g_rfr _) 38 rfl ?_
        refine g_get hX dM_unset_38 fM_22 (w_m hW.r) rfl 41 rfl ?_
        refine g_bipush hX dM_unset_41 (v := 7) (by decide) 43 rfl ?_
        refine g_iload_n hX dM_unset_43 rfl rfl 44 rfl ?_
        refine g_imul hX dM_unset_44 45 rfl ?_
        refine g_iload_n hX dM_unset_45 rfl rfl 46 rfl ?_
        refine g_iadd hX dM_unset_46 47 rfl ?_
        refine g_zald hX dM_unset_47 (w_ar hW.r _ (by decide)) (g_ix.eq (q_7 j p) (by omega) (by decide)) 48 rfl ?_
        refine g_istore_n hX (L' := [_, _, _, _]) dM_unset_48 rfl (by decide) rfl 49 rfl ?_
        refine g_aload_n hX dM_unset_49 rfl rfl (by first | rfl | exact g_rfr _) 50 rfl ?_
        refine g_get hX dM_unset_50 fM_22 (w_m hW.r) rfl 53 rfl ?_
        refine g_bipush hX dM_unset_53 (v := 7) (by decide) 55 rfl ?_
        refine g_iload_n hX dM_unset_55 rfl rfl 56 rfl ?_
        refine g_imul hX dM_unset_56 57 rfl ?_
        refine g_iload_n hX dM_unset_57 rfl rfl 58 rfl ?_
        refine g_iadd hX dM_unset_58 59 rfl ?_
        refine g_iconst hX dM_unset_59 (v := 0) (by decide) 60 rfl ?_
        refine g_zast hX dM_unset_60 (w_ar hW.r 35 (by decide)) (w_baseM hW 35 (by decide) (by decide)) (g_ix.eq (q_7 j p) (by omega) (by decide)) rfl 61 rfl ?_
        refine g_stepM hW 35 (q_up2 (q_up2 S 13 1 0) 2 (7 * j + p) 0) (by decide) (by decide) w_hv2 rfl (fun h hW => ?_)
        refine g_iload_n hX dM_unset_61 rfl rfl 62 rfl ?_
        exact g_iret hX rfl (by rcases hz with q | q <;> (show narrow .boolean (.int (S.2 2 (7 * j + p))) = .int (S.2 2 (7 * j + p)); rw [q]; rfl)) dM_unset_62 ⟨rfl, hW⟩ rfl (Nat.zero_le _) (Nat.zero_le _)
      · exact absurd (show (0 : Int32) ≤ 0 by decide) c32
    · exact absurd (r_noProperty_ok hp) c17
  · exact absurd (r_noShape_ok hB hj) c6
set_option maxRecDepth 100000 in
set_option maxHeartbeats 4000000 in
theorem c_M_amount_1 {l : Launch} (hl : l.stackTraces = false) {E : g_E} {A : w_A} {Sc S : q_S} {h : g_H} (hW : w_W E A Sc S h) (hB : w_B S) {s : Int32} (a : Int32) (hs : r_noEffect S s = 1) : g_Ct l mM_amount 1 14 0 0 [.ref (A 30 0), .int s, .int a] E h (false, fun r h' => r = .inr none ∧ w_W E A Sc (q_up2 S 13 1 1) h') := by
  refine g_Ct.of hl (by decide) rfl (Nat.le_of_ble_eq_true rfl) ?_
  intro X hX hXl hR
  obtain ⟨hnp, hns, hne, hpar, hhome, hact⟩ := id hB
  show g_Go E X _ h true 0 0 0 [some (.ref (A 30 0)), some (.int s), some (.int a)] []
  refine g_aload_n hX dM_amount_0 rfl rfl (by first | rfl | exact g_rfr _) 1 rfl ?_
  refine g_aload_n hX dM_amount_1 rfl rfl (by first | rfl | exact g_rfr _) 2 rfl ?_
  refine g_iload_n hX dM_amount_2 rfl rfl 3 rfl ?_
  refine g_cV1r (wt := 1) hX (c_M_noEffect hX.tr hW.r hB _) dM_amount_3 (w_m hW.r) kM_124 (g_rm.of hR (by decide) (by decide)) (by first | exact Nat.zero_le _ | (rw [hR]; decide)) (by first | exact Nat.zero_le _ | (rw [hR]; decide)) (by first | decide | (simp [Value.category])) 6 rfl ?_
  refine g_if_eq hX dM_amount_6 13 9 (by decide) rfl (fun c6 => ?_) (fun c6 => ?_)
  · exact absurd (c6.symm.trans hs) (by decide)
  · refine g_iconst hX dM_amount_9 (v := 1) (by decide) 10 rfl ?_
    refine g_goto hX dM_amount_10 30 (by decide) ?_
    refine g_put0 hX dM_amount_30 fM_75 (w_m hW.r) (w_baseM hW 30 (by decide) (by decide)) rfl rfl (Nat.le_of_ble_eq_true rfl) 33 rfl ?_
    refine g_stepM hW 30 (q_up2 S 13 1 _) (by decide) (by decide) w_hc13 rfl (fun h hW => ?_)
    refine g_aload_n hX dM_amount_33 rfl rfl (by first | rfl | exact g_rfr _) 34 rfl ?_
    refine g_get hX dM_amount_34 fM_75 (w_m hW.r) rfl 37 rfl ?_
    refine g_if_ne hX dM_amount_37 47 40 (by decide) rfl (fun c37 => ?_) (fun c37 => ?_)
    · exact g_vret hX rfl dM_amount_47 ⟨rfl, hW⟩ rfl (Nat.zero_le _) (Nat.zero_le _)
    · exact absurd c37 (show ¬ (1 : Int32) = 0 by decide)
set_option maxRecDepth 100000 in
set_option maxHeartbeats 4000000 in
theorem c_M_amount_2 {l : Launch} (hl : l.stackTraces = false) {E : g_E} {A : w_A} {Sc S : q_S} {h : g_H} (hW : w_W E A Sc S h) (hB : w_B S) {e : Nat} (he : e < q_ne S) {a : Int32} (ha : a < -40 ∨ ¬ a ≤ 40) : g_Ct l mM_amount 1 14 0 0 [.ref (A 30 0), .int (nI e), .int a] E h (false, fun r h' => r = .inr none ∧ w_W E A Sc (q_up2 S 13 1 2) h') := by
  refine g_Ct.of hl (by decide) rfl (Nat.le_of_ble_eq_true rfl) ?_
  intro X hX hXl hR
  obtain ⟨hnp, hns, hne, hpar, hhome, hact⟩ := id hB
  show g_Go E X _ h true 0 0 0 [some (.ref (A 30 0)), some (.int (nI e)), some (.int a)] []
  refine g_aload_n hX dM_amount_0 rfl rfl (by first | rfl | exact g_rfr _) 1 rfl ?_
  refine g_aload_n hX dM_amount_1 rfl rfl (by first | rfl | exact g_rfr _) 2 rfl ?_
  refine g_iload_n hX dM_amount_2 rfl rfl 3 rfl ?_
  refine g_cV1r (wt := 1) hX (c_M_noEffect hX.tr hW.r hB _) dM_amount_3 (w_m hW.r) kM_124 (g_rm.of hR (by decide) (by decide)) (by first | exact Nat.zero_le _ | (rw [hR]; decide)) (by first | exact Nat.zero_le _ | (rw [hR]; decide)) (by first | decide | (simp [Value.category])) 6 rfl ?_
  refine g_if_eq hX dM_amount_6 13 9 (by decide) rfl (fun c6 => ?_) (fun c6 => ?_)
  · refine g_iload_n hX dM_amount_13 rfl rfl 14 rfl ?_
    refine g_bipush hX dM_amount_14 (v := (-40)) (by decide) 16 rfl ?_
    refine g_icmp_lt hX dM_amount_16 25 19 (by decide) rfl (fun c16 => ?_) (fun c16 => ?_)
    · refine g_iconst hX dM_amount_25 (v := 2) (by decide) 26 rfl ?_
      refine g_goto hX dM_amount_26 30 (by decide) ?_
      refine g_put0 hX dM_amount_30 fM_75 (w_m hW.r) (w_baseM hW 30 (by decide) (by decide)) rfl rfl (Nat.le_of_ble_eq_true rfl) 33 rfl ?_
      refine g_stepM hW 30 (q_up2 S 13 1 _) (by decide) (by decide) w_hc13 rfl (fun h hW => ?_)
      refine g_aload_n hX dM_amount_33 rfl rfl (by first | rfl | exact g_rfr _) 34 rfl ?_
      refine g_get hX dM_amount_34 fM_75 (w_m hW.r) rfl 37 rfl ?_
      refine g_if_ne hX dM_amount_37 47 40 (by decide) rfl (fun c37 => ?_) (fun c37 => ?_)
      · exact g_vret hX rfl dM_amount_47 ⟨rfl, hW⟩ rfl (Nat.zero_le _) (Nat.zero_le _)
      · exact absurd c37 (show ¬ (2 : Int32) = 0 by decide)
    · refine g_iload_n hX dM_amount_19 rfl rfl 20 rfl ?_
      refine g_bipush hX dM_amount_20 (v := 40) (by decide) 22 rfl ?_
      refine g_icmp_le hX dM_amount_22 29 25 (by decide) rfl (fun c22 => ?_) (fun c22 => ?_)
      · exact absurd ha (fun q => q.elim c16 (fun q => q c22))
      · refine g_iconst hX dM_amount_25 (v := 2) (by decide) 26 rfl ?_
        refine g_goto hX dM_amount_26 30 (by decide) ?_
        refine g_put0 hX dM_amount_30 fM_75 (w_m hW.r) (w_baseM hW 30 (by decide) (by decide)) rfl rfl (Nat.le_of_ble_eq_true rfl) 33 rfl ?_
        refine g_stepM hW 30 (q_up2 S 13 1 _) (by decide) (by decide) w_hc13 rfl (fun h hW => ?_)
        refine g_aload_n hX dM_amount_33 rfl rfl (by first | rfl | exact g_rfr _) 34 rfl ?_
        refine g_get hX dM_amount_34 fM_75 (w_m hW.r) rfl 37 rfl ?_
        refine g_if_ne hX dM_amount_37 47 40 (by decide) rfl (fun c37 => ?_) (fun c37 => ?_)
        · exact g_vret hX rfl dM_amount_47 ⟨rfl, hW⟩ rfl (Nat.zero_le _) (Nat.zero_le _)
        · exact absurd c37 (show ¬ (2 : Int32) = 0 by decide)
  · exact absurd (r_noEffect_ok hB he) c6
set_option maxRecDepth 100000 in
set_option maxHeartbeats 4000000 in
theorem c_M_amount_0 {l : Launch} (hl : l.stackTraces = false) {E : g_E} {A : w_A} {Sc S : q_S} {h : g_H} (hW : w_W E A Sc S h) (hB : w_B S) {e : Nat} (he : e < q_ne S) {a : Int32} (ha : ¬ a < -40) (ha2 : a ≤ 40) : g_Ct l mM_amount 1 14 0 0 [.ref (A 30 0), .int (nI e), .int a] E h (false, fun r h' => r = .inr none ∧ w_W E A Sc (q_up2 (q_up2 S 13 1 0) 11 e a) h') := by
  refine g_Ct.of hl (by decide) rfl (Nat.le_of_ble_eq_true rfl) ?_
  intro X hX hXl hR
  obtain ⟨hnp, hns, hne, hpar, hhome, hact⟩ := id hB
  show g_Go E X _ h true 0 0 0 [some (.ref (A 30 0)), some (.int (nI e)), some (.int a)] []
  refine g_aload_n hX dM_amount_0 rfl rfl (by first | rfl | exact g_rfr _) 1 rfl ?_
  refine g_aload_n hX dM_amount_1 rfl rfl (by first | rfl | exact g_rfr _) 2 rfl ?_
  refine g_iload_n hX dM_amount_2 rfl rfl 3 rfl ?_
  refine g_cV1r (wt := 1) hX (c_M_noEffect hX.tr hW.r hB _) dM_amount_3 (w_m hW.r) kM_124 (g_rm.of hR (by decide) (by decide)) (by first | exact Nat.zero_le _ | (rw [hR]; decide)) (by first | exact Nat.zero_le _ | (rw [hR]; decide)) (by first | decide | (simp [Value.category])) 6 rfl ?_
  refine g_if_eq hX dM_amount_6 13 9 (by decide) rfl (fun c6 => ?_) (fun c6 => ?_)
  · refine g_iload_n hX dM_amount_13 rfl rfl 14 rfl ?_
    refine g_bipush hX dM_amount_14 (v := (-40)) (by decide) 16 rfl ?_
    refine g_icmp_lt hX dM_amount_16 25 19 (by decide) rfl (fun c16 => ?_) (fun c16 => ?_)
    · contradiction
    · refine g_iload_n hX dM_amount_19 rfl rfl 20 rfl ?_
      refine g_bipush hX dM_amount_20 (v := 40) (by decide) 22 rfl ?_
      refine g_icmp_le hX dM_amount_22 29 25 (by decide) rfl (fun c22 => ?_) (fun c22 => ?_)
      · refine g_iconst hX dM_amount_29 (v := 0) (by decide) 30 rfl ?_
        refine g_put0 hX dM_amount_30 fM_75 (w_m hW.r) (w_baseM hW 30 (by decide) (by decide)) rfl rfl (Nat.le_of_ble_eq_true rfl) 33 rfl ?_
        refine g_stepM hW 30 (q_up2 S 13 1 _) (by decide) (by decide) w_hc13 rfl (fun h hW => ?_)
        refine g_aload_n hX dM_amount_33 rfl rfl (by first | rfl | exact g_rfr _) 34 rfl ?_
        refine g_get hX dM_amount_34 fM_75 (w_m hW.r) rfl 37 rfl ?_
        refine g_if_ne hX dM_amount_37 47 40 (by decide) rfl (fun c37 => ?_) (fun c37 => ?_)
        · exact absurd rfl c37
        · refine g_aload_n hX dM_amount_40 rfl rfl (by first | rfl | exact g_rfr _) 41 rfl ?_
          refine g_get hX dM_amount_41 fM_60 (w_m hW.r) rfl 44 rfl ?_
          refine g_iload_n hX dM_amount_44 rfl rfl 45 rfl ?_
          refine g_iload_n hX dM_amount_45 rfl rfl 46 rfl ?_
          refine g_iast hX dM_amount_46 (w_ar hW.r 47 (by decide)) (w_baseM hW 47 (by decide) (by decide)) (g_ix.nat (by omega) (by decide)) 47 rfl ?_
          refine g_stepM hW 47 (q_up2 (q_up2 S 13 1 0) 11 e a) (by decide) (by decide) w_hv11 rfl (fun h hW => ?_)
          exact g_vret hX rfl dM_amount_47 ⟨rfl, hW⟩ rfl (Nat.zero_le _) (Nat.zero_le _)
      · contradiction
  · exact absurd (r_noEffect_ok hB he) c6
set_option maxRecDepth 100000 in
set_option maxHeartbeats 4000000 in
theorem c_M_tick_1 {l : Launch} (hl : l.stackTraces = false) {E : g_E} {A : w_A} {Sc S : q_S} {h : g_H} (hW : w_W E A Sc S h) (hB : w_B S) {n : Int32} (hn : n < 0 ∨ ¬ n ≤ 1000) : g_Ct l mM_tick 0 0 0 0 [.ref (A 30 0), .int n] E h (false, fun r h' => r = .inr none ∧ w_W E A Sc (q_up2 S 13 1 1) h') := by
  refine g_Ct.of hl (by decide) rfl (Nat.le_of_ble_eq_true rfl) ?_
  intro X hX hXl hR
  obtain ⟨hnp, hns, hne, hpar, hhome, hact⟩ := id hB
  show g_Go E X _ h true 0 0 0 [some (.ref (A 30 0)), some (.int n)] []
  refine g_aload_n hX dM_tick_0 rfl rfl (by first | rfl | exact g_rfr _) 1 rfl ?_
  refine g_iload_n hX dM_tick_1 rfl rfl 2 rfl ?_
  refine g_if_lt hX dM_tick_2 12 5 (by decide) rfl (fun c2 => ?_) (fun c2 => ?_)
  · refine g_iconst hX dM_tick_12 (v := 1) (by decide) 13 rfl ?_
    refine g_goto hX dM_tick_13 17 (by decide) ?_
    refine g_put0 hX dM_tick_17 fM_75 (w_m hW.r) (w_baseM hW 30 (by decide) (by decide)) rfl rfl (Nat.le_of_ble_eq_true rfl) 20 rfl ?_
    refine g_stepM hW 30 (q_up2 S 13 1 _) (by decide) (by decide) w_hc13 rfl (fun h hW => ?_)
    refine g_aload_n hX dM_tick_20 rfl rfl (by first | rfl | exact g_rfr _) 21 rfl ?_
    refine g_get hX dM_tick_21 fM_75 (w_m hW.r) rfl 24 rfl ?_
    refine g_if_ne hX dM_tick_24 53 27 (by decide) rfl (fun c24 => ?_) (fun c24 => ?_)
    · exact g_vret hX rfl dM_tick_53 ⟨rfl, hW⟩ rfl (Nat.zero_le _) (Nat.zero_le _)
    · exact absurd c24 (show ¬ (1 : Int32) = 0 by decide)
  · refine g_iload_n hX dM_tick_5 rfl rfl 6 rfl ?_
    refine g_sipush hX dM_tick_6 (v := 1000) (by decide) 9 rfl ?_
    refine g_icmp_le hX dM_tick_9 16 12 (by decide) rfl (fun c9 => ?_) (fun c9 => ?_)
    · exact absurd hn (fun q => q.elim c2 (fun q => q c9))
    · refine g_iconst hX dM_tick_12 (v := 1) (by decide) 13 rfl ?_
      refine g_goto hX dM_tick_13 17 (by decide) ?_
      refine g_put0 hX dM_tick_17 fM_75 (w_m hW.r) (w_baseM hW 30 (by decide) (by decide)) rfl rfl (Nat.le_of_ble_eq_true rfl) 20 rfl ?_
      refine g_stepM hW 30 (q_up2 S 13 1 _) (by decide) (by decide) w_hc13 rfl (fun h hW => ?_)
      refine g_aload_n hX dM_tick_20 rfl rfl (by first | rfl | exact g_rfr _) 21 rfl ?_
      refine g_get hX dM_tick_21 fM_75 (w_m hW.r) rfl 24 rfl ?_
      refine g_if_ne hX dM_tick_24 53 27 (by decide) rfl (fun c24 => ?_) (fun c24 => ?_)
      · exact g_vret hX rfl dM_tick_53 ⟨rfl, hW⟩ rfl (Nat.zero_le _) (Nat.zero_le _)
      · exact absurd c24 (show ¬ (1 : Int32) = 0 by decide)
set_option maxRecDepth 100000 in
set_option maxHeartbeats 4000000 in
theorem c_M_tick_0 {l : Launch} (hl : l.stackTraces = false) {E : g_E} {A : w_A} {Sc S : q_S} {h : g_H} (hW : w_W E A Sc S h) (hB : w_B S) {n : Int32} (hn : ¬ n < 0) (hn2 : n ≤ 1000) : g_Ct l mM_tick 0 0 0 0 [.ref (A 30 0), .int n] E h (false, fun r h' => r = .inr none ∧ w_W E A Sc (q_up2 (q_up2 S 13 1 0) 13 0 (if q_time S + n ≤ 1000000 then q_time S + n else 1000000)) h') := by
  refine g_Ct.of hl (by decide) rfl (Nat.le_of_ble_eq_true rfl) ?_
  intro X hX hXl hR
  obtain ⟨hnp, hns, hne, hpar, hhome, hact⟩ := id hB
  show g_Go E X _ h true 0 0 0 [some (.ref (A 30 0)), some (.int n)] []
  refine g_aload_n hX dM_tick_0 rfl rfl (by first | rfl | exact g_rfr _) 1 rfl ?_
  refine g_iload_n hX dM_tick_1 rfl rfl 2 rfl ?_
  refine g_if_lt hX dM_tick_2 12 5 (by decide) rfl (fun c2 => ?_) (fun c2 => ?_)
  · contradiction
  · refine g_iload_n hX dM_tick_5 rfl rfl 6 rfl ?_
    refine g_sipush hX dM_tick_6 (v := 1000) (by decide) 9 rfl ?_
    refine g_icmp_le hX dM_tick_9 16 12 (by decide) rfl (fun c9 => ?_) (fun c9 => ?_)
    · refine g_iconst hX dM_tick_16 (v := 0) (by decide) 17 rfl ?_
      refine g_put0 hX dM_tick_17 fM_75 (w_m hW.r) (w_baseM hW 30 (by decide) (by decide)) rfl rfl (Nat.le_of_ble_eq_true rfl) 20 rfl ?_
      refine g_stepM hW 30 (q_up2 S 13 1 _) (by decide) (by decide) w_hc13 rfl (fun h hW => ?_)
      refine g_aload_n hX dM_tick_20 rfl rfl (by first | rfl | exact g_rfr _) 21 rfl ?_
      refine g_get hX dM_tick_21 fM_75 (w_m hW.r) rfl 24 rfl ?_
      refine g_if_ne hX dM_tick_24 53 27 (by decide) rfl (fun c24 => ?_) (fun c24 => ?_)
      · exact absurd rfl c24
      · refine g_aload_n hX dM_tick_27 rfl rfl (by first | rfl | exact g_rfr _) 28 rfl ?_
        refine g_aload_n hX dM_tick_28 rfl rfl (by first | rfl | exact g_rfr _) 29 rfl ?_
        refine g_get hX dM_tick_29 fM_139 (w_m hW.r) rfl 32 rfl ?_
        refine g_iload_n hX dM_tick_32 rfl rfl 33 rfl ?_
        refine g_iadd hX dM_tick_33 34 rfl ?_
        refine g_ldc hX dM_tick_34 lM_157 36 rfl ?_
        refine g_icmp_le hX dM_tick_36 44 39 (by decide) rfl (fun c36 => ?_) (fun c36 => ?_)
        · refine g_aload_n hX dM_tick_44 rfl rfl (by first | rfl | exact g_rfr _) 45 rfl ?_
          refine g_get hX dM_tick_45 fM_139 (w_m hW.r) rfl 48 rfl ?_
          refine g_iload_n hX dM_tick_48 rfl rfl 49 rfl ?_
          refine g_iadd hX dM_tick_49 50 rfl ?_
          refine g_put0 hX dM_tick_50 fM_139 (w_m hW.r) (w_baseM hW 30 (by decide) (by decide)) rfl rfl (Nat.le_of_ble_eq_true rfl) 53 rfl ?_
          refine g_stepM hW 30 (q_up2 (q_up2 S 13 1 0) 13 0 _) (by decide) (by decide) w_hc13 rfl (fun h hW => ?_)
          exact g_vret hX rfl dM_tick_53 ⟨rfl, by rw [show (if q_time S + n ≤ 1000000 then q_time S + n else 1000000) = _ from if_pos c36]; exact hW⟩ rfl (Nat.zero_le _) (Nat.zero_le _)
        · refine g_ldc hX dM_tick_39 lM_157 41 rfl ?_
          refine g_goto hX dM_tick_41 50 (by decide) ?_
          refine g_put0 hX dM_tick_50 fM_139 (w_m hW.r) (w_baseM hW 30 (by decide) (by decide)) rfl rfl (Nat.le_of_ble_eq_true rfl) 53 rfl ?_
          refine g_stepM hW 30 (q_up2 (q_up2 S 13 1 0) 13 0 _) (by decide) (by decide) w_hc13 rfl (fun h hW => ?_)
          exact g_vret hX rfl dM_tick_53 ⟨rfl, by rw [show (if q_time S + n ≤ 1000000 then q_time S + n else 1000000) = _ from if_neg c36]; exact hW⟩ rfl (Nat.zero_le _) (Nat.zero_le _)
    · contradiction
