/-- the byte of the words with 8 k bits behind it -/
def r_by (x : Int32) (k : Nat) : Int32 := x >>> ((8 * nI k) &&& 31) &&& 255
def r_gd (x g : Int32) : Nat → Int32
  | 0 => g
  | k + 1 => if r_gd x g k = 0 then 0 else if 15 < r_by x k then 0 else 1
theorem q_dec2 (a : Int32) : a + Int32.ofInt (-1) = a - 1 := by
  rw [Int32.sub_eq_add_neg]
  rfl
/-- the words of the paragraph t are written: w of the four bytes are done -/
def q_wrs (S : q_S) (t : Nat) (x : Int32) : Nat → q_S
  | 0 => S
  | w + 1 => if r_by x (3 - w) ≤ 0 then q_wrs S t x w else q_up1 (q_up2 (q_wrs S t x w) 6 (4 * t + (q_wrs S t x w).1 4 t) (r_by x (3 - w))) 4 t ((q_wrs S t x w).1 4 t + 1)
theorem q_wrs_le (S : q_S) (t : Nat) (x : Int32) (h0 : S.1 4 t = 0) : ∀ w, (q_wrs S t x w).1 4 t ≤ w
  | 0 => by rw [q_wrs, h0]; exact Nat.le_refl _
  | w + 1 => by
    have := q_wrs_le S t x h0 w
    rw [q_wrs]
    split
    · omega
    · show (if t = t then (q_wrs S t x w).1 4 t + 1 else _) ≤ _
      rw [if_pos rfl]
      omega
theorem q_wrs_1 (S : q_S) (t : Nat) (x : Int32) {u : Nat} (hu : ¬ u = 4) : ∀ w, (q_wrs S t x w).1 u = S.1 u
  | 0 => rfl
  | w + 1 => by
    rw [q_wrs]
    split
    · exact q_wrs_1 S t x hu w
    · show (if u = 4 then _ else (q_wrs S t x w).1 u) = _
      rw [if_neg hu]
      exact q_wrs_1 S t x hu w
theorem q_wrs_2 (S : q_S) (t : Nat) (x : Int32) {u : Nat} (hu : ¬ u = 6) : ∀ w, (q_wrs S t x w).2 u = S.2 u
  | 0 => rfl
  | w + 1 => by
    rw [q_wrs]
    split
    · exact q_wrs_2 S t x hu w
    · show (if u = 6 then _ else (q_wrs S t x w).2 u) = _
      rw [if_neg hu]
      exact q_wrs_2 S t x hu w
set_option maxRecDepth 100000 in
set_option maxHeartbeats 4000000 in
theorem lp_writeg {E : g_E} {A : w_A} {X : g_X} {P : g_P} (hX : g_ok E X mM_write) {s lv x g : Int32} {h : g_H} (kk : g_Go E X P h true 0 0 63 [some (.ref (A 30 0)), some (.int s), some (.int lv), some (.int x), some (.int (r_gd x g 4)), none, none, none] []) :
    ∀ (r k : Nat), k + r = 4 → g_Go E X P h true 0 0 23 [some (.ref (A 30 0)), some (.int s), some (.int lv), some (.int x), some (.int (r_gd x g k)), some (.int (nI k)), none, none] [] := by
  intro r
  induction r with
  | zero =>
    intro k hk
    have hk2 : k = 4 := by omega
    subst hk2
    refine g_iload hX dM_write_23 rfl 25 rfl ?_
    refine g_iconst hX dM_write_25 (v := 4) (by decide) 26 rfl ?_
    refine g_icmp_ge hX dM_write_26 63 29 (by decide) rfl (fun c26 => ?_) (fun c26 => ?_)
    · refine g_drop (L' := [_, _, _, _, _, none, _, _]) 5 rfl ?_
      exact kk
    · exact absurd (show (4 : Int32) ≤ nI 4 by decide) c26
  | succ r ih =>
    intro k hk
    have h5 := ih (k + 1) (by omega)
    rw [r_gd] at h5
    refine g_iload hX dM_write_23 rfl 25 rfl ?_
    refine g_iconst hX dM_write_25 (v := 4) (by decide) 26 rfl ?_
    refine g_icmp_ge hX dM_write_26 63 29 (by decide) rfl (fun c26 => ?_) (fun c26 => ?_)
    · exact absurd (show nI 4 ≤ nI k from c26) (nI_ge (by omega) (by omega))
    · refine g_iload hX dM_write_29 rfl 31 rfl ?_
      refine g_if_eq hX dM_write_31 54 34 (by decide) rfl (fun c31 => ?_) (fun c31 => ?_)
      · refine g_iconst hX dM_write_54 (v := 0) (by decide) 55 rfl ?_
        refine g_istore hX (L' := [_, _, _, _, _, _, _, _]) dM_write_55 (by decide) rfl 57 rfl ?_
        refine g_iinc hX (L' := [_, _, _, _, _, _, _, _]) dM_write_57 rfl (q_inc _) rfl 60 rfl ?_
        refine g_goto hX dM_write_60 23 (by decide) ?_
        rw [if_pos c31] at h5
        exact h5
      · refine g_iload_n hX dM_write_34 rfl rfl 35 rfl ?_
        refine g_bipush hX dM_write_35 (v := 8) (by decide) 37 rfl ?_
        refine g_iload hX dM_write_37 rfl 39 rfl ?_
        refine g_imul hX dM_write_39 40 rfl ?_
        refine g_ishr hX dM_write_40 41 rfl ?_
        refine g_sipush hX dM_write_41 (v := 255) (by decide) 44 rfl ?_
        refine g_iand hX dM_write_44 45 rfl ?_
        refine g_bipush hX dM_write_45 (v := 15) (by decide) 47 rfl ?_
        refine g_icmp_gt hX dM_write_47 54 50 (by decide) rfl (fun c47 => ?_) (fun c47 => ?_)
        · refine g_iconst hX dM_write_54 (v := 0) (by decide) 55 rfl ?_
          refine g_istore hX (L' := [_, _, _, _, _, _, _, _]) dM_write_55 (by decide) rfl 57 rfl ?_
          refine g_iinc hX (L' := [_, _, _, _, _, _, _, _]) dM_write_57 rfl (q_inc _) rfl 60 rfl ?_
          refine g_goto hX dM_write_60 23 (by decide) ?_
          rw [if_neg c31, if_pos (show 15 < r_by x k from c47)] at h5
          exact h5
        · refine g_iconst hX dM_write_50 (v := 1) (by decide) 51 rfl ?_
          refine g_goto hX dM_write_51 55 (by decide) ?_
          refine g_istore hX (L' := [_, _, _, _, _, _, _, _]) dM_write_55 (by decide) rfl 57 rfl ?_
          refine g_iinc hX (L' := [_, _, _, _, _, _, _, _]) dM_write_57 rfl (q_inc _) rfl 60 rfl ?_
          refine g_goto hX dM_write_60 23 (by decide) ?_
          rw [if_neg c31, if_neg (show ¬ 15 < r_by x k from c47)] at h5
          exact h5
set_option maxRecDepth 100000 in
set_option maxHeartbeats 4000000 in
theorem lp_writew {E : g_E} {A : w_A} {Sc S : q_S} {X : g_X} {P : g_P} (hX : g_ok E X mM_write) {j : Nat} {lv x g : Int32} {t : Nat} (ht : t < 96) (h0 : S.1 4 t = 0) (kk : ∀ h : g_H, w_W E A Sc (q_wrs S t x 4) h → g_Go E X P h false 0 0 202 [some (.ref (A 30 0)), some (.int (nI j)), some (.int lv), some (.int x), some (.int g), some (.int (nI t)), none, none] []) :
    ∀ (r w : Nat) (h : g_H), w + r = 4 → w_W E A Sc (q_wrs S t x w) h → g_Go E X P h false 0 0 143 [some (.ref (A 30 0)), some (.int (nI j)), some (.int lv), some (.int x), some (.int g), some (.int (nI t)), some (.int (nI r - 1)), none] [] := by
  intro r
  induction r with
  | zero =>
    intro w h hw hW
    have hw2 : w = 4 := by omega
    subst hw2
    refine g_iload hX dM_write_143 rfl 145 rfl ?_
    refine g_if_lt hX dM_write_145 202 148 (by decide) rfl (fun c145 => ?_) (fun c145 => ?_)
    · refine g_drop (L' := [_, _, _, _, _, _, none, _]) 6 rfl ?_
      exact kk h hW
    · exact absurd (show nI 0 - 1 < 0 by decide) c145
  | succ r ih =>
    intro w h hw hW
    rw [nI_pred]
    have hr : 3 - w = r := by omega
    have hle := q_wrs_le S t x h0 w
    have hst : q_wrs S t x (w + 1) = if r_by x r ≤ 0 then q_wrs S t x w else q_up1 (q_up2 (q_wrs S t x w) 6 (4 * t + (q_wrs S t x w).1 4 t) (r_by x r)) 4 t ((q_wrs S t x w).1 4 t + 1) := by rw [q_wrs, hr]
    generalize q_wrs S t x w = S2 at hW hle hst
    refine g_iload hX dM_write_143 rfl 145 rfl ?_
    refine g_if_lt hX dM_write_145 202 148 (by decide) rfl (fun c145 => ?_) (fun c145 => ?_)
    · exact absurd c145 (nI_pos (by omega))
    · refine g_iload_n hX dM_write_148 rfl rfl 149 rfl ?_
      refine g_bipush hX dM_write_149 (v := 8) (by decide) 151 rfl ?_
      refine g_iload hX dM_write_151 rfl 153 rfl ?_
      refine g_imul hX dM_write_153 154 rfl ?_
      refine g_ishr hX dM_write_154 155 rfl ?_
      refine g_sipush hX dM_write_155 (v := 255) (by decide) 158 rfl ?_
      refine g_iand hX dM_write_158 159 rfl ?_
      refine g_istore hX (L' := [_, _, _, _, _, _, _, _]) dM_write_159 (by decide) rfl 161 rfl ?_
      refine g_iload hX dM_write_161 rfl 163 rfl ?_
      refine g_if_le hX dM_write_163 196 166 (by decide) rfl (fun c163 => ?_) (fun c163 => ?_)
      · refine g_iinc hX (L' := [_, _, _, _, _, _, _, _]) dM_write_196 rfl (q_dec2 _) rfl 199 rfl ?_
        refine g_goto hX dM_write_199 143 (by decide) ?_
        rw [if_pos (show r_by x r ≤ 0 from c163)] at hst
        refine g_drop (L' := [_, _, _, _, _, _, _, none]) 7 rfl ?_
        exact ih (w + 1) h (by omega) (by rw [hst]; exact hW)
      · refine g_aload_n hX dM_write_166 rfl rfl (by first | rfl | exact g_rfr _) 167 rfl ?_
        refine g_get hX dM_write_167 fM_42 (w_m hW.r) rfl 170 rfl ?_
        refine g_iconst hX dM_write_170 (v := 4) (by decide) 171 rfl ?_
        refine g_iload hX dM_write_171 rfl 173 rfl ?_
        refine g_imul hX dM_write_173 174 rfl ?_
        refine g_aload_n hX dM_write_174 rfl rfl (by first | rfl | exact g_rfr _) 175 rfl ?_
        refine g_get hX dM_write_175 fM_39 (w_m hW.r) rfl 178 rfl ?_
        refine g_iload hX dM_write_178 rfl 180 rfl ?_
        refine g_iald hX dM_write_180 (w_ar hW.r _ (by decide)) (g_ix.nat ht (by decide)) 181 rfl ?_
        refine g_iadd hX dM_write_181 182 rfl ?_
        refine g_iload hX dM_write_182 rfl 184 rfl ?_
        refine g_iast hX dM_write_184 (w_ar hW.r 41 (by decide)) (w_baseM hW 41 (by decide) (by decide)) (g_ix.eq (q_4 t (S2.1 4 t)) (show 4 * t + S2.1 4 t < 384 by omega) (by decide)) 185 rfl ?_
        refine g_stepM hW 41 (q_up2 S2 6 (4 * t + S2.1 4 t) (r_by x r)) (by decide) (by decide) w_hv6 rfl (fun h hW => ?_)
        refine g_aload_n hX dM_write_185 rfl rfl (by first | rfl | exact g_rfr _) 186 rfl ?_
        refine g_get hX dM_write_186 fM_39 (w_m hW.r) rfl 189 rfl ?_
        refine g_iload hX dM_write_189 rfl 191 rfl ?_
        refine g_dup2 hX dM_write_191 rfl rfl 192 rfl ?_
        refine g_iald hX dM_write_192 (w_ar hW.r _ (by decide)) (g_ix.nat ht (by decide)) 193 rfl ?_
        refine g_iconst hX dM_write_193 (v := 1) (by decide) 194 rfl ?_
        refine g_iadd hX dM_write_194 195 rfl ?_
        refine g_iast hX dM_write_195 (w_ar hW.r 40 (by decide)) (w_baseM hW 40 (by decide) (by decide)) (g_ix.nat ht (by decide)) 196 rfl ?_
        refine g_stepM hW 40 (q_up1 (q_up2 S2 6 (4 * t + S2.1 4 t) (r_by x r)) 4 t (S2.1 4 t + 1)) (by decide) (by decide) w_hn4 (by rw [nI_1]; exact congrArg (g_ints E 96) (q_updn (S2.1 4) t (S2.1 4 t + 1))) (fun h hW => ?_)
        refine g_iinc hX (L' := [_, _, _, _, _, _, _, _]) dM_write_196 rfl (q_dec2 _) rfl 199 rfl ?_
        refine g_goto hX dM_write_199 143 (by decide) ?_
        rw [if_neg (show ¬ r_by x r ≤ 0 from c163)] at hst
        refine g_drop (L' := [_, _, _, _, _, _, _, none]) 7 rfl ?_
        exact ih (w + 1) h (by omega) (by rw [hst]; exact hW)
def r_gw (lv x : Int32) : Int32 := r_gd x (if lv < 0 then 0 else if 2 < lv then 0 else if x = 0 then 0 else 1) 4
set_option maxRecDepth 100000 in
set_option maxHeartbeats 4000000 in
theorem c_M_write_1 {l : Launch} (hl : l.stackTraces = false) {E : g_E} {A : w_A} {Sc S : q_S} {h : g_H} (hW : w_W E A Sc S h) (hB : w_B S) {s : Int32} (lv x : Int32) (hs : r_noShape S s = 1) : g_Ct l mM_write 1 14 0 0 [.ref (A 30 0), .int s, .int lv, .int x] E h (false, fun r h' => r = .inr (some (.int 0)) ∧ w_W E A Sc (q_up2 S 13 1 1) h') := by
  refine g_Ct.of hl (by decide) rfl (Nat.le_of_ble_eq_true rfl) ?_
  intro X hX hXl hR
  obtain ⟨hnp, hns, hne, hpar, hhome, hact⟩ := id hB
  have kk0 : g_Go E X (false, fun r h' => r = .inr (some (.int 0)) ∧ w_W E A Sc (q_up2 S 13 1 1) h') h true 0 0 63 [some (.ref (A 30 0)), some (.int s), some (.int lv), some (.int x), some (.int (r_gd x (if lv < 0 then 0 else if 2 < lv then 0 else if x = 0 then 0 else 1) 4)), none, none, none] [] := by
    refine g_aload_n hX dM_write_63 rfl rfl (by first | rfl | exact g_rfr _) 64 rfl ?_
    refine g_aload_n hX dM_write_64 rfl rfl (by first | rfl | exact g_rfr _) 65 rfl ?_
    refine g_iload_n hX dM_write_65 rfl rfl 66 rfl ?_
    refine g_cV1r (wt := 1) hX (c_M_noShape hX.tr hW.r hB _) dM_write_66 (w_m hW.r) kM_98 (g_rm.of hR (by decide) (by decide)) (by first | exact Nat.zero_le _ | (rw [hR]; decide)) (by first | exact Nat.zero_le _ | (rw [hR]; decide)) (by first | decide | (simp [Value.category])) 69 rfl ?_
    refine g_if_eq hX dM_write_69 76 72 (by decide) rfl (fun c69 => ?_) (fun c69 => ?_)
    · exact absurd (c69.symm.trans hs) (by decide)
    · refine g_iconst hX dM_write_72 (v := 1) (by decide) 73 rfl ?_
      refine g_goto hX dM_write_73 100 (by decide) ?_
      refine g_put0 hX dM_write_100 fM_75 (w_m hW.r) (w_baseM hW 30 (by decide) (by decide)) rfl rfl (Nat.le_of_ble_eq_true rfl) 103 rfl ?_
      refine g_stepM hW 30 (q_up2 S 13 1 _) (by decide) (by decide) w_hc13 rfl (fun h hW => ?_)
      refine g_aload_n hX dM_write_103 rfl rfl (by first | rfl | exact g_rfr _) 104 rfl ?_
      refine g_get hX dM_write_104 fM_75 (w_m hW.r) rfl 107 rfl ?_
      refine g_if_le hX dM_write_107 112 110 (by decide) rfl (fun c107 => ?_) (fun c107 => ?_)
      · exact absurd c107 (show ¬ (1 : Int32) ≤ 0 by decide)
      · refine g_iconst hX dM_write_110 (v := 0) (by decide) 111 rfl ?_
        exact g_iret hX rfl rfl dM_write_111 ⟨rfl, hW⟩ rfl (Nat.zero_le _) (Nat.zero_le _)
  show g_Go E X _ h true 0 0 0 [some (.ref (A 30 0)), some (.int s), some (.int lv), some (.int x), none, none, none, none] []
  refine g_iload_n hX dM_write_0 rfl rfl 1 rfl ?_
  refine g_if_lt hX dM_write_1 17 4 (by decide) rfl (fun c1 => ?_) (fun c1 => ?_)
  · refine g_iconst hX dM_write_17 (v := 0) (by decide) 18 rfl ?_
    refine g_istore hX (L' := [_, _, _, _, _, _, _, _]) dM_write_18 (by decide) rfl 20 rfl ?_
    refine g_iconst hX dM_write_20 (v := 0) (by decide) 21 rfl ?_
    refine g_istore hX (L' := [_, _, _, _, _, _, _, _]) dM_write_21 (by decide) rfl 23 rfl ?_
    have hg9 : (if lv < 0 then 0 else if 2 < lv then 0 else if x = 0 then 0 else 1) = (0 : Int32) := by rw [if_pos c1]
    have hl9 := lp_writeg (g := (if lv < 0 then 0 else if 2 < lv then 0 else if x = 0 then 0 else 1)) hX kk0 4 0 rfl
    rw [nI_0, show r_gd x (if lv < 0 then 0 else if 2 < lv then 0 else if x = 0 then 0 else 1) 0 = (if lv < 0 then 0 else if 2 < lv then 0 else if x = 0 then 0 else 1) from rfl, hg9] at hl9
    exact hl9
  · refine g_iload_n hX dM_write_4 rfl rfl 5 rfl ?_
    refine g_iconst hX dM_write_5 (v := 2) (by decide) 6 rfl ?_
    refine g_icmp_gt hX dM_write_6 17 9 (by decide) rfl (fun c6 => ?_) (fun c6 => ?_)
    · refine g_iconst hX dM_write_17 (v := 0) (by decide) 18 rfl ?_
      refine g_istore hX (L' := [_, _, _, _, _, _, _, _]) dM_write_18 (by decide) rfl 20 rfl ?_
      refine g_iconst hX dM_write_20 (v := 0) (by decide) 21 rfl ?_
      refine g_istore hX (L' := [_, _, _, _, _, _, _, _]) dM_write_21 (by decide) rfl 23 rfl ?_
      have hg9 : (if lv < 0 then 0 else if 2 < lv then 0 else if x = 0 then 0 else 1) = (0 : Int32) := by rw [if_neg c1, if_pos c6]
      have hl9 := lp_writeg (g := (if lv < 0 then 0 else if 2 < lv then 0 else if x = 0 then 0 else 1)) hX kk0 4 0 rfl
      rw [nI_0, show r_gd x (if lv < 0 then 0 else if 2 < lv then 0 else if x = 0 then 0 else 1) 0 = (if lv < 0 then 0 else if 2 < lv then 0 else if x = 0 then 0 else 1) from rfl, hg9] at hl9
      exact hl9
    · refine g_iload_n hX dM_write_9 rfl rfl 10 rfl ?_
      refine g_if_eq hX dM_write_10 17 13 (by decide) rfl (fun c10 => ?_) (fun c10 => ?_)
      · refine g_iconst hX dM_write_17 (v := 0) (by decide) 18 rfl ?_
        refine g_istore hX (L' := [_, _, _, _, _, _, _, _]) dM_write_18 (by decide) rfl 20 rfl ?_
        refine g_iconst hX dM_write_20 (v := 0) (by decide) 21 rfl ?_
        refine g_istore hX (L' := [_, _, _, _, _, _, _, _]) dM_write_21 (by decide) rfl 23 rfl ?_
        have hg9 : (if lv < 0 then 0 else if 2 < lv then 0 else if x = 0 then 0 else 1) = (0 : Int32) := by rw [if_neg c1, if_neg c6, if_pos c10]
        have hl9 := lp_writeg (g := (if lv < 0 then 0 else if 2 < lv then 0 else if x = 0 then 0 else 1)) hX kk0 4 0 rfl
        rw [nI_0, show r_gd x (if lv < 0 then 0 else if 2 < lv then 0 else if x = 0 then 0 else 1) 0 = (if lv < 0 then 0 else if 2 < lv then 0 else if x = 0 then 0 else 1) from rfl, hg9] at hl9
        exact hl9
      · refine g_iconst hX dM_write_13 (v := 1) (by decide) 14 rfl ?_
        refine g_goto hX dM_write_14 18 (by decide) ?_
        refine g_istore hX (L' := [_, _, _, _, _, _, _, _]) dM_write_18 (by decide) rfl 20 rfl ?_
        refine g_iconst hX dM_write_20 (v := 0) (by decide) 21 rfl ?_
        refine g_istore hX (L' := [_, _, _, _, _, _, _, _]) dM_write_21 (by decide) rfl 23 rfl ?_
        have hg9 : (if lv < 0 then 0 else if 2 < lv then 0 else if x = 0 then 0 else 1) = (1 : Int32) := by rw [if_neg c1, if_neg c6, if_neg c10]
        have hl9 := lp_writeg (g := (if lv < 0 then 0 else if 2 < lv then 0 else if x = 0 then 0 else 1)) hX kk0 4 0 rfl
        rw [nI_0, show r_gd x (if lv < 0 then 0 else if 2 < lv then 0 else if x = 0 then 0 else 1) 0 = (if lv < 0 then 0 else if 2 < lv then 0 else if x = 0 then 0 else 1) from rfl, hg9] at hl9
        exact hl9
set_option maxRecDepth 100000 in
set_option maxHeartbeats 4000000 in
theorem c_M_write_2 {l : Launch} (hl : l.stackTraces = false) {E : g_E} {A : w_A} {Sc S : q_S} {h : g_H} (hW : w_W E A Sc S h) (hB : w_B S) {j : Nat} (hj : j < q_ns S) {lv x : Int32} (hg : r_gw lv x = 0) : g_Ct l mM_write 1 14 0 0 [.ref (A 30 0), .int (nI j), .int lv, .int x] E h (false, fun r h' => r = .inr (some (.int 0)) ∧ w_W E A Sc (q_up2 S 13 1 2) h') := by
  refine g_Ct.of hl (by decide) rfl (Nat.le_of_ble_eq_true rfl) ?_
  intro X hX hXl hR
  obtain ⟨hnp, hns, hne, hpar, hhome, hact⟩ := id hB
  have kk0 : g_Go E X (false, fun r h' => r = .inr (some (.int 0)) ∧ w_W E A Sc (q_up2 S 13 1 2) h') h true 0 0 63 [some (.ref (A 30 0)), some (.int (nI j)), some (.int lv), some (.int x), some (.int (r_gd x (if lv < 0 then 0 else if 2 < lv then 0 else if x = 0 then 0 else 1) 4)), none, none, none] [] := by
    refine g_aload_n hX dM_write_63 rfl rfl (by first | rfl | exact g_rfr _) 64 rfl ?_
    refine g_aload_n hX dM_write_64 rfl rfl (by first | rfl | exact g_rfr _) 65 rfl ?_
    refine g_iload_n hX dM_write_65 rfl rfl 66 rfl ?_
    refine g_cV1r (wt := 1) hX (c_M_noShape hX.tr hW.r hB _) dM_write_66 (w_m hW.r) kM_98 (g_rm.of hR (by decide) (by decide)) (by first | exact Nat.zero_le _ | (rw [hR]; decide)) (by first | exact Nat.zero_le _ | (rw [hR]; decide)) (by first | decide | (simp [Value.category])) 69 rfl ?_
    refine g_if_eq hX dM_write_69 76 72 (by decide) rfl (fun c69 => ?_) (fun c69 => ?_)
    · refine g_iload hX dM_write_76 rfl 78 rfl ?_
      refine g_if_ne hX dM_write_78 85 81 (by decide) rfl (fun c78 => ?_) (fun c78 => ?_)
      · exact absurd hg c78
      · refine g_iconst hX dM_write_81 (v := 2) (by decide) 82 rfl ?_
        refine g_goto hX dM_write_82 100 (by decide) ?_
        refine g_put0 hX dM_write_100 fM_75 (w_m hW.r) (w_baseM hW 30 (by decide) (by decide)) rfl rfl (Nat.le_of_ble_eq_true rfl) 103 rfl ?_
        refine g_stepM hW 30 (q_up2 S 13 1 _) (by decide) (by decide) w_hc13 rfl (fun h hW => ?_)
        refine g_aload_n hX dM_write_103 rfl rfl (by first | rfl | exact g_rfr _) 104 rfl ?_
        refine g_get hX dM_write_104 fM_75 (w_m hW.r) rfl 107 rfl ?_
        refine g_if_le hX dM_write_107 112 110 (by decide) rfl (fun c107 => ?_) (fun c107 => ?_)
        · exact absurd c107 (show ¬ (2 : Int32) ≤ 0 by decide)
        · refine g_iconst hX dM_write_110 (v := 0) (by decide) 111 rfl ?_
          exact g_iret hX rfl rfl dM_write_111 ⟨rfl, hW⟩ rfl (Nat.zero_le _) (Nat.zero_le _)
    · exact absurd (r_noShape_ok hB hj) c69
  show g_Go E X _ h true 0 0 0 [some (.ref (A 30 0)), some (.int (nI j)), some (.int lv), some (.int x), none, none, none, none] []
  refine g_iload_n hX dM_write_0 rfl rfl 1 rfl ?_
  refine g_if_lt hX dM_write_1 17 4 (by decide) rfl (fun c1 => ?_) (fun c1 => ?_)
  · refine g_iconst hX dM_write_17 (v := 0) (by decide) 18 rfl ?_
    refine g_istore hX (L' := [_, _, _, _, _, _, _, _]) dM_write_18 (by decide) rfl 20 rfl ?_
    refine g_iconst hX dM_write_20 (v := 0) (by decide) 21 rfl ?_
    refine g_istore hX (L' := [_, _, _, _, _, _, _, _]) dM_write_21 (by decide) rfl 23 rfl ?_
    have hg9 : (if lv < 0 then 0 else if 2 < lv then 0 else if x = 0 then 0 else 1) = (0 : Int32) := by rw [if_pos c1]
    have hl9 := lp_writeg (g := (if lv < 0 then 0 else if 2 < lv then 0 else if x = 0 then 0 else 1)) hX kk0 4 0 rfl
    rw [nI_0, show r_gd x (if lv < 0 then 0 else if 2 < lv then 0 else if x = 0 then 0 else 1) 0 = (if lv < 0 then 0 else if 2 < lv then 0 else if x = 0 then 0 else 1) from rfl, hg9] at hl9
    exact hl9
  · refine g_iload_n hX dM_write_4 rfl rfl 5 rfl ?_
    refine g_iconst hX dM_write_5 (v := 2) (by decide) 6 rfl ?_
    refine g_icmp_gt hX dM_write_6 17 9 (by decide) rfl (fun c6 => ?_) (fun c6 => ?_)
    · refine g_iconst hX dM_write_17 (v := 0) (by decide) 18 rfl ?_
      refine g_istore hX (L' := [_, _, _, _, _, _, _, _]) dM_write_18 (by decide) rfl 20 rfl ?_
      refine g_iconst hX dM_write_20 (v := 0) (by decide) 21 rfl ?_
      refine g_istore hX (L' := [_, _, _, _, _, _, _, _]) dM_write_21 (by decide) rfl 23 rfl ?_
      have hg9 : (if lv < 0 then 0 else if 2 < lv then 0 else if x = 0 then 0 else 1) = (0 : Int32) := by rw [if_neg c1, if_pos c6]
      have hl9 := lp_writeg (g := (if lv < 0 then 0 else if 2 < lv then 0 else if x = 0 then 0 else 1)) hX kk0 4 0 rfl
      rw [nI_0, show r_gd x (if lv < 0 then 0 else if 2 < lv then 0 else if x = 0 then 0 else 1) 0 = (if lv < 0 then 0 else if 2 < lv then 0 else if x = 0 then 0 else 1) from rfl, hg9] at hl9
      exact hl9
    · refine g_iload_n hX dM_write_9 rfl rfl 10 rfl ?_
      refine g_if_eq hX dM_write_10 17 13 (by decide) rfl (fun c10 => ?_) (fun c10 => ?_)
      · refine g_iconst hX dM_write_17 (v := 0) (by decide) 18 rfl ?_
        refine g_istore hX (L' := [_, _, _, _, _, _, _, _]) dM_write_18 (by decide) rfl 20 rfl ?_
        refine g_iconst hX dM_write_20 (v := 0) (by decide) 21 rfl ?_
        refine g_istore hX (L' := [_, _, _, _, _, _, _, _]) dM_write_21 (by decide) rfl 23 rfl ?_
        have hg9 : (if lv < 0 then 0 else if 2 < lv then 0 else if x = 0 then 0 else 1) = (0 : Int32) := by rw [if_neg c1, if_neg c6, if_pos c10]
        have hl9 := lp_writeg (g := (if lv < 0 then 0 else if 2 < lv then 0 else if x = 0 then 0 else 1)) hX kk0 4 0 rfl
        rw [nI_0, show r_gd x (if lv < 0 then 0 else if 2 < lv then 0 else if x = 0 then 0 else 1) 0 = (if lv < 0 then 0 else if 2 < lv then 0 else if x = 0 then 0 else 1) from rfl, hg9] at hl9
        exact hl9
      · refine g_iconst hX dM_write_13 (v := 1) (by decide) 14 rfl ?_
        refine g_goto hX dM_write_14 18 (by decide) ?_
        refine g_istore hX (L' := [_, _, _, _, _, _, _, _]) dM_write_18 (by decide) rfl 20 rfl ?_
        refine g_iconst hX dM_write_20 (v := 0) (by decide) 21 rfl ?_
        refine g_istore hX (L' := [_, _, _, _, _, _, _, _]) dM_write_21 (by decide) rfl 23 rfl ?_
        have hg9 : (if lv < 0 then 0 else if 2 < lv then 0 else if x = 0 then 0 else 1) = (1 : Int32) := by rw [if_neg c1, if_neg c6, if_neg c10]
        have hl9 := lp_writeg (g := (if lv < 0 then 0 else if 2 < lv then 0 else if x = 0 then 0 else 1)) hX kk0 4 0 rfl
        rw [nI_0, show r_gd x (if lv < 0 then 0 else if 2 < lv then 0 else if x = 0 then 0 else 1) 0 = (if lv < 0 then 0 else if 2 < lv then 0 else if x = 0 then 0 else 1) from rfl, hg9] at hl9
        exact hl9
set_option maxRecDepth 100000 in
set_option maxHeartbeats 4000000 in
theorem c_M_write_3 {l : Launch} (hl : l.stackTraces = false) {E : g_E} {A : w_A} {Sc S : q_S} {h : g_H} (hW : w_W E A Sc S h) (hB : w_B S) {j : Nat} (hj : j < q_ns S) {lv x : Int32} (hg : ¬ r_gw lv x = 0) (hn : S.1 3 j = 4) : g_Ct l mM_write 1 14 0 0 [.ref (A 30 0), .int (nI j), .int lv, .int x] E h (false, fun r h' => r = .inr (some (.int 0)) ∧ w_W E A Sc (q_up2 S 13 1 3) h') := by
  refine g_Ct.of hl (by decide) rfl (Nat.le_of_ble_eq_true rfl) ?_
  intro X hX hXl hR
  obtain ⟨hnp, hns, hne, hpar, hhome, hact⟩ := id hB
  have kk0 : g_Go E X (false, fun r h' => r = .inr (some (.int 0)) ∧ w_W E A Sc (q_up2 S 13 1 3) h') h true 0 0 63 [some (.ref (A 30 0)), some (.int (nI j)), some (.int lv), some (.int x), some (.int (r_gd x (if lv < 0 then 0 else if 2 < lv then 0 else if x = 0 then 0 else 1) 4)), none, none, none] [] := by
    refine g_aload_n hX dM_write_63 rfl rfl (by first | rfl | exact g_rfr _) 64 rfl ?_
    refine g_aload_n hX dM_write_64 rfl rfl (by first | rfl | exact g_rfr _) 65 rfl ?_
    refine g_iload_n hX dM_write_65 rfl rfl 66 rfl ?_
    refine g_cV1r (wt := 1) hX (c_M_noShape hX.tr hW.r hB _) dM_write_66 (w_m hW.r) kM_98 (g_rm.of hR (by decide) (by decide)) (by first | exact Nat.zero_le _ | (rw [hR]; decide)) (by first | exact Nat.zero_le _ | (rw [hR]; decide)) (by first | decide | (simp [Value.category])) 69 rfl ?_
    refine g_if_eq hX dM_write_69 76 72 (by decide) rfl (fun c69 => ?_) (fun c69 => ?_)
    · refine g_iload hX dM_write_76 rfl 78 rfl ?_
      refine g_if_ne hX dM_write_78 85 81 (by decide) rfl (fun c78 => ?_) (fun c78 => ?_)
      · refine g_aload_n hX dM_write_85 rfl rfl (by first | rfl | exact g_rfr _) 86 rfl ?_
        refine g_get hX dM_write_86 fM_33 (w_m hW.r) rfl 89 rfl ?_
        refine g_iload_n hX dM_write_89 rfl rfl 90 rfl ?_
        refine g_iald hX dM_write_90 (w_ar hW.r _ (by decide)) (g_ix.nat (show j < 24 by omega) (by decide)) 91 rfl ?_
        refine g_iconst hX dM_write_91 (v := 4) (by decide) 92 rfl ?_
        refine g_icmp_ne hX dM_write_92 99 95 (by decide) rfl (fun c92 => ?_) (fun c92 => ?_)
        · exact absurd (congrArg nI hn) c92
        · refine g_iconst hX dM_write_95 (v := 3) (by decide) 96 rfl ?_
          refine g_goto hX dM_write_96 100 (by decide) ?_
          refine g_put0 hX dM_write_100 fM_75 (w_m hW.r) (w_baseM hW 30 (by decide) (by decide)) rfl rfl (Nat.le_of_ble_eq_true rfl) 103 rfl ?_
          refine g_stepM hW 30 (q_up2 S 13 1 _) (by decide) (by decide) w_hc13 rfl (fun h hW => ?_)
          refine g_aload_n hX dM_write_103 rfl rfl (by first | rfl | exact g_rfr _) 104 rfl ?_
          refine g_get hX dM_write_104 fM_75 (w_m hW.r) rfl 107 rfl ?_
          refine g_if_le hX dM_write_107 112 110 (by decide) rfl (fun c107 => ?_) (fun c107 => ?_)
          · exact absurd c107 (show ¬ (3 : Int32) ≤ 0 by decide)
          · refine g_iconst hX dM_write_110 (v := 0) (by decide) 111 rfl ?_
            exact g_iret hX rfl rfl dM_write_111 ⟨rfl, hW⟩ rfl (Nat.zero_le _) (Nat.zero_le _)
      · exact absurd c78 hg
    · exact absurd (r_noShape_ok hB hj) c69
  show g_Go E X _ h true 0 0 0 [some (.ref (A 30 0)), some (.int (nI j)), some (.int lv), some (.int x), none, none, none, none] []
  refine g_iload_n hX dM_write_0 rfl rfl 1 rfl ?_
  refine g_if_lt hX dM_write_1 17 4 (by decide) rfl (fun c1 => ?_) (fun c1 => ?_)
  · refine g_iconst hX dM_write_17 (v := 0) (by decide) 18 rfl ?_
    refine g_istore hX (L' := [_, _, _, _, _, _, _, _]) dM_write_18 (by decide) rfl 20 rfl ?_
    refine g_iconst hX dM_write_20 (v := 0) (by decide) 21 rfl ?_
    refine g_istore hX (L' := [_, _, _, _, _, _, _, _]) dM_write_21 (by decide) rfl 23 rfl ?_
    have hg9 : (if lv < 0 then 0 else if 2 < lv then 0 else if x = 0 then 0 else 1) = (0 : Int32) := by rw [if_pos c1]
    have hl9 := lp_writeg (g := (if lv < 0 then 0 else if 2 < lv then 0 else if x = 0 then 0 else 1)) hX kk0 4 0 rfl
    rw [nI_0, show r_gd x (if lv < 0 then 0 else if 2 < lv then 0 else if x = 0 then 0 else 1) 0 = (if lv < 0 then 0 else if 2 < lv then 0 else if x = 0 then 0 else 1) from rfl, hg9] at hl9
    exact hl9
  · refine g_iload_n hX dM_write_4 rfl rfl 5 rfl ?_
    refine g_iconst hX dM_write_5 (v := 2) (by decide) 6 rfl ?_
    refine g_icmp_gt hX dM_write_6 17 9 (by decide) rfl (fun c6 => ?_) (fun c6 => ?_)
    · refine g_iconst hX dM_write_17 (v := 0) (by decide) 18 rfl ?_
      refine g_istore hX (L' := [_, _, _, _, _, _, _, _]) dM_write_18 (by decide) rfl 20 rfl ?_
      refine g_iconst hX dM_write_20 (v := 0) (by decide) 21 rfl ?_
      refine g_istore hX (L' := [_, _, _, _, _, _, _, _]) dM_write_21 (by decide) rfl 23 rfl ?_
      have hg9 : (if lv < 0 then 0 else if 2 < lv then 0 else if x = 0 then 0 else 1) = (0 : Int32) := by rw [if_neg c1, if_pos c6]
      have hl9 := lp_writeg (g := (if lv < 0 then 0 else if 2 < lv then 0 else if x = 0 then 0 else 1)) hX kk0 4 0 rfl
      rw [nI_0, show r_gd x (if lv < 0 then 0 else if 2 < lv then 0 else if x = 0 then 0 else 1) 0 = (if lv < 0 then 0 else if 2 < lv then 0 else if x = 0 then 0 else 1) from rfl, hg9] at hl9
      exact hl9
    · refine g_iload_n hX dM_write_9 rfl rfl 10 rfl ?_
      refine g_if_eq hX dM_write_10 17 13 (by decide) rfl (fun c10 => ?_) (fun c10 => ?_)
      · refine g_iconst hX dM_write_17 (v := 0) (by decide) 18 rfl ?_
        refine g_istore hX (L' := [_, _, _, _, _, _, _, _]) dM_write_18 (by decide) rfl 20 rfl ?_
        refine g_iconst hX dM_write_20 (v := 0) (by decide) 21 rfl ?_
        refine g_istore hX (L' := [_, _, _, _, _, _, _, _]) dM_write_21 (by decide) rfl 23 rfl ?_
        have hg9 : (if lv < 0 then 0 else if 2 < lv then 0 else if x = 0 then 0 else 1) = (0 : Int32) := by rw [if_neg c1, if_neg c6, if_pos c10]
        have hl9 := lp_writeg (g := (if lv < 0 then 0 else if 2 < lv then 0 else if x = 0 then 0 else 1)) hX kk0 4 0 rfl
        rw [nI_0, show r_gd x (if lv < 0 then 0 else if 2 < lv then 0 else if x = 0 then 0 else 1) 0 = (if lv < 0 then 0 else if 2 < lv then 0 else if x = 0 then 0 else 1) from rfl, hg9] at hl9
        exact hl9
      · refine g_iconst hX dM_write_13 (v := 1) (by decide) 14 rfl ?_
        refine g_goto hX dM_write_14 18 (by decide) ?_
        refine g_istore hX (L' := [_, _, _, _, _, _, _, _]) dM_write_18 (by decide) rfl 20 rfl ?_
        refine g_iconst hX dM_write_20 (v := 0) (by decide) 21 rfl ?_
        refine g_istore hX (L' := [_, _, _, _, _, _, _, _]) dM_write_21 (by decide) rfl 23 rfl ?_
        have hg9 : (if lv < 0 then 0 else if 2 < lv then 0 else if x = 0 then 0 else 1) = (1 : Int32) := by rw [if_neg c1, if_neg c6, if_neg c10]
        have hl9 := lp_writeg (g := (if lv < 0 then 0 else if 2 < lv then 0 else if x = 0 then 0 else 1)) hX kk0 4 0 rfl
        rw [nI_0, show r_gd x (if lv < 0 then 0 else if 2 < lv then 0 else if x = 0 then 0 else 1) 0 = (if lv < 0 then 0 else if 2 < lv then 0 else if x = 0 then 0 else 1) from rfl, hg9] at hl9
        exact hl9
set_option maxRecDepth 100000 in
set_option maxHeartbeats 4000000 in
theorem c_M_write_0 {l : Launch} (hl : l.stackTraces = false) {E : g_E} {A : w_A} {Sc S : q_S} {h : g_H} (hW : w_W E A Sc S h) (hB : w_B S) {j : Nat} (hj : j < q_ns S) {lv x : Int32} (hg : ¬ r_gw lv x = 0) (hn : S.1 3 j < 4) : g_Ct l mM_write 1 14 0 0 [.ref (A 30 0), .int (nI j), .int lv, .int x] E h (false, fun r h' => r = .inr (some (.int (nI (S.1 3 j)))) ∧ w_W E A Sc (q_up1 (q_wrs (q_up1 (q_up2 (q_up2 S 13 1 0) 5 (4 * j + S.1 3 j) lv) 4 (4 * j + S.1 3 j) 0) (4 * j + S.1 3 j) x 4) 3 j (S.1 3 j + 1)) h') := by
  refine g_Ct.of hl (by decide) rfl (Nat.le_of_ble_eq_true rfl) ?_
  intro X hX hXl hR
  obtain ⟨hnp, hns, hne, hpar, hhome, hact⟩ := id hB
  have h34 : S.1 3 j < 4 := hn
  have ht : (4 * j + S.1 3 j) < 96 := by omega
  have kk1 : ∀ h : g_H, w_W E A Sc (q_wrs (q_up1 (q_up2 (q_up2 S 13 1 0) 5 (4 * j + S.1 3 j) lv) 4 (4 * j + S.1 3 j) 0) (4 * j + S.1 3 j) x 4) h → g_Go E X (false, fun r h' => r = .inr (some (.int (nI (S.1 3 j)))) ∧ w_W E A Sc (q_up1 (q_wrs (q_up1 (q_up2 (q_up2 S 13 1 0) 5 (4 * j + S.1 3 j) lv) 4 (4 * j + S.1 3 j) 0) (4 * j + S.1 3 j) x 4) 3 j (S.1 3 j + 1)) h') h false 0 0 202 [some (.ref (A 30 0)), some (.int (nI j)), some (.int lv), some (.int x), some (.int (r_gd x (if lv < 0 then 0 else if 2 < lv then 0 else if x = 0 then 0 else 1) 4)), some (.int (nI (4 * j + S.1 3 j))), none, none] [] := by
    intro h hW
    have h13 : (q_wrs (q_up1 (q_up2 (q_up2 S 13 1 0) 5 (4 * j + S.1 3 j) lv) 4 (4 * j + S.1 3 j) 0) (4 * j + S.1 3 j) x 4).1 3 j = S.1 3 j := congrFun (q_wrs_1 _ _ _ (by decide) 4) j
    generalize q_wrs (q_up1 (q_up2 (q_up2 S 13 1 0) 5 (4 * j + S.1 3 j) lv) 4 (4 * j + S.1 3 j) 0) (4 * j + S.1 3 j) x 4 = S3 at hW h13 ⊢
    refine g_aload_n hX dM_write_202 rfl rfl (by first | rfl | exact g_rfr _) 203 rfl ?_
    refine g_get hX dM_write_203 fM_33 (w_m hW.r) rfl 206 rfl ?_
    refine g_iload_n hX dM_write_206 rfl rfl 207 rfl ?_
    refine g_dup2 hX dM_write_207 rfl rfl 208 rfl ?_
    refine g_iald hX dM_write_208 (w_ar hW.r _ (by decide)) (g_ix.nat (show j < 24 by omega) (by decide)) 209 rfl ?_
    refine g_iconst hX dM_write_209 (v := 1) (by decide) 210 rfl ?_
    refine g_iadd hX dM_write_210 211 rfl ?_
    refine g_iast hX dM_write_211 (w_ar hW.r 38 (by decide)) (w_baseM hW 38 (by decide) (by decide)) (g_ix.nat (show j < 24 by omega) (by decide)) 212 rfl ?_
    refine g_stepM hW 38 (q_up1 S3 3 j (S.1 3 j + 1)) (by decide) (by decide) w_hn3 (congrArg (g_ints E 24) ((congrArg (upd (fun i => nI (S3.1 3 i)) j) ((nI_1 _).trans (congrArg nI (congrArg (fun i => i + 1) h13)))).trans (q_updn (S3.1 3) j (S.1 3 j + 1)))) (fun h hW => ?_)
    refine g_aload_n hX dM_write_212 rfl rfl (by first | rfl | exact g_rfr _) 213 rfl ?_
    refine g_get hX dM_write_213 fM_33 (w_m hW.r) rfl 216 rfl ?_
    refine g_iload_n hX dM_write_216 rfl rfl 217 rfl ?_
    refine g_iald hX dM_write_217 (w_ar hW.r _ (by decide)) (g_ix.nat (show j < 24 by omega) (by decide)) 218 rfl ?_
    refine g_iconst hX dM_write_218 (v := 1) (by decide) 219 rfl ?_
    refine g_isub hX dM_write_219 220 rfl ?_
    exact g_iret hX rfl rfl dM_write_220 ⟨by show Sum.inr (some (Value.int (nI (if j = j then S.1 3 j + 1 else _) - 1))) = _; rw [if_pos rfl, nI_pred], hW⟩ rfl (Nat.zero_le _) (Nat.zero_le _)
  have kk0 : g_Go E X (false, fun r h' => r = .inr (some (.int (nI (S.1 3 j)))) ∧ w_W E A Sc (q_up1 (q_wrs (q_up1 (q_up2 (q_up2 S 13 1 0) 5 (4 * j + S.1 3 j) lv) 4 (4 * j + S.1 3 j) 0) (4 * j + S.1 3 j) x 4) 3 j (S.1 3 j + 1)) h') h true 0 0 63 [some (.ref (A 30 0)), some (.int (nI j)), some (.int lv), some (.int x), some (.int (r_gd x (if lv < 0 then 0 else if 2 < lv then 0 else if x = 0 then 0 else 1) 4)), none, none, none] [] := by
    refine g_aload_n hX dM_write_63 rfl rfl (by first | rfl | exact g_rfr _) 64 rfl ?_
    refine g_aload_n hX dM_write_64 rfl rfl (by first | rfl | exact g_rfr _) 65 rfl ?_
    refine g_iload_n hX dM_write_65 rfl rfl 66 rfl ?_
    refine g_cV1r (wt := 1) hX (c_M_noShape hX.tr hW.r hB _) dM_write_66 (w_m hW.r) kM_98 (g_rm.of hR (by decide) (by decide)) (by first | exact Nat.zero_le _ | (rw [hR]; decide)) (by first | exact Nat.zero_le _ | (rw [hR]; decide)) (by first | decide | (simp [Value.category])) 69 rfl ?_
    refine g_if_eq hX dM_write_69 76 72 (by decide) rfl (fun c69 => ?_) (fun c69 => ?_)
    · refine g_iload hX dM_write_76 rfl 78 rfl ?_
      refine g_if_ne hX dM_write_78 85 81 (by decide) rfl (fun c78 => ?_) (fun c78 => ?_)
      · refine g_aload_n hX dM_write_85 rfl rfl (by first | rfl | exact g_rfr _) 86 rfl ?_
        refine g_get hX dM_write_86 fM_33 (w_m hW.r) rfl 89 rfl ?_
        refine g_iload_n hX dM_write_89 rfl rfl 90 rfl ?_
        refine g_iald hX dM_write_90 (w_ar hW.r _ (by decide)) (g_ix.nat (show j < 24 by omega) (by decide)) 91 rfl ?_
        refine g_iconst hX dM_write_91 (v := 4) (by decide) 92 rfl ?_
        refine g_icmp_ne hX dM_write_92 99 95 (by decide) rfl (fun c92 => ?_) (fun c92 => ?_)
        · refine g_iconst hX dM_write_99 (v := 0) (by decide) 100 rfl ?_
          refine g_put0 hX dM_write_100 fM_75 (w_m hW.r) (w_baseM hW 30 (by decide) (by decide)) rfl rfl (Nat.le_of_ble_eq_true rfl) 103 rfl ?_
          refine g_stepM hW 30 (q_up2 S 13 1 _) (by decide) (by decide) w_hc13 rfl (fun h hW => ?_)
          refine g_aload_n hX dM_write_103 rfl rfl (by first | rfl | exact g_rfr _) 104 rfl ?_
          refine g_get hX dM_write_104 fM_75 (w_m hW.r) rfl 107 rfl ?_
          refine g_if_le hX dM_write_107 112 110 (by decide) rfl (fun c107 => ?_) (fun c107 => ?_)
          · refine g_iconst hX dM_write_112 (v := 4) (by decide) 113 rfl ?_
            refine g_iload_n hX dM_write_113 rfl rfl 114 rfl ?_
            refine g_imul hX dM_write_114 115 rfl ?_
            refine g_aload_n hX dM_write_115 rfl rfl (by first | rfl | exact g_rfr _) 116 rfl ?_
            refine g_get hX dM_write_116 fM_33 (w_m hW.r) rfl 119 rfl ?_
            refine g_iload_n hX dM_write_119 rfl rfl 120 rfl ?_
            refine g_iald hX dM_write_120 (w_ar hW.r _ (by decide)) (g_ix.nat (show j < 24 by omega) (by decide)) 121 rfl ?_
            refine g_iadd hX dM_write_121 122 rfl ?_
            refine (show g_Go E X _ h false 0 0 122 _ [.int (4 * nI j + nI (S.1 3 j))] from ?_)
            rw [q_4]
            refine g_istore hX (L' := [_, _, _, _, _, _, _, _]) dM_write_122 (by decide) rfl 124 rfl ?_
            refine g_aload_n hX dM_write_124 rfl rfl (by first | rfl | exact g_rfr _) 125 rfl ?_
            refine g_get hX dM_write_125 fM_36 (w_m hW.r) rfl 128 rfl ?_
            refine g_iload hX dM_write_128 rfl 130 rfl ?_
            refine g_iload_n hX dM_write_130 rfl rfl 131 rfl ?_
            refine g_iast hX dM_write_131 (w_ar hW.r 39 (by decide)) (w_baseM hW 39 (by decide) (by decide)) (g_ix.nat ht (by decide)) 132 rfl ?_
            refine g_stepM hW 39 (q_up2 (q_up2 S 13 1 0) 5 (4 * j + S.1 3 j) lv) (by decide) (by decide) w_hv5 rfl (fun h hW => ?_)
            refine g_aload_n hX dM_write_132 rfl rfl (by first | rfl | exact g_rfr _) 133 rfl ?_
            refine g_get hX dM_write_133 fM_39 (w_m hW.r) rfl 136 rfl ?_
            refine g_iload hX dM_write_136 rfl 138 rfl ?_
            refine g_iconst hX dM_write_138 (v := 0) (by decide) 139 rfl ?_
            refine g_iast hX dM_write_139 (w_ar hW.r 40 (by decide)) (w_baseM hW 40 (by decide) (by decide)) (g_ix.nat ht (by decide)) 140 rfl ?_
            refine g_stepM hW 40 (q_up1 (q_up2 (q_up2 S 13 1 0) 5 (4 * j + S.1 3 j) lv) 4 (4 * j + S.1 3 j) 0) (by decide) (by decide) w_hn4 (congrArg (g_ints E 96) (q_updn (S.1 4) (4 * j + S.1 3 j) 0)) (fun h hW => ?_)
            refine g_iconst hX dM_write_140 (v := 3) (by decide) 141 rfl ?_
            refine g_istore hX (L' := [_, _, _, _, _, _, _, _]) dM_write_141 (by decide) rfl 143 rfl ?_
            exact lp_writew (S := q_up1 (q_up2 (q_up2 S 13 1 0) 5 (4 * j + S.1 3 j) lv) 4 (4 * j + S.1 3 j) 0) hX ht (show (if (4 * j + S.1 3 j) = (4 * j + S.1 3 j) then 0 else S.1 4 (4 * j + S.1 3 j)) = 0 from if_pos rfl) kk1 4 0 h rfl hW
          · exact absurd (show (0 : Int32) ≤ 0 by decide) c107
        · exact absurd (q_inj (b := 4) c92 (show S.1 3 j < 2 ^ 31 by omega) (by decide)) (show ¬ S.1 3 j = 4 by omega)
      · exact absurd c78 hg
    · exact absurd (r_noShape_ok hB hj) c69
  show g_Go E X _ h true 0 0 0 [some (.ref (A 30 0)), some (.int (nI j)), some (.int lv), some (.int x), none, none, none, none] []
  refine g_iload_n hX dM_write_0 rfl rfl 1 rfl ?_
  refine g_if_lt hX dM_write_1 17 4 (by decide) rfl (fun c1 => ?_) (fun c1 => ?_)
  · refine g_iconst hX dM_write_17 (v := 0) (by decide) 18 rfl ?_
    refine g_istore hX (L' := [_, _, _, _, _, _, _, _]) dM_write_18 (by decide) rfl 20 rfl ?_
    refine g_iconst hX dM_write_20 (v := 0) (by decide) 21 rfl ?_
    refine g_istore hX (L' := [_, _, _, _, _, _, _, _]) dM_write_21 (by decide) rfl 23 rfl ?_
    have hg9 : (if lv < 0 then 0 else if 2 < lv then 0 else if x = 0 then 0 else 1) = (0 : Int32) := by rw [if_pos c1]
    have hl9 := lp_writeg (g := (if lv < 0 then 0 else if 2 < lv then 0 else if x = 0 then 0 else 1)) hX kk0 4 0 rfl
    rw [nI_0, show r_gd x (if lv < 0 then 0 else if 2 < lv then 0 else if x = 0 then 0 else 1) 0 = (if lv < 0 then 0 else if 2 < lv then 0 else if x = 0 then 0 else 1) from rfl, hg9] at hl9
    exact hl9
  · refine g_iload_n hX dM_write_4 rfl rfl 5 rfl ?_
    refine g_iconst hX dM_write_5 (v := 2) (by decide) 6 rfl ?_
    refine g_icmp_gt hX dM_write_6 17 9 (by decide) rfl (fun c6 => ?_) (fun c6 => ?_)
    · refine g_iconst hX dM_write_17 (v := 0) (by decide) 18 rfl ?_
      refine g_istore hX (L' := [_, _, _, _, _, _, _, _]) dM_write_18 (by decide) rfl 20 rfl ?_
      refine g_iconst hX dM_write_20 (v := 0) (by decide) 21 rfl ?_
      refine g_istore hX (L' := [_, _, _, _, _, _, _, _]) dM_write_21 (by decide) rfl 23 rfl ?_
      have hg9 : (if lv < 0 then 0 else if 2 < lv then 0 else if x = 0 then 0 else 1) = (0 : Int32) := by rw [if_neg c1, if_pos c6]
      have hl9 := lp_writeg (g := (if lv < 0 then 0 else if 2 < lv then 0 else if x = 0 then 0 else 1)) hX kk0 4 0 rfl
      rw [nI_0, show r_gd x (if lv < 0 then 0 else if 2 < lv then 0 else if x = 0 then 0 else 1) 0 = (if lv < 0 then 0 else if 2 < lv then 0 else if x = 0 then 0 else 1) from rfl, hg9] at hl9
      exact hl9
    · refine g_iload_n hX dM_write_9 rfl rfl 10 rfl ?_
      refine g_if_eq hX dM_write_10 17 13 (by decide) rfl (fun c10 => ?_) (fun c10 => ?_)
      · refine g_iconst hX dM_write_17 (v := 0) (by decide) 18 rfl ?_
        refine g_istore hX (L' := [_, _, _, _, _, _, _, _]) dM_write_18 (by decide) rfl 20 rfl ?_
        refine g_iconst hX dM_write_20 (v := 0) (by decide) 21 rfl ?_
        refine g_istore hX (L' := [_, _, _, _, _, _, _, _]) dM_write_21 (by decide) rfl 23 rfl ?_
        have hg9 : (if lv < 0 then 0 else if 2 < lv then 0 else if x = 0 then 0 else 1) = (0 : Int32) := by rw [if_neg c1, if_neg c6, if_pos c10]
        have hl9 := lp_writeg (g := (if lv < 0 then 0 else if 2 < lv then 0 else if x = 0 then 0 else 1)) hX kk0 4 0 rfl
        rw [nI_0, show r_gd x (if lv < 0 then 0 else if 2 < lv then 0 else if x = 0 then 0 else 1) 0 = (if lv < 0 then 0 else if 2 < lv then 0 else if x = 0 then 0 else 1) from rfl, hg9] at hl9
        exact hl9
      · refine g_iconst hX dM_write_13 (v := 1) (by decide) 14 rfl ?_
        refine g_goto hX dM_write_14 18 (by decide) ?_
        refine g_istore hX (L' := [_, _, _, _, _, _, _, _]) dM_write_18 (by decide) rfl 20 rfl ?_
        refine g_iconst hX dM_write_20 (v := 0) (by decide) 21 rfl ?_
        refine g_istore hX (L' := [_, _, _, _, _, _, _, _]) dM_write_21 (by decide) rfl 23 rfl ?_
        have hg9 : (if lv < 0 then 0 else if 2 < lv then 0 else if x = 0 then 0 else 1) = (1 : Int32) := by rw [if_neg c1, if_neg c6, if_neg c10]
        have hl9 := lp_writeg (g := (if lv < 0 then 0 else if 2 < lv then 0 else if x = 0 then 0 else 1)) hX kk0 4 0 rfl
        rw [nI_0, show r_gd x (if lv < 0 then 0 else if 2 < lv then 0 else if x = 0 then 0 else 1) 0 = (if lv < 0 then 0 else if 2 < lv then 0 else if x = 0 then 0 else 1) from rfl, hg9] at hl9
        exact hl9
