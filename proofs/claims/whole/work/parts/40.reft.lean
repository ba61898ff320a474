theorem q_nlt_le {a b : Int32} (h : ¬ b < a) : a ≤ b := by
  rw [Int32.le_iff_toInt_le]
  rw [Int32.lt_iff_toInt_lt] at h
  omega
theorem q_nlt_w {w : Nat} (h0 : 0 < w) (hw : w < 2 ^ 31) (h : nI w ≤ 0) : False := nI_nle h0 hw h
theorem w_hLa {E : g_E} {A : w_A} {S : q_S} {n : Nat} {a b c d x : Nat → Int32} : ∀ k, 30 ≤ k → k ≤ 51 → ¬ k = 48 → w_cell E A (q_wL S 14 5 (n, x, b, c, d)) k 0 = w_cell E A (q_wL S 14 5 (n, a, b, c, d)) k 0 := by
  intro k h1 h2 h3
  rcases w_tags h1 h2 with rfl | rfl | rfl | rfl | rfl | rfl | rfl | rfl | rfl | rfl | rfl | rfl | rfl | rfl | rfl | rfl | rfl | rfl | rfl | rfl | rfl | rfl <;> first | rfl | exact absurd rfl h3
theorem w_hLb {E : g_E} {A : w_A} {S : q_S} {n : Nat} {a b c d x : Nat → Int32} : ∀ k, 30 ≤ k → k ≤ 51 → ¬ k = 49 → w_cell E A (q_wL S 14 5 (n, a, x, c, d)) k 0 = w_cell E A (q_wL S 14 5 (n, a, b, c, d)) k 0 := by
  intro k h1 h2 h3
  rcases w_tags h1 h2 with rfl | rfl | rfl | rfl | rfl | rfl | rfl | rfl | rfl | rfl | rfl | rfl | rfl | rfl | rfl | rfl | rfl | rfl | rfl | rfl | rfl | rfl <;> first | rfl | exact absurd rfl h3
theorem w_hLc {E : g_E} {A : w_A} {S : q_S} {n : Nat} {a b c d x : Nat → Int32} : ∀ k, 30 ≤ k → k ≤ 51 → ¬ k = 50 → w_cell E A (q_wL S 14 5 (n, a, b, x, d)) k 0 = w_cell E A (q_wL S 14 5 (n, a, b, c, d)) k 0 := by
  intro k h1 h2 h3
  rcases w_tags h1 h2 with rfl | rfl | rfl | rfl | rfl | rfl | rfl | rfl | rfl | rfl | rfl | rfl | rfl | rfl | rfl | rfl | rfl | rfl | rfl | rfl | rfl | rfl <;> first | rfl | exact absurd rfl h3
theorem w_hLd {E : g_E} {A : w_A} {S : q_S} {n : Nat} {a b c d x : Nat → Int32} : ∀ k, 30 ≤ k → k ≤ 51 → ¬ k = 51 → w_cell E A (q_wL S 14 5 (n, a, b, c, x)) k 0 = w_cell E A (q_wL S 14 5 (n, a, b, c, d)) k 0 := by
  intro k h1 h2 h3
  rcases w_tags h1 h2 with rfl | rfl | rfl | rfl | rfl | rfl | rfl | rfl | rfl | rfl | rfl | rfl | rfl | rfl | rfl | rfl | rfl | rfl | rfl | rfl | rfl | rfl <;> first | rfl | exact absurd rfl h3
theorem w_hLn {E : g_E} {A : w_A} {S : q_S} {n m : Nat} {r : (Nat → Int32) × (Nat → Int32) × (Nat → Int32) × (Nat → Int32)} : ∀ k, 30 ≤ k → k ≤ 51 → ¬ k = 30 → w_cell E A (q_wL S 14 5 (m, r)) k 0 = w_cell E A (q_wL S 14 5 (n, r)) k 0 := by
  intro k h1 h2 h3
  rcases w_tags h1 h2 with rfl | rfl | rfl | rfl | rfl | rfl | rfl | rfl | rfl | rfl | rfl | rfl | rfl | rfl | rfl | rfl | rfl | rfl | rfl | rfl | rfl | rfl <;> first | rfl | exact absurd rfl h3
theorem q_dec (n : Nat) : nI (n + 1) + Int32.ofInt (-1) = nI n := by
  rw [← nI_1, Int32.add_assoc]
  exact Int32.add_zero _
set_option maxRecDepth 100000 in
set_option maxHeartbeats 4000000 in
theorem lp_breakw {E : g_E} {A : w_A} {Sc S : q_S} (hB : w_B S) (hT : ∀ t, S.1 4 t ≤ 4) {X : g_X} (hX : g_ok E X mM_breakText) (hR : X.R = { frames := 3, cells := 0, slots := 0, locals := 46 }) {j : Nat} (hj : j < q_ns S) {s : Int32} {L L0 : q_L} {k : Nat} (hk : k < 4) (hL0 : L0.1 ≤ 12)
    (kk : ∀ h : g_H, w_W E A Sc (q_wL S 14 5 (q_pg S j s k (S.1 4 (4 * j + k)) L0)) h → g_Go E X (false, fun r' h' => r' = .inr none ∧ w_W E A Sc (q_wL S 14 5 (q_tx S j s (S.1 3 j) L)) h') h false 0 0 222 [some (.ref (A 30 0)), some (.int (nI j)), some (.int s), some (.int (q_value S j 2)), some (.int (nI k)), some (.int (nI (4 * j + k))), some (.int (q_room S j s k)), some (.int (nI (S.1 4 (4 * j + k)))), none, none] []) :
    ∀ (r w : Nat) (h : g_H), w + r = S.1 4 (4 * j + k) → w_W E A Sc (q_wL S 14 5 (q_pg S j s k w L0)) h → g_Go E X (false, fun r' h' => r' = .inr none ∧ w_W E A Sc (q_wL S 14 5 (q_tx S j s (S.1 3 j) L)) h') h false 0 0 52 [some (.ref (A 30 0)), some (.int (nI j)), some (.int s), some (.int (q_value S j 2)), some (.int (nI k)), some (.int (nI (4 * j + k))), some (.int (q_room S j s k)), some (.int (nI w)), none, none] [] := by
  obtain ⟨hnp, hns, hne, hpar, hhome, hact⟩ := id hB
  have hT4 := hT (4 * j + k)
  intro r
  induction r with
  | zero =>
    intro w h hw hW
    have hw2 : w = S.1 4 (4 * j + k) := by omega
    subst hw2
    refine g_iload hX dM_breakText_52 rfl 54 rfl ?_
    refine g_aload_n hX dM_breakText_54 rfl rfl (by first | rfl | exact g_rfr _) 55 rfl ?_
    refine g_get hX dM_breakText_55 fM_39 (w_m hW.r) rfl 58 rfl ?_
    refine g_iload hX dM_breakText_58 rfl 60 rfl ?_
    refine g_iald hX dM_breakText_60 (w_ar hW.r _ (by decide)) (g_ix.nat (show 4 * j + k < 96 by omega) (by decide)) 61 rfl ?_
    refine g_icmp_ge hX dM_breakText_61 222 64 (by decide) rfl (fun c61 => ?_) (fun c61 => ?_)
    · exact kk h hW
    · exact absurd (show nI (S.1 4 (4 * j + k)) ≤ nI (S.1 4 (4 * j + k)) from nI_le (Nat.le_refl _) (by omega)) c61
  | succ r ih =>
    intro w h hw hW
    have hle := q_pg_le S j s k L0 w
    have hpos := q_pg_pos S j s k L0 w
    have hst : ∀ L', q_pg S j s k w L0 = L' → q_pg S j s k (w + 1) L0 = q_wd s (q_room S j s k) k w (s * S.2 6 (4 * (4 * j + k) + w)) L' := fun L' q => by rw [q_pg, q]
    generalize hq : q_pg S j s k w L0 = L' at hW hle hpos hst
    obtain ⟨n, a, b, c, d⟩ := L'
    have hst2 := hst _ rfl
    unfold q_wd at hst2
    have hle2 : n ≤ L0.1 + w := hle
    refine g_iload hX dM_breakText_52 rfl 54 rfl ?_
    refine g_aload_n hX dM_breakText_54 rfl rfl (by first | rfl | exact g_rfr _) 55 rfl ?_
    refine g_get hX dM_breakText_55 fM_39 (w_m hW.r) rfl 58 rfl ?_
    refine g_iload hX dM_breakText_58 rfl 60 rfl ?_
    refine g_iald hX dM_breakText_60 (w_ar hW.r _ (by decide)) (g_ix.nat (show 4 * j + k < 96 by omega) (by decide)) 61 rfl ?_
    refine g_icmp_ge hX dM_breakText_61 222 64 (by decide) rfl (fun c61 => ?_) (fun c61 => ?_)
    · exact absurd (show nI (S.1 4 (4 * j + k)) ≤ nI w from c61) (nI_ge (by omega) (by omega))
    · refine g_iload_n hX dM_breakText_64 rfl rfl 65 rfl ?_
      refine g_aload_n hX dM_breakText_65 rfl rfl (by first | rfl | exact g_rfr _) 66 rfl ?_
      refine g_get hX dM_breakText_66 fM_42 (w_m hW.r) rfl 69 rfl ?_
      refine g_iconst hX dM_breakText_69 (v := 4) (by decide) 70 rfl ?_
      refine g_iload hX dM_breakText_70 rfl 72 rfl ?_
      refine g_imul hX dM_breakText_72 73 rfl ?_
      refine g_iload hX dM_breakText_73 rfl 75 rfl ?_
      refine g_iadd hX dM_breakText_75 76 rfl ?_
      refine g_iald hX dM_breakText_76 (w_ar hW.r _ (by decide)) (g_ix.eq (q_4 (4 * j + k) w) (show 4 * (4 * j + k) + w < 384 by omega) (by decide)) 77 rfl ?_
      refine g_imul hX dM_breakText_77 78 rfl ?_
      refine g_istore hX (L' := [_, _, _, _, _, _, _, _, _, _]) dM_breakText_78 (by decide) rfl 80 rfl ?_
      refine g_iload hX dM_breakText_80 rfl 82 rfl ?_
      refine g_if_le hX dM_breakText_82 110 85 (by decide) rfl (fun c82 => ?_) (fun c82 => ?_)
      · refine g_iconst hX dM_breakText_110 (v := 0) (by decide) 111 rfl ?_
        refine g_istore hX (L' := [_, _, _, _, _, _, _, _, _, _]) dM_breakText_111 (by decide) rfl 113 rfl ?_
        refine g_iload hX dM_breakText_113 rfl 115 rfl ?_
        refine g_if_eq hX dM_breakText_115 163 118 (by decide) rfl (fun c115 => ?_) (fun c115 => ?_)
        · refine g_aload_n hX dM_breakText_163 rfl rfl (by first | rfl | exact g_rfr _) 164 rfl ?_
          refine g_get hX dM_breakText_164 fM_63 (w_m hW.r) rfl 167 rfl ?_
          refine g_aload_n hX dM_breakText_167 rfl rfl (by first | rfl | exact g_rfr _) 168 rfl ?_
          refine g_get hX dM_breakText_168 fM_110 (w_m hW.r) rfl 171 rfl ?_
          refine g_iload hX dM_breakText_171 rfl 173 rfl ?_
          refine g_iast hX dM_breakText_173 (w_ar hW.r 48 (by decide)) (w_baseM hW 48 (by decide) (by decide)) (g_ix.nat (show n < 16 by omega) (by decide)) 174 rfl ?_
          refine g_stepM hW 48 (q_wL S 14 5 (n, upd a n (nI k), b, c, d)) (by decide) (by decide) w_hLa rfl (fun h hW => ?_)
          refine g_aload_n hX dM_breakText_174 rfl rfl (by first | rfl | exact g_rfr _) 175 rfl ?_
          refine g_get hX dM_breakText_175 fM_66 (w_m hW.r) rfl 178 rfl ?_
          refine g_aload_n hX dM_breakText_178 rfl rfl (by first | rfl | exact g_rfr _) 179 rfl ?_
          refine g_get hX dM_breakText_179 fM_110 (w_m hW.r) rfl 182 rfl ?_
          refine g_iload hX dM_breakText_182 rfl 184 rfl ?_
          refine g_iast hX dM_breakText_184 (w_ar hW.r 49 (by decide)) (w_baseM hW 49 (by decide) (by decide)) (g_ix.nat (show n < 16 by omega) (by decide)) 185 rfl ?_
          refine g_stepM hW 49 (q_wL S 14 5 (n, upd a n (nI k), upd b n (nI w), c, d)) (by decide) (by decide) w_hLb rfl (fun h hW => ?_)
          refine g_aload_n hX dM_breakText_185 rfl rfl (by first | rfl | exact g_rfr _) 186 rfl ?_
          refine g_get hX dM_breakText_186 fM_69 (w_m hW.r) rfl 189 rfl ?_
          refine g_aload_n hX dM_breakText_189 rfl rfl (by first | rfl | exact g_rfr _) 190 rfl ?_
          refine g_get hX dM_breakText_190 fM_110 (w_m hW.r) rfl 193 rfl ?_
          refine g_iconst hX dM_breakText_193 (v := 1) (by decide) 194 rfl ?_
          refine g_iast hX dM_breakText_194 (w_ar hW.r 50 (by decide)) (w_baseM hW 50 (by decide) (by decide)) (g_ix.nat (show n < 16 by omega) (by decide)) 195 rfl ?_
          refine g_stepM hW 50 (q_wL S 14 5 (n, upd a n (nI k), upd b n (nI w), upd c n 1, d)) (by decide) (by decide) w_hLc rfl (fun h hW => ?_)
          refine g_aload_n hX dM_breakText_195 rfl rfl (by first | rfl | exact g_rfr _) 196 rfl ?_
          refine g_get hX dM_breakText_196 fM_72 (w_m hW.r) rfl 199 rfl ?_
          refine g_aload_n hX dM_breakText_199 rfl rfl (by first | rfl | exact g_rfr _) 200 rfl ?_
          refine g_get hX dM_breakText_200 fM_110 (w_m hW.r) rfl 203 rfl ?_
          refine g_iload hX dM_breakText_203 rfl 205 rfl ?_
          refine g_iast hX dM_breakText_205 (w_ar hW.r 51 (by decide)) (w_baseM hW 51 (by decide) (by decide)) (g_ix.nat (show n < 16 by omega) (by decide)) 206 rfl ?_
          refine g_stepM hW 51 (q_wL S 14 5 (n, upd a n (nI k), upd b n (nI w), upd c n 1, upd d n (s * S.2 6 (4 * (4 * j + k) + w)))) (by decide) (by decide) w_hLd rfl (fun h hW => ?_)
          refine g_aload_n hX dM_breakText_206 rfl rfl (by first | rfl | exact g_rfr _) 207 rfl ?_
          refine g_dup hX dM_breakText_207 rfl 208 rfl ?_
          refine g_get hX dM_breakText_208 fM_110 (w_m hW.r) rfl 211 rfl ?_
          refine g_iconst hX dM_breakText_211 (v := 1) (by decide) 212 rfl ?_
          refine g_iadd hX dM_breakText_212 213 rfl ?_
          refine g_put0 hX dM_breakText_213 fM_110 (w_m hW.r) (w_baseM hW 30 (by decide) (by decide)) rfl rfl (Nat.le_of_ble_eq_true rfl) 216 rfl ?_
          refine g_stepM hW 30 (q_wL S 14 5 (n + 1, upd a n (nI k), upd b n (nI w), upd c n 1, upd d n (s * S.2 6 (4 * (4 * j + k) + w)))) (by decide) (by decide) w_hLn (by rw [nI_1]; rfl) (fun h hW => ?_)
          refine g_iinc hX (L' := [_, _, _, _, _, _, _, _, _, _]) dM_breakText_216 rfl (q_inc _) rfl 219 rfl ?_
          refine g_goto hX dM_breakText_219 52 (by decide) ?_
          rw [if_neg (fun q => q_nlt_w q.1 (by omega) c82)] at hst2
          refine g_drop (L' := [_, _, _, _, _, _, _, _, none, _]) 8 rfl ?_
          refine g_drop (L' := [_, _, _, _, _, _, _, _, _, none]) 9 rfl ?_
          exact ih (w + 1) h (by omega) (by rw [hst2]; exact hW)
        · exact absurd rfl c115
      · have hw0 : 0 < w := Nat.pos_of_ne_zero (fun q => c82 (by subst q; decide))
        obtain ⟨m, rfl⟩ : ∃ m, n = m + 1 := ⟨n - 1, by have := hpos hw0; omega⟩
        refine g_aload_n hX dM_breakText_85 rfl rfl rfl 86 rfl ?_
        refine g_get hX dM_breakText_86 fM_72 (w_m hW.r) rfl 89 rfl ?_
        refine g_aload_n hX dM_breakText_89 rfl rfl (by first | rfl | exact g_rfr _) 90 rfl ?_
        refine g_get hX dM_breakText_90 fM_110 (w_m hW.r) rfl 93 rfl ?_
        refine g_iconst hX dM_breakText_93 (v := 1) (by decide) 94 rfl ?_
        refine g_isub hX dM_breakText_94 95 rfl ?_
        refine g_iald hX dM_breakText_95 (w_ar hW.r _ (by decide)) (g_ix.eq (nI_pred m) (show m < 16 by omega) (by decide)) 96 rfl ?_
        refine g_iload_n hX dM_breakText_96 rfl rfl 97 rfl ?_
        refine g_iadd hX dM_breakText_97 98 rfl ?_
        refine g_iload hX dM_breakText_98 rfl 100 rfl ?_
        refine g_iadd hX dM_breakText_100 101 rfl ?_
        refine g_iload hX dM_breakText_101 rfl 103 rfl ?_
        refine g_icmp_gt hX dM_breakText_103 110 106 (by decide) rfl (fun c103 => ?_) (fun c103 => ?_)
        · refine g_iconst hX dM_breakText_110 (v := 0) (by decide) 111 rfl ?_
          refine g_istore hX (L' := [_, _, _, _, _, _, _, _, _, _]) dM_breakText_111 (by decide) rfl 113 rfl ?_
          refine g_iload hX dM_breakText_113 rfl 115 rfl ?_
          refine g_if_eq hX dM_breakText_115 163 118 (by decide) rfl (fun c115 => ?_) (fun c115 => ?_)
          · refine g_aload_n hX dM_breakText_163 rfl rfl (by first | rfl | exact g_rfr _) 164 rfl ?_
            refine g_get hX dM_breakText_164 fM_63 (w_m hW.r) rfl 167 rfl ?_
            refine g_aload_n hX dM_breakText_167 rfl rfl (by first | rfl | exact g_rfr _) 168 rfl ?_
            refine g_get hX dM_breakText_168 fM_110 (w_m hW.r) rfl 171 rfl ?_
            refine g_iload hX dM_breakText_171 rfl 173 rfl ?_
            refine g_iast hX dM_breakText_173 (w_ar hW.r 48 (by decide)) (w_baseM hW 48 (by decide) (by decide)) (g_ix.nat (show m + 1 < 16 by omega) (by decide)) 174 rfl ?_
            refine g_stepM hW 48 (q_wL S 14 5 (m + 1, upd a (m + 1) (nI k), b, c, d)) (by decide) (by decide) w_hLa rfl (fun h hW => ?_)
            refine g_aload_n hX dM_breakText_174 rfl rfl (by first | rfl | exact g_rfr _) 175 rfl ?_
            refine g_get hX dM_breakText_175 fM_66 (w_m hW.r) rfl 178 rfl ?_
            refine g_aload_n hX dM_breakText_178 rfl rfl (by first | rfl | exact g_rfr _) 179 rfl ?_
            refine g_get hX dM_breakText_179 fM_110 (w_m hW.r) rfl 182 rfl ?_
            refine g_iload hX dM_breakText_182 rfl 184 rfl ?_
            refine g_iast hX dM_breakText_184 (w_ar hW.r 49 (by decide)) (w_baseM hW 49 (by decide) (by decide)) (g_ix.nat (show m + 1 < 16 by omega) (by decide)) 185 rfl ?_
            refine g_stepM hW 49 (q_wL S 14 5 (m + 1, upd a (m + 1) (nI k), upd b (m + 1) (nI w), c, d)) (by decide) (by decide) w_hLb rfl (fun h hW => ?_)
            refine g_aload_n hX dM_breakText_185 rfl rfl (by first | rfl | exact g_rfr _) 186 rfl ?_
            refine g_get hX dM_breakText_186 fM_69 (w_m hW.r) rfl 189 rfl ?_
            refine g_aload_n hX dM_breakText_189 rfl rfl (by first | rfl | exact g_rfr _) 190 rfl ?_
            refine g_get hX dM_breakText_190 fM_110 (w_m hW.r) rfl 193 rfl ?_
            refine g_iconst hX dM_breakText_193 (v := 1) (by decide) 194 rfl ?_
            refine g_iast hX dM_breakText_194 (w_ar hW.r 50 (by decide)) (w_baseM hW 50 (by decide) (by decide)) (g_ix.nat (show m + 1 < 16 by omega) (by decide)) 195 rfl ?_
            refine g_stepM hW 50 (q_wL S 14 5 (m + 1, upd a (m + 1) (nI k), upd b (m + 1) (nI w), upd c (m + 1) 1, d)) (by decide) (by decide) w_hLc rfl (fun h hW => ?_)
            refine g_aload_n hX dM_breakText_195 rfl rfl (by first | rfl | exact g_rfr _) 196 rfl ?_
            refine g_get hX dM_breakText_196 fM_72 (w_m hW.r) rfl 199 rfl ?_
            refine g_aload_n hX dM_breakText_199 rfl rfl (by first | rfl | exact g_rfr _) 200 rfl ?_
            refine g_get hX dM_breakText_200 fM_110 (w_m hW.r) rfl 203 rfl ?_
            refine g_iload hX dM_breakText_203 rfl 205 rfl ?_
            refine g_iast hX dM_breakText_205 (w_ar hW.r 51 (by decide)) (w_baseM hW 51 (by decide) (by decide)) (g_ix.nat (show m + 1 < 16 by omega) (by decide)) 206 rfl ?_
            refine g_stepM hW 51 (q_wL S 14 5 (m + 1, upd a (m + 1) (nI k), upd b (m + 1) (nI w), upd c (m + 1) 1, upd d (m + 1) (s * S.2 6 (4 * (4 * j + k) + w)))) (by decide) (by decide) w_hLd rfl (fun h hW => ?_)
            refine g_aload_n hX dM_breakText_206 rfl rfl (by first | rfl | exact g_rfr _) 207 rfl ?_
            refine g_dup hX dM_breakText_207 rfl 208 rfl ?_
            refine g_get hX dM_breakText_208 fM_110 (w_m hW.r) rfl 211 rfl ?_
            refine g_iconst hX dM_breakText_211 (v := 1) (by decide) 212 rfl ?_
            refine g_iadd hX dM_breakText_212 213 rfl ?_
            refine g_put0 hX dM_breakText_213 fM_110 (w_m hW.r) (w_baseM hW 30 (by decide) (by decide)) rfl rfl (Nat.le_of_ble_eq_true rfl) 216 rfl ?_
            refine g_stepM hW 30 (q_wL S 14 5 (m + 1 + 1, upd a (m + 1) (nI k), upd b (m + 1) (nI w), upd c (m + 1) 1, upd d (m + 1) (s * S.2 6 (4 * (4 * j + k) + w)))) (by decide) (by decide) w_hLn (by rw [nI_1]; rfl) (fun h hW => ?_)
            refine g_iinc hX (L' := [_, _, _, _, _, _, _, _, _, _]) dM_breakText_216 rfl (q_inc _) rfl 219 rfl ?_
            refine g_goto hX dM_breakText_219 52 (by decide) ?_
            rw [if_neg (fun q => q_lt_nle c103 q.2)] at hst2
            refine g_drop (L' := [_, _, _, _, _, _, _, _, none, _]) 8 rfl ?_
            refine g_drop (L' := [_, _, _, _, _, _, _, _, _, none]) 9 rfl ?_
            exact ih (w + 1) h (by omega) (by rw [hst2]; exact hW)
          · exact absurd rfl c115
        · refine g_iconst hX dM_breakText_106 (v := 1) (by decide) 107 rfl ?_
          refine g_goto hX dM_breakText_107 111 (by decide) ?_
          refine g_istore hX (L' := [_, _, _, _, _, _, _, _, _, _]) dM_breakText_111 (by decide) rfl 113 rfl ?_
          refine g_iload hX dM_breakText_113 rfl 115 rfl ?_
          refine g_if_eq hX dM_breakText_115 163 118 (by decide) rfl (fun c115 => ?_) (fun c115 => ?_)
          · exact absurd c115 (by decide)
          · refine g_aload_n hX dM_breakText_118 rfl rfl (by first | rfl | exact g_rfr _) 119 rfl ?_
            refine g_get hX dM_breakText_119 fM_72 (w_m hW.r) rfl 122 rfl ?_
            refine g_aload_n hX dM_breakText_122 rfl rfl (by first | rfl | exact g_rfr _) 123 rfl ?_
            refine g_get hX dM_breakText_123 fM_110 (w_m hW.r) rfl 126 rfl ?_
            refine g_iconst hX dM_breakText_126 (v := 1) (by decide) 127 rfl ?_
            refine g_isub hX dM_breakText_127 128 rfl ?_
            refine g_aload_n hX dM_breakText_128 rfl rfl (by first | rfl | exact g_rfr _) 129 rfl ?_
            refine g_get hX dM_breakText_129 fM_72 (w_m hW.r) rfl 132 rfl ?_
            refine g_aload_n hX dM_breakText_132 rfl rfl (by first | rfl | exact g_rfr _) 133 rfl ?_
            refine g_get hX dM_breakText_133 fM_110 (w_m hW.r) rfl 136 rfl ?_
            refine g_iconst hX dM_breakText_136 (v := 1) (by decide) 137 rfl ?_
            refine g_isub hX dM_breakText_137 138 rfl ?_
            refine g_iald hX dM_breakText_138 (w_ar hW.r _ (by decide)) (g_ix.eq (nI_pred m) (show m < 16 by omega) (by decide)) 139 rfl ?_
            refine g_iload_n hX dM_breakText_139 rfl rfl 140 rfl ?_
            refine g_iadd hX dM_breakText_140 141 rfl ?_
            refine g_iload hX dM_breakText_141 rfl 143 rfl ?_
            refine g_iadd hX dM_breakText_143 144 rfl ?_
            refine g_iast hX dM_breakText_144 (w_ar hW.r 51 (by decide)) (w_baseM hW 51 (by decide) (by decide)) (g_ix.eq (nI_pred m) (show m < 16 by omega) (by decide)) 145 rfl ?_
            refine g_stepM hW 51 (q_wL S 14 5 (m + 1, a, b, c, upd d m (d m + s + (s * S.2 6 (4 * (4 * j + k) + w))))) (by decide) (by decide) w_hLd rfl (fun h hW => ?_)
            refine g_aload_n hX dM_breakText_145 rfl rfl (by first | rfl | exact g_rfr _) 146 rfl ?_
            refine g_get hX dM_breakText_146 fM_69 (w_m hW.r) rfl 149 rfl ?_
            refine g_aload_n hX dM_breakText_149 rfl rfl (by first | rfl | exact g_rfr _) 150 rfl ?_
            refine g_get hX dM_breakText_150 fM_110 (w_m hW.r) rfl 153 rfl ?_
            refine g_iconst hX dM_breakText_153 (v := 1) (by decide) 154 rfl ?_
            refine g_isub hX dM_breakText_154 155 rfl ?_
            refine g_dup2 hX dM_breakText_155 rfl rfl 156 rfl ?_
            refine g_iald hX dM_breakText_156 (w_ar hW.r _ (by decide)) (g_ix.eq (nI_pred m) (show m < 16 by omega) (by decide)) 157 rfl ?_
            refine g_iconst hX dM_breakText_157 (v := 1) (by decide) 158 rfl ?_
            refine g_iadd hX dM_breakText_158 159 rfl ?_
            refine g_iast hX dM_breakText_159 (w_ar hW.r 50 (by decide)) (w_baseM hW 50 (by decide) (by decide)) (g_ix.eq (nI_pred m) (show m < 16 by omega) (by decide)) 160 rfl ?_
            refine g_stepM hW 50 (q_wL S 14 5 (m + 1, a, b, upd c m (c m + 1), upd d m (d m + s + (s * S.2 6 (4 * (4 * j + k) + w))))) (by decide) (by decide) w_hLc rfl (fun h hW => ?_)
            refine g_goto hX dM_breakText_160 216 (by decide) ?_
            refine g_iinc hX (L' := [_, _, _, _, _, _, _, _, _, _]) dM_breakText_216 rfl (q_inc _) rfl 219 rfl ?_
            refine g_goto hX dM_breakText_219 52 (by decide) ?_
            rw [if_pos ⟨hw0, show d m + s + (s * S.2 6 (4 * (4 * j + k) + w)) ≤ q_room S j s k from q_nlt_le c103⟩] at hst2
            refine g_drop (L' := [_, _, _, _, _, _, _, _, none, _]) 8 rfl ?_
            refine g_drop (L' := [_, _, _, _, _, _, _, _, _, none]) 9 rfl ?_
            exact ih (w + 1) h (by omega) (by rw [hst2]; exact hW)
set_option maxRecDepth 100000 in
set_option maxHeartbeats 4000000 in
theorem lp_breakk {E : g_E} {A : w_A} {Sc S : q_S} (hB : w_B S) (hT : ∀ t, S.1 4 t ≤ 4) {X : g_X} (hX : g_ok E X mM_breakText) (hR : X.R = { frames := 3, cells := 0, slots := 0, locals := 46 }) {j : Nat} (hj : j < q_ns S) {s : Int32} {L : q_L} :
    ∀ (r k : Nat) (h : g_H), k + r = S.1 3 j → w_W E A Sc (q_wL S 14 5 (q_tx S j s k L)) h → g_Go E X (false, fun r' h' => r' = .inr none ∧ w_W E A Sc (q_wL S 14 5 (q_tx S j s (S.1 3 j) L)) h') h false 0 0 15 [some (.ref (A 30 0)), some (.int (nI j)), some (.int s), some (.int (q_value S j 2)), some (.int (nI k)), none, none, none, none, none] [] := by
  obtain ⟨hnp, hns, hne, hpar, hhome, hact⟩ := id hB
  have h34 : S.1 3 j ≤ 4 := (hhome j hj).2
  intro r
  induction r with
  | zero =>
    intro k h hk hW
    have hk2 : k = S.1 3 j := by omega
    subst hk2
    refine g_iload hX dM_breakText_15 rfl 17 rfl ?_
    refine g_aload_n hX dM_breakText_17 rfl rfl (by first | rfl | exact g_rfr _) 18 rfl ?_
    refine g_get hX dM_breakText_18 fM_33 (w_m hW.r) rfl 21 rfl ?_
    refine g_iload_n hX dM_breakText_21 rfl rfl 22 rfl ?_
    refine g_iald hX dM_breakText_22 (w_ar hW.r _ (by decide)) (g_ix.nat (show j < 24 by omega) (by decide)) 23 rfl ?_
    refine g_icmp_ge hX dM_breakText_23 228 26 (by decide) rfl (fun c23 => ?_) (fun c23 => ?_)
    · exact g_vret hX rfl dM_breakText_228 ⟨rfl, hW⟩ rfl (Nat.zero_le _) (Nat.zero_le _)
    · exact absurd (show nI (S.1 3 j) ≤ nI (S.1 3 j) from nI_le (Nat.le_refl _) (by omega)) c23
  | succ r ih =>
    intro k h hk hW
    have htl := q_tx_le S j s L hT k
    refine g_iload hX dM_breakText_15 rfl 17 rfl ?_
    refine g_aload_n hX dM_breakText_17 rfl rfl (by first | rfl | exact g_rfr _) 18 rfl ?_
    refine g_get hX dM_breakText_18 fM_33 (w_m hW.r) rfl 21 rfl ?_
    refine g_iload_n hX dM_breakText_21 rfl rfl 22 rfl ?_
    refine g_iald hX dM_breakText_22 (w_ar hW.r _ (by decide)) (g_ix.nat (show j < 24 by omega) (by decide)) 23 rfl ?_
    refine g_icmp_ge hX dM_breakText_23 228 26 (by decide) rfl (fun c23 => ?_) (fun c23 => ?_)
    · exact absurd (show nI (S.1 3 j) ≤ nI k from c23) (nI_ge (by omega) (by omega))
    · refine g_iconst hX dM_breakText_26 (v := 4) (by decide) 27 rfl ?_
      refine g_iload_n hX dM_breakText_27 rfl rfl 28 rfl ?_
      refine g_imul hX dM_breakText_28 29 rfl ?_
      refine g_iload hX dM_breakText_29 rfl 31 rfl ?_
      refine g_iadd hX dM_breakText_31 32 rfl ?_
      rw [q_4]
      refine g_istore hX (L' := [_, _, _, _, _, _, _, _, _, _]) dM_breakText_32 (by decide) rfl 34 rfl ?_
      refine g_iload_n hX dM_breakText_34 rfl rfl 35 rfl ?_
      refine g_iconst hX dM_breakText_35 (v := 2) (by decide) 36 rfl ?_
      refine g_iload_n hX dM_breakText_36 rfl rfl 37 rfl ?_
      refine g_imul hX dM_breakText_37 38 rfl ?_
      refine g_aload_n hX dM_breakText_38 rfl rfl (by first | rfl | exact g_rfr _) 39 rfl ?_
      refine g_get hX dM_breakText_39 fM_36 (w_m hW.r) rfl 42 rfl ?_
      refine g_iload hX dM_breakText_42 rfl 44 rfl ?_
      refine g_iald hX dM_breakText_44 (w_ar hW.r _ (by decide)) (g_ix.nat (show 4 * j + k < 96 by omega) (by decide)) 45 rfl ?_
      refine g_imul hX dM_breakText_45 46 rfl ?_
      refine g_isub hX dM_breakText_46 47 rfl ?_
      refine g_istore hX (L' := [_, _, _, _, _, _, _, _, _, _]) dM_breakText_47 (by decide) rfl 49 rfl ?_
      refine g_iconst hX dM_breakText_49 (v := 0) (by decide) 50 rfl ?_
      refine g_istore hX (L' := [_, _, _, _, _, _, _, _, _, _]) dM_breakText_50 (by decide) rfl 52 rfl ?_
      refine (fun hlp => ?_ : (∀ h : g_H, w_W E A Sc (q_wL S 14 5 (q_pg S j s k (S.1 4 (4 * j + k)) (q_tx S j s k L))) h → g_Go E X (false, fun r' h' => r' = .inr none ∧ w_W E A Sc (q_wL S 14 5 (q_tx S j s (S.1 3 j) L)) h') h false 0 0 222 [some (.ref (A 30 0)), some (.int (nI j)), some (.int s), some (.int (q_value S j 2)), some (.int (nI k)), some (.int (nI (4 * j + k))), some (.int (q_room S j s k)), some (.int (nI (S.1 4 (4 * j + k)))), none, none] []) → _) ?_
      · have hl2 := lp_breakw (L := L) (L0 := q_tx S j s k L) hB hT hX hR hj (s := s) (k := k) (by omega) (by omega) hlp (S.1 4 (4 * j + k)) 0 h (by omega) hW
        rw [nI_0] at hl2
        exact hl2
      · intro h hW
        refine g_iinc hX (L' := [_, _, _, _, _, _, _, _, _, _]) dM_breakText_222 rfl (q_inc _) rfl 225 rfl ?_
        refine g_goto hX dM_breakText_225 15 (by decide) ?_
        refine g_drop (L' := [_, _, _, _, _, none, _, _, _, _]) 5 rfl ?_
        refine g_drop (L' := [_, _, _, _, _, _, none, _, _, _]) 6 rfl ?_
        refine g_drop (L' := [_, _, _, _, _, _, _, none, _, _]) 7 rfl ?_
        exact ih (k + 1) h (by omega) hW
set_option maxRecDepth 100000 in
set_option maxHeartbeats 4000000 in
theorem c_M_breakText {l : Launch} (hl : l.stackTraces = false) {E : g_E} {A : w_A} {Sc S : q_S} {h : g_H} {L : q_L} (hW : w_W E A Sc (q_wL S 14 5 L) h) (hB : w_B S) (hT : ∀ t, S.1 4 t ≤ 4) {j : Nat} (hj : j < q_ns S) (s : Int32) : g_Ct l mM_breakText 3 46 0 0 [.ref (A 30 0), .int (nI j), .int s] E h (false, fun r' h' => r' = .inr none ∧ w_W E A Sc (q_wL S 14 5 (q_tx S j s (S.1 3 j) L)) h') := by
  refine g_Ct.of hl (by decide) rfl (Nat.le_of_ble_eq_true rfl) ?_
  intro X hX hXl hR
  obtain ⟨n, L⟩ := L
  show g_Go E X _ h true 0 0 0 [some (.ref (A 30 0)), some (.int (nI j)), some (.int s), none, none, none, none, none, none, none] []
  refine g_aload_n hX dM_breakText_0 rfl rfl (by first | rfl | exact g_rfr _) 1 rfl ?_
  refine g_iconst hX dM_breakText_1 (v := 0) (by decide) 2 rfl ?_
  refine g_put0 hX dM_breakText_2 fM_110 (w_m hW.r) (w_baseM hW 30 (by decide) (by decide)) rfl rfl (Nat.le_of_ble_eq_true rfl) 5 rfl ?_
  refine g_stepM hW 30 (q_wL S 14 5 (0, L)) (by decide) (by decide) w_hLn (rfl) (fun h hW => ?_)
  refine g_aload_n hX dM_breakText_5 rfl rfl (by first | rfl | exact g_rfr _) 6 rfl ?_
  refine g_iload_n hX dM_breakText_6 rfl rfl 7 rfl ?_
  refine g_iconst hX dM_breakText_7 (v := 2) (by decide) 8 rfl ?_
  refine g_cV2r (wt := 0) hX ((show g_Rd X.l mM_value 2 31 [.ref (A 30 0), .int (nI j), .int 2] E h (some (.int (q_value S j 2))) by rw [← q_value_va (S := q_wL S 14 5 (0, L)) (T := S) ⟨rfl, rfl, rfl, rfl, rfl, rfl, rfl⟩]; exact c_M_value (S := q_wL S 14 5 (0, L)) hX.tr hW.r hB (j := j) (pr := 2) hj (by decide))) dM_breakText_8 (w_m hW.r) kM_107 (g_rm.of hR (by decide) (by decide)) (by first | exact Nat.zero_le _ | (rw [hR]; decide)) (by first | exact Nat.zero_le _ | (rw [hR]; decide)) (by first | decide | (simp [Value.category])) 11 rfl ?_
  refine g_istore_n hX (L' := [_, _, _, _, _, _, _, _, _, _]) dM_breakText_11 rfl (by decide) rfl 12 rfl ?_
  refine g_iconst hX dM_breakText_12 (v := 0) (by decide) 13 rfl ?_
  refine g_istore hX (L' := [_, _, _, _, _, _, _, _, _, _]) dM_breakText_13 (by decide) rfl 15 rfl ?_
  have hlp := lp_breakk (L := (n, L)) (s := s) hB hT hX hR hj (S.1 3 j) 0 h (by omega) hW
  rw [nI_0] at hlp
  exact hlp
set_option maxRecDepth 100000 in
set_option maxHeartbeats 4000000 in
theorem lp_fit {E : g_E} {A : w_A} {Sc S : q_S} (hB : w_B S) (hT : ∀ t, S.1 4 t ≤ 4) {X : g_X} (hX : g_ok E X mM_fit) (hR : X.R = { frames := 4, cells := 0, slots := 0, locals := 67 }) {j : Nat} (hj : j < q_ns S) :
    ∀ (s : Nat) (L : q_L) (h : g_H) (z : Bool), s < 2 ^ 31 → w_W E A Sc (q_wL S 14 5 L) h → g_Go E X (false, fun r' h' => r' = .inr (some (.int (q_fit S j s L).1)) ∧ w_W E A Sc (q_wL S 14 5 (q_fit S j s L).2) h') h z 0 0 8 [some (.ref (A 30 0)), some (.int (nI j)), some (.int (nI s))] [] := by
  intro s
  induction s with
  | zero =>
    intro L h z hs hW
    refine g_iload_n hX dM_fit_8 rfl rfl 9 rfl ?_
    refine g_iconst hX dM_fit_9 (v := 1) (by decide) 10 rfl ?_
    refine g_icmp_lt hX dM_fit_10 42 13 (by decide) rfl (fun c10 => ?_) (fun c10 => ?_)
    · refine g_iconst hX dM_fit_42 (v := 0) (by decide) 43 rfl ?_
      exact g_iret hX rfl rfl dM_fit_43 ⟨rfl, hW⟩ rfl (Nat.zero_le _) (Nat.zero_le _)
    · exact absurd (show nI 0 < 1 by decide) c10
  | succ s ih =>
    intro L h z hs hW
    have hx : q_fit S j (s + 1) L = if nI (s + 1) * nI (q_tx S j (nI (s + 1)) (S.1 3 j) L).1 ≤ q_value S j 3 then (nI (s + 1), q_tx S j (nI (s + 1)) (S.1 3 j) L) else q_fit S j s (q_tx S j (nI (s + 1)) (S.1 3 j) L) := by rw [q_fit]
    rw [hx]
    clear hx
    refine g_iload_n hX dM_fit_8 rfl rfl 9 rfl ?_
    refine g_iconst hX dM_fit_9 (v := 1) (by decide) 10 rfl ?_
    refine g_icmp_lt hX dM_fit_10 42 13 (by decide) rfl (fun c10 => ?_) (fun c10 => ?_)
    · exact absurd c10 (nI_nlt (a := s + 1) (b := 1) (by omega) hs)
    · refine g_aload_n hX dM_fit_13 rfl rfl (by first | rfl | exact g_rfr _) 14 rfl ?_
      refine g_iload_n hX dM_fit_14 rfl rfl 15 rfl ?_
      refine g_iload_n hX dM_fit_15 rfl rfl 16 rfl ?_
      refine g_cV2 (wt := 0) hX (c_M_breakText hX.tr hW hB hT hj _) dM_fit_16 (w_m hW.r) kM_113 (g_rm.of hR (by decide) (by decide)) (by first | exact Nat.zero_le _ | (rw [hR]; decide)) (by first | exact Nat.zero_le _ | (rw [hR]; decide)) (by first | decide | (simp [Value.category])) (fun q => by cases q) 19 rfl (fun v h hP => ?_) (fun k h hP => by cases hP.1)
      obtain ⟨hv, hW⟩ := hP
      cases hv
      generalize hq : q_tx S j (nI (s + 1)) (S.1 3 j) L = L2 at hW ⊢
      show g_Go E X _ h false 0 0 19 _ []
      refine g_iload_n hX dM_fit_19 rfl rfl 20 rfl ?_
      refine g_aload_n hX dM_fit_20 rfl rfl (by first | rfl | exact g_rfr _) 21 rfl ?_
      refine g_get hX dM_fit_21 fM_110 (w_m hW.r) rfl 24 rfl ?_
      refine g_imul hX dM_fit_24 25 rfl ?_
      refine g_aload_n hX dM_fit_25 rfl rfl (by first | rfl | exact g_rfr _) 26 rfl ?_
      refine g_iload_n hX dM_fit_26 rfl rfl 27 rfl ?_
      refine g_iconst hX dM_fit_27 (v := 3) (by decide) 28 rfl ?_
      refine g_cV2r (wt := 1) hX ((show g_Rd X.l mM_value 2 31 [.ref (A 30 0), .int (nI j), .int 3] E h (some (.int (q_value S j 3))) by rw [← q_value_va (S := q_wL S 14 5 L2) (T := S) ⟨rfl, rfl, rfl, rfl, rfl, rfl, rfl⟩]; exact c_M_value (S := q_wL S 14 5 L2) hX.tr hW.r hB (j := j) (pr := 3) hj (by decide))) dM_fit_28 (w_m hW.r) kM_107 (g_rm.of hR (by decide) (by decide)) (by first | exact Nat.zero_le _ | (rw [hR]; decide)) (by first | exact Nat.zero_le _ | (rw [hR]; decide)) (by first | decide | (simp [Value.category])) 31 rfl ?_
      refine g_icmp_gt hX dM_fit_31 36 34 (by decide) rfl (fun c31 => ?_) (fun c31 => ?_)
      · refine g_iinc hX (L' := [_, _, _]) dM_fit_36 rfl (q_dec s) rfl 39 rfl ?_
        refine g_goto hX dM_fit_39 8 (by decide) ?_
        rw [if_neg (show ¬ nI (s + 1) * nI L2.1 ≤ q_value S j 3 from q_lt_nle c31)]
        exact ih L2 h false (by omega) hW
      · refine g_iload_n hX dM_fit_34 rfl rfl 35 rfl ?_
        rw [if_pos (show nI (s + 1) * nI L2.1 ≤ q_value S j 3 from q_nlt_le c31)]
        exact g_iret hX rfl rfl dM_fit_35 ⟨rfl, hW⟩ rfl (Nat.zero_le _) (Nat.zero_le _)
set_option maxRecDepth 100000 in
set_option maxHeartbeats 4000000 in
theorem c_M_fit {l : Launch} (hl : l.stackTraces = false) {E : g_E} {A : w_A} {Sc S : q_S} {h : g_H} {L : q_L} (hW : w_W E A Sc (q_wL S 14 5 L) h) (hB : w_B S) (hT : ∀ t, S.1 4 t ≤ 4) {j : Nat} (hj : j < q_ns S) {s : Nat} (hs : q_value S j 6 = nI s) (hs31 : s < 2 ^ 31) : g_Ct l mM_fit 4 67 0 0 [.ref (A 30 0), .int (nI j)] E h (false, fun r' h' => r' = .inr (some (.int (q_fit S j s L).1)) ∧ w_W E A Sc (q_wL S 14 5 (q_fit S j s L).2) h') := by
  refine g_Ct.of hl (by decide) rfl (Nat.le_of_ble_eq_true rfl) ?_
  intro X hX hXl hR
  show g_Go E X _ h true 0 0 0 [some (.ref (A 30 0)), some (.int (nI j)), none] []
  refine g_aload_n hX dM_fit_0 rfl rfl (by first | rfl | exact g_rfr _) 1 rfl ?_
  refine g_iload_n hX dM_fit_1 rfl rfl 2 rfl ?_
  refine g_bipush hX dM_fit_2 (v := 6) (by decide) 4 rfl ?_
  refine g_cV2r (wt := 0) hX ((show g_Rd X.l mM_value 2 31 [.ref (A 30 0), .int (nI j), .int 6] E h (some (.int (q_value S j 6))) by rw [← q_value_va (S := q_wL S 14 5 L) (T := S) ⟨rfl, rfl, rfl, rfl, rfl, rfl, rfl⟩]; exact c_M_value (S := q_wL S 14 5 L) hX.tr hW.r hB (j := j) (pr := 6) hj (by decide))) dM_fit_4 (w_m hW.r) kM_107 (g_rm.of hR (by decide) (by decide)) (by first | exact Nat.zero_le _ | (rw [hR]; decide)) (by first | exact Nat.zero_le _ | (rw [hR]; decide)) (by first | decide | (simp [Value.category])) 7 rfl ?_
  rw [hs]
  refine g_istore_n hX (L' := [_, _, _]) dM_fit_7 rfl (by decide) rfl 8 rfl ?_
  exact lp_fit hB hT hX hR hj s L h true hs31 hW
