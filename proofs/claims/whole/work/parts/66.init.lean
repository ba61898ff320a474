/-! the start: the stage's and the reference's constructors -/
def w_LV (Ls : List Nat) : Nat → Nat → Prop := fun k i => i = 0 ∧ k ∈ Ls
theorem w_newL {E : g_E} {A : w_A} {Ls : List Nat} {cl : Nat → Nat → va_E} {h : g_H} (hG : w_G E A (w_LV Ls) cl h) (k0 : Nat) {a : Nat} (e : va_E) (hf : h a = none) (hb : E.H0.size ≤ a) : w_G E (w_uA A k0 0 a) (w_LV (k0 :: Ls)) (w_uc cl k0 0 e) (g_set h a e) :=
  (hG.new k0 0 e hf hb).lvw (fun k i hk => by
    obtain ⟨h1, h2⟩ := hk
    rcases List.mem_cons.mp h2 with h3 | h3
    · exact Or.inl ⟨h3, h1⟩
    · exact Or.inr ⟨h1, h3⟩)
theorem w_G.clw {E : g_E} {A : w_A} {lv : Nat → Nat → Prop} {cl cl' : Nat → Nat → va_E} {h : g_H} (hG : w_G E A lv cl h) (hc : ∀ k i, lv k i → cl k i = cl' k i) : w_G E A lv cl' h :=
  ⟨fun k i hk => by rw [hG.1 k i hk, hc k i hk], hG.2.1, hG.2.2⟩
/-- an array or a list is made and laid into a field of the object with the tag t0 -/
theorem w_arr {E : g_E} {A : w_A} {Ls : List Nat} {cl : Nat → Nat → va_E} {h : g_H} {t0 : Nat} {e : va_E} (hG : w_G E A (w_LV Ls) (w_uc cl t0 0 e) h) (ht : t0 ∈ Ls) (k0 : Nat) (hk : ¬ k0 = t0) {a b : Nat} (hb9 : A t0 0 = b) (x e' : va_E) (hf : h a = none) (hb : E.H0.size ≤ a) : w_G E (w_uA A k0 0 a) (w_LV (k0 :: Ls)) (w_uc (w_uc cl k0 0 x) t0 0 e') (g_set (g_set h a x) b e') := by
  subst hb9
  have h1 := (w_newL hG k0 x hf hb).put (k0 := t0) (i0 := 0) ⟨rfl, List.mem_cons_of_mem _ ht⟩ e'
  rw [w_uA_tag _ (fun q => hk q.symm)] at h1
  refine h1.clw (fun k i hk => ?_)
  by_cases h2 : k = t0 ∧ i = 0
  · rw [show w_uc (w_uc (w_uc cl t0 0 e) k0 0 x) t0 0 e' k i = e' from if_pos h2, show w_uc (w_uc cl k0 0 x) t0 0 e' k i = e' from if_pos h2]
  · rw [show w_uc (w_uc (w_uc cl t0 0 e) k0 0 x) t0 0 e' k i = w_uc (w_uc cl t0 0 e) k0 0 x k i from if_neg h2, show w_uc (w_uc cl k0 0 x) t0 0 e' k i = w_uc cl k0 0 x k i from if_neg h2]
    by_cases h3 : k = k0 ∧ i = 0
    · rw [show w_uc (w_uc cl t0 0 e) k0 0 x k i = x from if_pos h3, show w_uc cl k0 0 x k i = x from if_pos h3]
    · rw [show w_uc (w_uc cl t0 0 e) k0 0 x k i = w_uc cl t0 0 e k i from if_neg h3, show w_uc cl k0 0 x k i = cl k i from if_neg h3, show w_uc cl t0 0 e k i = cl k i from if_neg h2]
/-- a field of that object is written -/
theorem w_fld {E : g_E} {A : w_A} {Ls : List Nat} {cl : Nat → Nat → va_E} {h : g_H} {t0 : Nat} {e : va_E} (hG : w_G E A (w_LV Ls) (w_uc cl t0 0 e) h) (ht : t0 ∈ Ls) {b : Nat} (hb9 : A t0 0 = b) (e' : va_E) : w_G E A (w_LV Ls) (w_uc cl t0 0 e') (g_set h b e') := by
  subst hb9
  refine (hG.put (k0 := t0) (i0 := 0) ⟨rfl, ht⟩ e').clw (fun k i hk => ?_)
  by_cases h2 : k = t0 ∧ i = 0
  · rw [show w_uc (w_uc cl t0 0 e) t0 0 e' k i = e' from if_pos h2, show w_uc cl t0 0 e' k i = e' from if_pos h2]
  · rw [show w_uc (w_uc cl t0 0 e) t0 0 e' k i = w_uc cl t0 0 e k i from if_neg h2, show w_uc cl t0 0 e' k i = cl k i from if_neg h2, show w_uc cl t0 0 e k i = cl k i from if_neg h2]
theorem w_obj {E : g_E} {A : w_A} {Ls : List Nat} {cl : Nat → Nat → va_E} {h : g_H} {t0 : Nat} {e : va_E} (hG : w_G E A (w_LV Ls) (w_uc cl t0 0 e) h) (ht : t0 ∈ Ls) {b : Nat} (hb9 : A t0 0 = b) : h b = some e ∧ E.H0.size ≤ b := by
  subst hb9
  have h1 := hG.1 t0 0 ⟨rfl, ht⟩
  rw [w_uc_same] at h1
  exact ⟨h1, hG.2.1 t0 0 ⟨rfl, ht⟩⟩
def q_S0 : q_S := (fun t _ => if t = 1 then 1 else 0, fun t => if t = 4 then q_th0 else fun _ => 0)
theorem q_S0_sl : w_slideAt q_S0 = -1 := by
  unfold w_slideAt
  exact if_pos rfl
theorem q_S0_32 : (fun p => nI (q_S0.1 1 p) - 1) = fun _ => (0 : Int32) := by
  funext p
  show nI 1 - 1 = 0
  decide
theorem w_step {E : g_E} {X : g_X} {P : g_P} {B : w_A} {lv : Nat → Nat → Prop} {cl : Nat → Nat → va_E} {h : g_H} {z : Bool} {cs ss pc : Nat} {L : List (Option Value)} {st : List Value} (hG : w_G E B lv cl h) (kk : ∀ h1 : g_H, w_G E B lv cl h1 → g_Go E X P h1 z cs ss pc L st) : g_Go E X P h z cs ss pc L st := kk h hG
set_option maxRecDepth 100000 in
set_option maxHeartbeats 4000000 in
theorem c_S_init {l : Launch} (hl : l.stackTraces = false) {E : g_E} {A : w_A} {cl : Nat → Nat → va_E} {h : g_H} {b : Nat} (hG : w_G E A (w_LV [0]) (w_uc cl 0 0 (.inr (0, [.null, .null, .null, .null, .null, .null, .int 0, .int 0, .int 0]))) h) (hb : A 0 0 = b) : g_Ct l mS_init 4 50 13 88 [.ref b] E h (false, fun r' h' => r' = .inr none ∧ ∃ B : w_A, B 0 0 = b ∧ w_G E B (w_LV [28, 27, 26, 25, 24, 22, 20, 18, 16, 1, 0]) (fun k i => w_cell E B q_S0 k i) h') := by
  refine g_Ct.of hl (by decide) rfl (Nat.le_of_ble_eq_true rfl) ?_
  intro X hX hXl hR
  show g_Go E X _ h true 0 0 0 [some (.ref b)] []
  refine g_aload_n hX dS_init_0 rfl rfl (by first | rfl | exact g_rfr _) 1 rfl ?_
  refine g_objInit (wt := 0) hX dS_init_1 kS_3 (by decide) (by rw [hR]; decide) (by rw [hR]; decide) 4 rfl ?_
  refine g_aload_n hX dS_init_4 rfl rfl (by first | rfl | exact g_rfr _) 5 rfl ?_
  refine g_bipush hX dS_init_5 (v := 7) (by decide) 7 rfl ?_
  have ho := w_obj hG (by decide) hb
  refine g_newa (t := 0) (N := 7) (a0 := (7, .inl (fun _ => 0))) hX dS_init_7 a_int rfl rfl (fun C q => by cases q) (fun _ => rfl) (by decide) (by decide) (by decide) (by rw [hR]; decide) (by rw [hR]; decide) 9 rfl (fun q0 hq0 zq0 => ?_)
  have hnq0 : b ≠ q0 := fun e9 => by rw [← e9, ho.1] at hq0; cases hq0
  refine g_dup hX dS_init_9 rfl 10 rfl ?_
  refine g_iconst hX dS_init_10 (v := 0) (by decide) 11 rfl ?_
  refine g_iconst hX dS_init_11 (v := 0) (by decide) 12 rfl ?_
  refine g_iast (k := 0) hX dS_init_12 (g_set_same _ _ _) zq0 (g_ix.nat (k := 0) (by decide) (by decide)) 13 rfl ?_
  rw [g_set_set]
  refine g_dup hX dS_init_13 rfl 14 rfl ?_
  refine g_iconst hX dS_init_14 (v := 1) (by decide) 15 rfl ?_
  refine g_iconst hX dS_init_15 (v := 0) (by decide) 16 rfl ?_
  refine g_iast (k := 1) hX dS_init_16 (g_set_same _ _ _) zq0 (g_ix.nat (k := 1) (by decide) (by decide)) 17 rfl ?_
  rw [g_set_set]
  refine g_dup hX dS_init_17 rfl 18 rfl ?_
  refine g_iconst hX dS_init_18 (v := 2) (by decide) 19 rfl ?_
  refine g_bipush hX dS_init_19 (v := 8) (by decide) 21 rfl ?_
  refine g_iast (k := 2) hX dS_init_21 (g_set_same _ _ _) zq0 (g_ix.nat (k := 2) (by decide) (by decide)) 22 rfl ?_
  rw [g_set_set]
  refine g_dup hX dS_init_22 rfl 23 rfl ?_
  refine g_iconst hX dS_init_23 (v := 3) (by decide) 24 rfl ?_
  refine g_iconst hX dS_init_24 (v := 4) (by decide) 25 rfl ?_
  refine g_iast (k := 3) hX dS_init_25 (g_set_same _ _ _) zq0 (g_ix.nat (k := 3) (by decide) (by decide)) 26 rfl ?_
  rw [g_set_set]
  refine g_dup hX dS_init_26 rfl 27 rfl ?_
  refine g_iconst hX dS_init_27 (v := 4) (by decide) 28 rfl ?_
  refine g_ldc hX dS_init_28 lS_9 30 rfl ?_
  refine g_iast (k := 4) hX dS_init_30 (g_set_same _ _ _) zq0 (g_ix.nat (k := 4) (by decide) (by decide)) 31 rfl ?_
  rw [g_set_set]
  refine g_dup hX dS_init_31 rfl 32 rfl ?_
  refine g_iconst hX dS_init_32 (v := 5) (by decide) 33 rfl ?_
  refine g_sipush hX dS_init_33 (v := 255) (by decide) 36 rfl ?_
  refine g_iast (k := 5) hX dS_init_36 (g_set_same _ _ _) zq0 (g_ix.nat (k := 5) (by decide) (by decide)) 37 rfl ?_
  rw [g_set_set]
  refine g_dup hX dS_init_37 rfl 38 rfl ?_
  refine g_bipush hX dS_init_38 (v := 6) (by decide) 40 rfl ?_
  refine g_iconst hX dS_init_40 (v := 4) (by decide) 41 rfl ?_
  refine g_iast (k := 6) hX dS_init_41 (g_set_same _ _ _) zq0 (g_ix.nat (k := 6) (by decide) (by decide)) 42 rfl ?_
  rw [g_set_set]
  refine g_putF0 hX dS_init_42 fS_10 rfl ((g_set_ne _ _ hnq0).trans ho.1) ho.2 rfl rfl (Nat.le_of_ble_eq_true rfl) 45 rfl ?_
  refine w_step (w_arr hG (by decide) 1 (by decide) hb (g_ints E 7 q_th0) (.inr (0, [.ref q0, .null, .null, .null, .null, .null, .int 0, .int 0, .int 0])) hq0 zq0) (fun h hG => ?_)
  replace hb := (show w_uA _ 1 0 q0 0 0 = _ from (w_uA_tag _ (by decide)).trans hb)
  refine g_aload_n hX dS_init_45 rfl rfl (by first | rfl | exact g_rfr _) 46 rfl ?_
  have ho := w_obj hG (by decide) hb
  refine g_new hX dS_init_46 nS_14 (by rw [hR]; decide) (by rw [hR]; decide) 49 rfl (fun q1 hq1 zq1 => ?_)
  have hnq1 : b ≠ q1 := fun e9 => by rw [← e9, ho.1] at hq1; cases hq1
  refine g_dup hX dS_init_49 rfl 50 rfl ?_
  refine g_cI0 (wt := 2) hX (c_A_init hX.tr (g_set_same _ _ _) zq1) dS_init_50 kS_16 (g_rm.of hR (by decide) (by decide)) (by first | exact Nat.zero_le _ | (rw [hR]; decide)) (by first | exact Nat.zero_le _ | (rw [hR]; decide)) (by first | decide | (simp [Value.category])) (fun q => by cases q) 53 rfl (fun v h9 hP => ?_) (fun k h9 hP => by cases hP.1)
  obtain ⟨hv, hh⟩ := hP
  cases hv
  rw [g_set_set] at hh
  subst hh
  show g_Go E X _ _ false _ _ 53 _ [.ref q1, .ref b]
  refine g_putF0 hX dS_init_53 fS_17 rfl ((g_set_ne _ _ hnq1).trans ho.1) ho.2 rfl rfl (Nat.le_of_ble_eq_true rfl) 56 rfl ?_
  refine w_step (w_arr hG (by decide) 16 (by decide) hb (g_L0 E) (.inr (0, [.ref q0, .ref q1, .null, .null, .null, .null, .int 0, .int 0, .int 0])) hq1 zq1) (fun h hG => ?_)
  replace hb := (show w_uA _ 16 0 q1 0 0 = _ from (w_uA_tag _ (by decide)).trans hb)
  refine g_aload_n hX dS_init_56 rfl rfl (by first | rfl | exact g_rfr _) 57 rfl ?_
  have ho := w_obj hG (by decide) hb
  refine g_new hX dS_init_57 nS_14 (by rw [hR]; decide) (by rw [hR]; decide) 60 rfl (fun q2 hq2 zq2 => ?_)
  have hnq2 : b ≠ q2 := fun e9 => by rw [← e9, ho.1] at hq2; cases hq2
  refine g_dup hX dS_init_60 rfl 61 rfl ?_
  refine g_cI0 (wt := 2) hX (c_A_init hX.tr (g_set_same _ _ _) zq2) dS_init_61 kS_16 (g_rm.of hR (by decide) (by decide)) (by first | exact Nat.zero_le _ | (rw [hR]; decide)) (by first | exact Nat.zero_le _ | (rw [hR]; decide)) (by first | decide | (simp [Value.category])) (fun q => by cases q) 64 rfl (fun v h9 hP => ?_) (fun k h9 hP => by cases hP.1)
  obtain ⟨hv, hh⟩ := hP
  cases hv
  rw [g_set_set] at hh
  subst hh
  show g_Go E X _ _ false _ _ 64 _ [.ref q2, .ref b]
  refine g_putF0 hX dS_init_64 fS_21 rfl ((g_set_ne _ _ hnq2).trans ho.1) ho.2 rfl rfl (Nat.le_of_ble_eq_true rfl) 67 rfl ?_
  refine w_step (w_arr hG (by decide) 18 (by decide) hb (g_L0 E) (.inr (0, [.ref q0, .ref q1, .ref q2, .null, .null, .null, .int 0, .int 0, .int 0])) hq2 zq2) (fun h hG => ?_)
  replace hb := (show w_uA _ 18 0 q2 0 0 = _ from (w_uA_tag _ (by decide)).trans hb)
  refine g_aload_n hX dS_init_67 rfl rfl (by first | rfl | exact g_rfr _) 68 rfl ?_
  have ho := w_obj hG (by decide) hb
  refine g_new hX dS_init_68 nS_14 (by rw [hR]; decide) (by rw [hR]; decide) 71 rfl (fun q3 hq3 zq3 => ?_)
  have hnq3 : b ≠ q3 := fun e9 => by rw [← e9, ho.1] at hq3; cases hq3
  refine g_dup hX dS_init_71 rfl 72 rfl ?_
  refine g_cI0 (wt := 2) hX (c_A_init hX.tr (g_set_same _ _ _) zq3) dS_init_72 kS_16 (g_rm.of hR (by decide) (by decide)) (by first | exact Nat.zero_le _ | (rw [hR]; decide)) (by first | exact Nat.zero_le _ | (rw [hR]; decide)) (by first | decide | (simp [Value.category])) (fun q => by cases q) 75 rfl (fun v h9 hP => ?_) (fun k h9 hP => by cases hP.1)
  obtain ⟨hv, hh⟩ := hP
  cases hv
  rw [g_set_set] at hh
  subst hh
  show g_Go E X _ _ false _ _ 75 _ [.ref q3, .ref b]
  refine g_putF0 hX dS_init_75 fS_24 rfl ((g_set_ne _ _ hnq3).trans ho.1) ho.2 rfl rfl (Nat.le_of_ble_eq_true rfl) 78 rfl ?_
  refine w_step (w_arr hG (by decide) 20 (by decide) hb (g_L0 E) (.inr (0, [.ref q0, .ref q1, .ref q2, .ref q3, .null, .null, .int 0, .int 0, .int 0])) hq3 zq3) (fun h hG => ?_)
  replace hb := (show w_uA _ 20 0 q3 0 0 = _ from (w_uA_tag _ (by decide)).trans hb)
  refine g_aload_n hX dS_init_78 rfl rfl (by first | rfl | exact g_rfr _) 79 rfl ?_
  have ho := w_obj hG (by decide) hb
  refine g_new hX dS_init_79 nS_14 (by rw [hR]; decide) (by rw [hR]; decide) 82 rfl (fun q4 hq4 zq4 => ?_)
  have hnq4 : b ≠ q4 := fun e9 => by rw [← e9, ho.1] at hq4; cases hq4
  refine g_dup hX dS_init_82 rfl 83 rfl ?_
  refine g_cI0 (wt := 2) hX (c_A_init hX.tr (g_set_same _ _ _) zq4) dS_init_83 kS_16 (g_rm.of hR (by decide) (by decide)) (by first | exact Nat.zero_le _ | (rw [hR]; decide)) (by first | exact Nat.zero_le _ | (rw [hR]; decide)) (by first | decide | (simp [Value.category])) (fun q => by cases q) 86 rfl (fun v h9 hP => ?_) (fun k h9 hP => by cases hP.1)
  obtain ⟨hv, hh⟩ := hP
  cases hv
  rw [g_set_set] at hh
  subst hh
  show g_Go E X _ _ false _ _ 86 _ [.ref q4, .ref b]
  refine g_putF0 hX dS_init_86 fS_27 rfl ((g_set_ne _ _ hnq4).trans ho.1) ho.2 rfl rfl (Nat.le_of_ble_eq_true rfl) 89 rfl ?_
  refine w_step (w_arr hG (by decide) 22 (by decide) hb (g_L0 E) (.inr (0, [.ref q0, .ref q1, .ref q2, .ref q3, .ref q4, .null, .int 0, .int 0, .int 0])) hq4 zq4) (fun h hG => ?_)
  replace hb := (show w_uA _ 22 0 q4 0 0 = _ from (w_uA_tag _ (by decide)).trans hb)
  refine g_aload_n hX dS_init_89 rfl rfl (by first | rfl | exact g_rfr _) 90 rfl ?_
  have ho := w_obj hG (by decide) hb
  refine g_new hX dS_init_90 nS_30 (by rw [hR]; decide) (by rw [hR]; decide) 93 rfl (fun q5 hq5 zq5 => ?_)
  have hnq5 : b ≠ q5 := fun e9 => by rw [← e9, ho.1] at hq5; cases hq5
  refine g_dup hX dS_init_93 rfl 94 rfl ?_
  refine g_cIN0 (wt := 2) hX (c_R_init hX.tr (g_set_same _ _ _) zq5) dS_init_94 kS_32 (g_rm.of hR (by decide) (by decide)) (by first | exact Nat.zero_le _ | (rw [hR]; decide)) (by first | exact Nat.zero_le _ | (rw [hR]; decide)) (by first | decide | (simp [Value.category])) (fun q => by cases q) 97 rfl (fun v h9 hP => ?_) (fun k h9 hP => by obtain ⟨x0, x1, x2, x3, -, -, -, -, -, -, -, -, hk, -⟩ := hP; cases hk)
  obtain ⟨q6, q7, q8, q9, f6, z6, f7, z7, f8, z8, f9, z9, hv, hh⟩ := hP
  cases hv
  show g_Go E X _ h9 false _ _ 97 _ [.ref q5, .ref b]
  replace hG := (w_newL (w_newL (w_newL (w_newL (w_newL hG 24 _ hq5 zq5) 25 _ f6 z6) 26 _ f7 z7) 27 _ f8 z8) 28 (g_ints E 16 (fun _ => 0)) f9 z9).put (k0 := 24) (i0 := 0) ⟨rfl, by decide⟩ (.inr (5, [.ref q6, .ref q7, .ref q8, .ref q9, .int 0]))
  rw [w_uA_tag _ (by decide), w_uA_tag _ (by decide), w_uA_tag _ (by decide), w_uA_tag _ (by decide), w_uA_same, ← hh] at hG
  replace hb := (show w_uA (w_uA (w_uA (w_uA (w_uA (w_uA (w_uA (w_uA (w_uA (w_uA A 1 0 q0) 16 0 q1) 18 0 q2) 20 0 q3) 22 0 q4) 24 0 q5) 25 0 q6) 26 0 q7) 27 0 q8) 28 0 q9 0 0 = b from hb)
  have ho9 : h9 b = some (.inr (0, [.ref q0, .ref q1, .ref q2, .ref q3, .ref q4, .null, .int 0, .int 0, .int 0])) := by
    have h8 := hG.1 0 0 ⟨rfl, by decide⟩
    rw [hb] at h8
    exact h8
  refine g_putF0 hX dS_init_97 fS_33 rfl ho9 ho.2 rfl rfl (Nat.le_of_ble_eq_true rfl) 100 rfl ?_
  have hG2 := hG.put (k0 := 0) (i0 := 0) ⟨rfl, by decide⟩ (.inr (0, [.ref q0, .ref q1, .ref q2, .ref q3, .ref q4, .ref q5, .int 0, .int 0, .int 0]))
  rw [hb] at hG2
  refine w_step hG2 (fun h hG => ?_)
  refine g_aload_n hX dS_init_100 rfl rfl (by first | rfl | exact g_rfr _) 101 rfl ?_
  refine g_iconst hX dS_init_101 (v := (-1)) (by decide) 102 rfl ?_
  refine g_put0 hX dS_init_102 fS_37 (w_obj hG (by decide) hb).1 ho.2 rfl rfl (Nat.le_of_ble_eq_true rfl) 105 rfl ?_
  refine w_step (w_fld hG (by decide) hb (.inr (0, [.ref q0, .ref q1, .ref q2, .ref q3, .ref q4, .ref q5, .int (-1), .int 0, .int 0]))) (fun h hG => ?_)
  refine g_aload_n hX dS_init_105 rfl rfl (by first | rfl | exact g_rfr _) 106 rfl ?_
  refine g_iconst hX dS_init_106 (v := 0) (by decide) 107 rfl ?_
  refine g_put0 hX dS_init_107 fS_41 (w_obj hG (by decide) hb).1 ho.2 rfl rfl (Nat.le_of_ble_eq_true rfl) 110 rfl ?_
  refine w_step (w_fld hG (by decide) hb (.inr (0, [.ref q0, .ref q1, .ref q2, .ref q3, .ref q4, .ref q5, .int (-1), .int 0, .int 0]))) (fun h hG => ?_)
  refine g_aload_n hX dS_init_110 rfl rfl (by first | rfl | exact g_rfr _) 111 rfl ?_
  refine g_iconst hX dS_init_111 (v := 0) (by decide) 112 rfl ?_
  refine g_put0 hX dS_init_112 fS_44 (w_obj hG (by decide) hb).1 ho.2 rfl rfl (Nat.le_of_ble_eq_true rfl) 115 rfl ?_
  refine w_step (w_fld hG (by decide) hb (.inr (0, [.ref q0, .ref q1, .ref q2, .ref q3, .ref q4, .ref q5, .int (-1), .int 0, .int 0]))) (fun h hG => ?_)
  refine g_vret hX rfl dS_init_115 ⟨rfl, (w_uA (w_uA (w_uA (w_uA (w_uA (w_uA (w_uA (w_uA (w_uA (w_uA A 1 0 q0) 16 0 q1) 18 0 q2) 20 0 q3) 22 0 q4) 24 0 q5) 25 0 q6) 26 0 q7) 27 0 q8) 28 0 q9), hb, hG.clw (fun k i hk => ?_)⟩ rfl (by rw [hR]; decide) (by rw [hR]; decide)
  obtain ⟨rfl, hk⟩ := hk
  have h3 : k = 28 ∨ k = 27 ∨ k = 26 ∨ k = 25 ∨ k = 24 ∨ k = 22 ∨ k = 20 ∨ k = 18 ∨ k = 16 ∨ k = 1 ∨ k = 0 := by simpa using hk
  rcases h3 with rfl | rfl | rfl | rfl | rfl | rfl | rfl | rfl | rfl | rfl | rfl
  · rfl
  · rfl
  · rfl
  · rfl
  · rfl
  · rfl
  · rfl
  · rfl
  · rfl
  · rfl
  · show Sum.inr (0, [Value.ref q0, .ref q1, .ref q2, .ref q3, .ref q4, .ref q5, .int (-1), .int 0, .int 0]) = Sum.inr (0, [Value.ref q0, .ref q1, .ref q2, .ref q3, .ref q4, .ref q5, .int (w_slideAt q_S0), .int (nI 0), .int 0])
    rw [q_S0_sl]
    rfl
