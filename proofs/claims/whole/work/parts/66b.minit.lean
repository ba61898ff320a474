set_option maxRecDepth 100000 in
set_option maxHeartbeats 4000000 in
theorem c_M_init {l : Launch} (hl : l.stackTraces = false) {E : g_E} {A C : w_A} {h : g_H} {b : Nat} (hC : ∀ t, t < 30 → A t 0 = C t 0) (hG : w_G E A (w_LV [30, 28, 27, 26, 25, 24, 22, 20, 18, 16, 1, 0]) (w_uc (fun k i => w_cell E C q_S0 k i) 30 0 (.inr (7, [.int 0, .int 0, .null, .null, .int 0, .null, .null, .null, .null, .null, .null, .null, .null, .null, .int 0, .null, .null, .null, .null, .null, .null, .int 0, .int 0, .int 0, .int 0, .null, .null, .null, .null]))) h) (hb : A 30 0 = b) : g_Ct l mM_init 1 12 21 1223 [.ref b] E h (false, fun r' h' => r' = .inr none ∧ ∃ B : w_A, B 0 0 = C 0 0 ∧ B 30 0 = b ∧ w_G E B (w_LV [51, 50, 49, 48, 47, 46, 45, 44, 43, 42, 41, 40, 39, 38, 37, 36, 35, 34, 33, 32, 31, 30, 28, 27, 26, 25, 24, 22, 20, 18, 16, 1, 0]) (fun k i => w_cell E B q_S0 k i) h') := by
  refine g_Ct.of hl (by decide) rfl (Nat.le_of_ble_eq_true rfl) ?_
  intro X hX hXl hR
  show g_Go E X _ h true 0 0 0 [some (.ref b)] []
  refine g_aload_n hX dM_init_0 rfl rfl (by first | rfl | exact g_rfr _) 1 rfl ?_
  refine g_objInit (wt := 0) hX dM_init_1 kM_1 (by decide) (by rw [hR]; decide) (by rw [hR]; decide) 4 rfl ?_
  refine g_aload_n hX dM_init_4 rfl rfl (by first | rfl | exact g_rfr _) 5 rfl ?_
  refine g_bipush hX dM_init_5 (v := 12) (by decide) 7 rfl ?_
  have ho := w_obj hG (by decide) hb
  refine g_newa (t := 0) (N := 12) (a0 := (12, .inl (fun _ => 0))) hX dM_init_7 a_int rfl rfl (fun C q => by cases q) (fun _ => rfl) (by decide) (by decide) (by decide) (by rw [hR]; decide) (by rw [hR]; decide) 9 rfl (fun q0 hq0 zq0 => ?_)
  have hnq0 : b ≠ q0 := fun e9 => by rw [← e9, ho.1] at hq0; cases hq0
  refine g_putF0 hX dM_init_9 fM_7 rfl ((g_set_ne _ _ hnq0).trans ho.1) ho.2 rfl rfl (Nat.le_of_ble_eq_true rfl) 12 rfl ?_
  refine w_step (w_arr hG (by decide) 31 (by decide) hb (g_ints E 12 (fun _ => 0)) (.inr (7, [.int 0, .int 0, .ref q0, .null, .int 0, .null, .null, .null, .null, .null, .null, .null, .null, .null, .int 0, .null, .null, .null, .null, .null, .null, .int 0, .int 0, .int 0, .int 0, .null, .null, .null, .null])) hq0 zq0) (fun h hG => ?_)
  replace hb := (show w_uA _ 31 0 q0 30 0 = _ from (w_uA_tag _ (by decide)).trans hb)
  refine g_aload_n hX dM_init_12 rfl rfl (by first | rfl | exact g_rfr _) 13 rfl ?_
  refine g_bipush hX dM_init_13 (v := 12) (by decide) 15 rfl ?_
  have ho := w_obj hG (by decide) hb
  refine g_newa (t := 0) (N := 12) (a0 := (12, .inl (fun _ => 0))) hX dM_init_15 a_int rfl rfl (fun C q => by cases q) (fun _ => rfl) (by decide) (by decide) (by decide) (by rw [hR]; decide) (by rw [hR]; decide) 17 rfl (fun q1 hq1 zq1 => ?_)
  have hnq1 : b ≠ q1 := fun e9 => by rw [← e9, ho.1] at hq1; cases hq1
  refine g_putF0 hX dM_init_17 fM_13 rfl ((g_set_ne _ _ hnq1).trans ho.1) ho.2 rfl rfl (Nat.le_of_ble_eq_true rfl) 20 rfl ?_
  refine w_step (w_arr hG (by decide) 32 (by decide) hb (g_ints E 12 (fun _ => 0)) (.inr (7, [.int 0, .int 0, .ref q0, .ref q1, .int 0, .null, .null, .null, .null, .null, .null, .null, .null, .null, .int 0, .null, .null, .null, .null, .null, .null, .int 0, .int 0, .int 0, .int 0, .null, .null, .null, .null])) hq1 zq1) (fun h hG => ?_)
  replace hb := (show w_uA _ 32 0 q1 30 0 = _ from (w_uA_tag _ (by decide)).trans hb)
  refine g_aload_n hX dM_init_20 rfl rfl (by first | rfl | exact g_rfr _) 21 rfl ?_
  refine g_bipush hX dM_init_21 (v := 24) (by decide) 23 rfl ?_
  have ho := w_obj hG (by decide) hb
  refine g_newa (t := 0) (N := 24) (a0 := (24, .inl (fun _ => 0))) hX dM_init_23 a_int rfl rfl (fun C q => by cases q) (fun _ => rfl) (by decide) (by decide) (by decide) (by rw [hR]; decide) (by rw [hR]; decide) 25 rfl (fun q2 hq2 zq2 => ?_)
  have hnq2 : b ≠ q2 := fun e9 => by rw [← e9, ho.1] at hq2; cases hq2
  refine g_putF0 hX dM_init_25 fM_16 rfl ((g_set_ne _ _ hnq2).trans ho.1) ho.2 rfl rfl (Nat.le_of_ble_eq_true rfl) 28 rfl ?_
  refine w_step (w_arr hG (by decide) 33 (by decide) hb (g_ints E 24 (fun _ => 0)) (.inr (7, [.int 0, .int 0, .ref q0, .ref q1, .int 0, .ref q2, .null, .null, .null, .null, .null, .null, .null, .null, .int 0, .null, .null, .null, .null, .null, .null, .int 0, .int 0, .int 0, .int 0, .null, .null, .null, .null])) hq2 zq2) (fun h hG => ?_)
  replace hb := (show w_uA _ 33 0 q2 30 0 = _ from (w_uA_tag _ (by decide)).trans hb)
  refine g_aload_n hX dM_init_28 rfl rfl (by first | rfl | exact g_rfr _) 29 rfl ?_
  refine g_bipush hX dM_init_29 (v := 24) (by decide) 31 rfl ?_
  have ho := w_obj hG (by decide) hb
  refine g_newa (t := 0) (N := 24) (a0 := (24, .inl (fun _ => 0))) hX dM_init_31 a_int rfl rfl (fun C q => by cases q) (fun _ => rfl) (by decide) (by decide) (by decide) (by rw [hR]; decide) (by rw [hR]; decide) 33 rfl (fun q3 hq3 zq3 => ?_)
  have hnq3 : b ≠ q3 := fun e9 => by rw [← e9, ho.1] at hq3; cases hq3
  refine g_putF0 hX dM_init_33 fM_19 rfl ((g_set_ne _ _ hnq3).trans ho.1) ho.2 rfl rfl (Nat.le_of_ble_eq_true rfl) 36 rfl ?_
  refine w_step (w_arr hG (by decide) 34 (by decide) hb (g_ints E 24 (fun _ => 0)) (.inr (7, [.int 0, .int 0, .ref q0, .ref q1, .int 0, .ref q2, .ref q3, .null, .null, .null, .null, .null, .null, .null, .int 0, .null, .null, .null, .null, .null, .null, .int 0, .int 0, .int 0, .int 0, .null, .null, .null, .null])) hq3 zq3) (fun h hG => ?_)
  replace hb := (show w_uA _ 34 0 q3 30 0 = _ from (w_uA_tag _ (by decide)).trans hb)
  refine g_aload_n hX dM_init_36 rfl rfl (by first | rfl | exact g_rfr _) 37 rfl ?_
  refine g_sipush hX dM_init_37 (v := 168) (by decide) 40 rfl ?_
  have ho := w_obj hG (by decide) hb
  refine g_newa (t := 1) (N := 168) (a0 := (168, .inl (fun _ => 0))) hX dM_init_40 a_boolean rfl rfl (fun C q => by cases q) (fun _ => rfl) (by decide) (by decide) (by decide) (by rw [hR]; decide) (by rw [hR]; decide) 42 rfl (fun q4 hq4 zq4 => ?_)
  have hnq4 : b ≠ q4 := fun e9 => by rw [← e9, ho.1] at hq4; cases hq4
  refine g_putF0 hX dM_init_42 fM_22 rfl ((g_set_ne _ _ hnq4).trans ho.1) ho.2 rfl rfl (Nat.le_of_ble_eq_true rfl) 45 rfl ?_
  refine w_step (w_arr hG (by decide) 35 (by decide) hb (g_bools E 168 (fun _ => 0)) (.inr (7, [.int 0, .int 0, .ref q0, .ref q1, .int 0, .ref q2, .ref q3, .ref q4, .null, .null, .null, .null, .null, .null, .int 0, .null, .null, .null, .null, .null, .null, .int 0, .int 0, .int 0, .int 0, .null, .null, .null, .null])) hq4 zq4) (fun h hG => ?_)
  replace hb := (show w_uA _ 35 0 q4 30 0 = _ from (w_uA_tag _ (by decide)).trans hb)
  refine g_aload_n hX dM_init_45 rfl rfl (by first | rfl | exact g_rfr _) 46 rfl ?_
  refine g_sipush hX dM_init_46 (v := 168) (by decide) 49 rfl ?_
  have ho := w_obj hG (by decide) hb
  refine g_newa (t := 0) (N := 168) (a0 := (168, .inl (fun _ => 0))) hX dM_init_49 a_int rfl rfl (fun C q => by cases q) (fun _ => rfl) (by decide) (by decide) (by decide) (by rw [hR]; decide) (by rw [hR]; decide) 51 rfl (fun q5 hq5 zq5 => ?_)
  have hnq5 : b ≠ q5 := fun e9 => by rw [← e9, ho.1] at hq5; cases hq5
  refine g_putF0 hX dM_init_51 fM_26 rfl ((g_set_ne _ _ hnq5).trans ho.1) ho.2 rfl rfl (Nat.le_of_ble_eq_true rfl) 54 rfl ?_
  refine w_step (w_arr hG (by decide) 36 (by decide) hb (g_ints E 168 (fun _ => 0)) (.inr (7, [.int 0, .int 0, .ref q0, .ref q1, .int 0, .ref q2, .ref q3, .ref q4, .ref q5, .null, .null, .null, .null, .null, .int 0, .null, .null, .null, .null, .null, .null, .int 0, .int 0, .int 0, .int 0, .null, .null, .null, .null])) hq5 zq5) (fun h hG => ?_)
  replace hb := (show w_uA _ 36 0 q5 30 0 = _ from (w_uA_tag _ (by decide)).trans hb)
  refine g_aload_n hX dM_init_54 rfl rfl (by first | rfl | exact g_rfr _) 55 rfl ?_
  refine g_bipush hX dM_init_55 (v := 7) (by decide) 57 rfl ?_
  have ho := w_obj hG (by decide) hb
  refine g_newa (t := 0) (N := 7) (a0 := (7, .inl (fun _ => 0))) hX dM_init_57 a_int rfl rfl (fun C q => by cases q) (fun _ => rfl) (by decide) (by decide) (by decide) (by rw [hR]; decide) (by rw [hR]; decide) 59 rfl (fun q6 hq6 zq6 => ?_)
  have hnq6 : b ≠ q6 := fun e9 => by rw [← e9, ho.1] at hq6; cases hq6
  refine g_dup hX dM_init_59 rfl 60 rfl ?_
  refine g_iconst hX dM_init_60 (v := 0) (by decide) 61 rfl ?_
  refine g_iconst hX dM_init_61 (v := 0) (by decide) 62 rfl ?_
  refine g_iast (k := 0) hX dM_init_62 (g_set_same _ _ _) zq6 (g_ix.nat (k := 0) (by decide) (by decide)) 63 rfl ?_
  rw [g_set_set]
  refine g_dup hX dM_init_63 rfl 64 rfl ?_
  refine g_iconst hX dM_init_64 (v := 1) (by decide) 65 rfl ?_
  refine g_iconst hX dM_init_65 (v := 0) (by decide) 66 rfl ?_
  refine g_iast (k := 1) hX dM_init_66 (g_set_same _ _ _) zq6 (g_ix.nat (k := 1) (by decide) (by decide)) 67 rfl ?_
  rw [g_set_set]
  refine g_dup hX dM_init_67 rfl 68 rfl ?_
  refine g_iconst hX dM_init_68 (v := 2) (by decide) 69 rfl ?_
  refine g_bipush hX dM_init_69 (v := 8) (by decide) 71 rfl ?_
  refine g_iast (k := 2) hX dM_init_71 (g_set_same _ _ _) zq6 (g_ix.nat (k := 2) (by decide) (by decide)) 72 rfl ?_
  rw [g_set_set]
  refine g_dup hX dM_init_72 rfl 73 rfl ?_
  refine g_iconst hX dM_init_73 (v := 3) (by decide) 74 rfl ?_
  refine g_iconst hX dM_init_74 (v := 4) (by decide) 75 rfl ?_
  refine g_iast (k := 3) hX dM_init_75 (g_set_same _ _ _) zq6 (g_ix.nat (k := 3) (by decide) (by decide)) 76 rfl ?_
  rw [g_set_set]
  refine g_dup hX dM_init_76 rfl 77 rfl ?_
  refine g_iconst hX dM_init_77 (v := 4) (by decide) 78 rfl ?_
  refine g_ldc hX dM_init_78 lM_29 80 rfl ?_
  refine g_iast (k := 4) hX dM_init_80 (g_set_same _ _ _) zq6 (g_ix.nat (k := 4) (by decide) (by decide)) 81 rfl ?_
  rw [g_set_set]
  refine g_dup hX dM_init_81 rfl 82 rfl ?_
  refine g_iconst hX dM_init_82 (v := 5) (by decide) 83 rfl ?_
  refine g_sipush hX dM_init_83 (v := 255) (by decide) 86 rfl ?_
  refine g_iast (k := 5) hX dM_init_86 (g_set_same _ _ _) zq6 (g_ix.nat (k := 5) (by decide) (by decide)) 87 rfl ?_
  rw [g_set_set]
  refine g_dup hX dM_init_87 rfl 88 rfl ?_
  refine g_bipush hX dM_init_88 (v := 6) (by decide) 90 rfl ?_
  refine g_iconst hX dM_init_90 (v := 4) (by decide) 91 rfl ?_
  refine g_iast (k := 6) hX dM_init_91 (g_set_same _ _ _) zq6 (g_ix.nat (k := 6) (by decide) (by decide)) 92 rfl ?_
  rw [g_set_set]
  refine g_putF0 hX dM_init_92 fM_30 rfl ((g_set_ne _ _ hnq6).trans ho.1) ho.2 rfl rfl (Nat.le_of_ble_eq_true rfl) 95 rfl ?_
  refine w_step (w_arr hG (by decide) 37 (by decide) hb (g_ints E 7 q_th0) (.inr (7, [.int 0, .int 0, .ref q0, .ref q1, .int 0, .ref q2, .ref q3, .ref q4, .ref q5, .ref q6, .null, .null, .null, .null, .int 0, .null, .null, .null, .null, .null, .null, .int 0, .int 0, .int 0, .int 0, .null, .null, .null, .null])) hq6 zq6) (fun h hG => ?_)
  replace hb := (show w_uA _ 37 0 q6 30 0 = _ from (w_uA_tag _ (by decide)).trans hb)
  refine g_aload_n hX dM_init_95 rfl rfl (by first | rfl | exact g_rfr _) 96 rfl ?_
  refine g_bipush hX dM_init_96 (v := 24) (by decide) 98 rfl ?_
  have ho := w_obj hG (by decide) hb
  refine g_newa (t := 0) (N := 24) (a0 := (24, .inl (fun _ => 0))) hX dM_init_98 a_int rfl rfl (fun C q => by cases q) (fun _ => rfl) (by decide) (by decide) (by decide) (by rw [hR]; decide) (by rw [hR]; decide) 100 rfl (fun q7 hq7 zq7 => ?_)
  have hnq7 : b ≠ q7 := fun e9 => by rw [← e9, ho.1] at hq7; cases hq7
  refine g_putF0 hX dM_init_100 fM_33 rfl ((g_set_ne _ _ hnq7).trans ho.1) ho.2 rfl rfl (Nat.le_of_ble_eq_true rfl) 103 rfl ?_
  refine w_step (w_arr hG (by decide) 38 (by decide) hb (g_ints E 24 (fun _ => 0)) (.inr (7, [.int 0, .int 0, .ref q0, .ref q1, .int 0, .ref q2, .ref q3, .ref q4, .ref q5, .ref q6, .ref q7, .null, .null, .null, .int 0, .null, .null, .null, .null, .null, .null, .int 0, .int 0, .int 0, .int 0, .null, .null, .null, .null])) hq7 zq7) (fun h hG => ?_)
  replace hb := (show w_uA _ 38 0 q7 30 0 = _ from (w_uA_tag _ (by decide)).trans hb)
  refine g_aload_n hX dM_init_103 rfl rfl (by first | rfl | exact g_rfr _) 104 rfl ?_
  refine g_bipush hX dM_init_104 (v := 96) (by decide) 106 rfl ?_
  have ho := w_obj hG (by decide) hb
  refine g_newa (t := 0) (N := 96) (a0 := (96, .inl (fun _ => 0))) hX dM_init_106 a_int rfl rfl (fun C q => by cases q) (fun _ => rfl) (by decide) (by decide) (by decide) (by rw [hR]; decide) (by rw [hR]; decide) 108 rfl (fun q8 hq8 zq8 => ?_)
  have hnq8 : b ≠ q8 := fun e9 => by rw [← e9, ho.1] at hq8; cases hq8
  refine g_putF0 hX dM_init_108 fM_36 rfl ((g_set_ne _ _ hnq8).trans ho.1) ho.2 rfl rfl (Nat.le_of_ble_eq_true rfl) 111 rfl ?_
  refine w_step (w_arr hG (by decide) 39 (by decide) hb (g_ints E 96 (fun _ => 0)) (.inr (7, [.int 0, .int 0, .ref q0, .ref q1, .int 0, .ref q2, .ref q3, .ref q4, .ref q5, .ref q6, .ref q7, .ref q8, .null, .null, .int 0, .null, .null, .null, .null, .null, .null, .int 0, .int 0, .int 0, .int 0, .null, .null, .null, .null])) hq8 zq8) (fun h hG => ?_)
  replace hb := (show w_uA _ 39 0 q8 30 0 = _ from (w_uA_tag _ (by decide)).trans hb)
  refine g_aload_n hX dM_init_111 rfl rfl (by first | rfl | exact g_rfr _) 112 rfl ?_
  refine g_bipush hX dM_init_112 (v := 96) (by decide) 114 rfl ?_
  have ho := w_obj hG (by decide) hb
  refine g_newa (t := 0) (N := 96) (a0 := (96, .inl (fun _ => 0))) hX dM_init_114 a_int rfl rfl (fun C q => by cases q) (fun _ => rfl) (by decide) (by decide) (by decide) (by rw [hR]; decide) (by rw [hR]; decide) 116 rfl (fun q9 hq9 zq9 => ?_)
  have hnq9 : b ≠ q9 := fun e9 => by rw [← e9, ho.1] at hq9; cases hq9
  refine g_putF0 hX dM_init_116 fM_39 rfl ((g_set_ne _ _ hnq9).trans ho.1) ho.2 rfl rfl (Nat.le_of_ble_eq_true rfl) 119 rfl ?_
  refine w_step (w_arr hG (by decide) 40 (by decide) hb (g_ints E 96 (fun _ => 0)) (.inr (7, [.int 0, .int 0, .ref q0, .ref q1, .int 0, .ref q2, .ref q3, .ref q4, .ref q5, .ref q6, .ref q7, .ref q8, .ref q9, .null, .int 0, .null, .null, .null, .null, .null, .null, .int 0, .int 0, .int 0, .int 0, .null, .null, .null, .null])) hq9 zq9) (fun h hG => ?_)
  replace hb := (show w_uA _ 40 0 q9 30 0 = _ from (w_uA_tag _ (by decide)).trans hb)
  refine g_aload_n hX dM_init_119 rfl rfl (by first | rfl | exact g_rfr _) 120 rfl ?_
  refine g_sipush hX dM_init_120 (v := 384) (by decide) 123 rfl ?_
  have ho := w_obj hG (by decide) hb
  refine g_newa (t := 0) (N := 384) (a0 := (384, .inl (fun _ => 0))) hX dM_init_123 a_int rfl rfl (fun C q => by cases q) (fun _ => rfl) (by decide) (by decide) (by decide) (by rw [hR]; decide) (by rw [hR]; decide) 125 rfl (fun q10 hq10 zq10 => ?_)
  have hnq10 : b ≠ q10 := fun e9 => by rw [← e9, ho.1] at hq10; cases hq10
  refine g_putF0 hX dM_init_125 fM_42 rfl ((g_set_ne _ _ hnq10).trans ho.1) ho.2 rfl rfl (Nat.le_of_ble_eq_true rfl) 128 rfl ?_
  refine w_step (w_arr hG (by decide) 41 (by decide) hb (g_ints E 384 (fun _ => 0)) (.inr (7, [.int 0, .int 0, .ref q0, .ref q1, .int 0, .ref q2, .ref q3, .ref q4, .ref q5, .ref q6, .ref q7, .ref q8, .ref q9, .ref q10, .int 0, .null, .null, .null, .null, .null, .null, .int 0, .int 0, .int 0, .int 0, .null, .null, .null, .null])) hq10 zq10) (fun h hG => ?_)
  replace hb := (show w_uA _ 41 0 q10 30 0 = _ from (w_uA_tag _ (by decide)).trans hb)
  refine g_aload_n hX dM_init_128 rfl rfl (by first | rfl | exact g_rfr _) 129 rfl ?_
  refine g_bipush hX dM_init_129 (v := 24) (by decide) 131 rfl ?_
  have ho := w_obj hG (by decide) hb
  refine g_newa (t := 0) (N := 24) (a0 := (24, .inl (fun _ => 0))) hX dM_init_131 a_int rfl rfl (fun C q => by cases q) (fun _ => rfl) (by decide) (by decide) (by decide) (by rw [hR]; decide) (by rw [hR]; decide) 133 rfl (fun q11 hq11 zq11 => ?_)
  have hnq11 : b ≠ q11 := fun e9 => by rw [← e9, ho.1] at hq11; cases hq11
  refine g_putF0 hX dM_init_133 fM_45 rfl ((g_set_ne _ _ hnq11).trans ho.1) ho.2 rfl rfl (Nat.le_of_ble_eq_true rfl) 136 rfl ?_
  refine w_step (w_arr hG (by decide) 42 (by decide) hb (g_ints E 24 (fun _ => 0)) (.inr (7, [.int 0, .int 0, .ref q0, .ref q1, .int 0, .ref q2, .ref q3, .ref q4, .ref q5, .ref q6, .ref q7, .ref q8, .ref q9, .ref q10, .int 0, .ref q11, .null, .null, .null, .null, .null, .int 0, .int 0, .int 0, .int 0, .null, .null, .null, .null])) hq11 zq11) (fun h hG => ?_)
  replace hb := (show w_uA _ 42 0 q11 30 0 = _ from (w_uA_tag _ (by decide)).trans hb)
  refine g_aload_n hX dM_init_136 rfl rfl (by first | rfl | exact g_rfr _) 137 rfl ?_
  refine g_bipush hX dM_init_137 (v := 24) (by decide) 139 rfl ?_
  have ho := w_obj hG (by decide) hb
  refine g_newa (t := 0) (N := 24) (a0 := (24, .inl (fun _ => 0))) hX dM_init_139 a_int rfl rfl (fun C q => by cases q) (fun _ => rfl) (by decide) (by decide) (by decide) (by rw [hR]; decide) (by rw [hR]; decide) 141 rfl (fun q12 hq12 zq12 => ?_)
  have hnq12 : b ≠ q12 := fun e9 => by rw [← e9, ho.1] at hq12; cases hq12
  refine g_putF0 hX dM_init_141 fM_48 rfl ((g_set_ne _ _ hnq12).trans ho.1) ho.2 rfl rfl (Nat.le_of_ble_eq_true rfl) 144 rfl ?_
  refine w_step (w_arr hG (by decide) 43 (by decide) hb (g_ints E 24 (fun _ => 0)) (.inr (7, [.int 0, .int 0, .ref q0, .ref q1, .int 0, .ref q2, .ref q3, .ref q4, .ref q5, .ref q6, .ref q7, .ref q8, .ref q9, .ref q10, .int 0, .ref q11, .ref q12, .null, .null, .null, .null, .int 0, .int 0, .int 0, .int 0, .null, .null, .null, .null])) hq12 zq12) (fun h hG => ?_)
  replace hb := (show w_uA _ 43 0 q12 30 0 = _ from (w_uA_tag _ (by decide)).trans hb)
  refine g_aload_n hX dM_init_144 rfl rfl (by first | rfl | exact g_rfr _) 145 rfl ?_
  refine g_bipush hX dM_init_145 (v := 24) (by decide) 147 rfl ?_
  have ho := w_obj hG (by decide) hb
  refine g_newa (t := 0) (N := 24) (a0 := (24, .inl (fun _ => 0))) hX dM_init_147 a_int rfl rfl (fun C q => by cases q) (fun _ => rfl) (by decide) (by decide) (by decide) (by rw [hR]; decide) (by rw [hR]; decide) 149 rfl (fun q13 hq13 zq13 => ?_)
  have hnq13 : b ≠ q13 := fun e9 => by rw [← e9, ho.1] at hq13; cases hq13
  refine g_putF0 hX dM_init_149 fM_51 rfl ((g_set_ne _ _ hnq13).trans ho.1) ho.2 rfl rfl (Nat.le_of_ble_eq_true rfl) 152 rfl ?_
  refine w_step (w_arr hG (by decide) 44 (by decide) hb (g_ints E 24 (fun _ => 0)) (.inr (7, [.int 0, .int 0, .ref q0, .ref q1, .int 0, .ref q2, .ref q3, .ref q4, .ref q5, .ref q6, .ref q7, .ref q8, .ref q9, .ref q10, .int 0, .ref q11, .ref q12, .ref q13, .null, .null, .null, .int 0, .int 0, .int 0, .int 0, .null, .null, .null, .null])) hq13 zq13) (fun h hG => ?_)
  replace hb := (show w_uA _ 44 0 q13 30 0 = _ from (w_uA_tag _ (by decide)).trans hb)
  refine g_aload_n hX dM_init_152 rfl rfl (by first | rfl | exact g_rfr _) 153 rfl ?_
  refine g_bipush hX dM_init_153 (v := 24) (by decide) 155 rfl ?_
  have ho := w_obj hG (by decide) hb
  refine g_newa (t := 0) (N := 24) (a0 := (24, .inl (fun _ => 0))) hX dM_init_155 a_int rfl rfl (fun C q => by cases q) (fun _ => rfl) (by decide) (by decide) (by decide) (by rw [hR]; decide) (by rw [hR]; decide) 157 rfl (fun q14 hq14 zq14 => ?_)
  have hnq14 : b ≠ q14 := fun e9 => by rw [← e9, ho.1] at hq14; cases hq14
  refine g_putF0 hX dM_init_157 fM_54 rfl ((g_set_ne _ _ hnq14).trans ho.1) ho.2 rfl rfl (Nat.le_of_ble_eq_true rfl) 160 rfl ?_
  refine w_step (w_arr hG (by decide) 45 (by decide) hb (g_ints E 24 (fun _ => 0)) (.inr (7, [.int 0, .int 0, .ref q0, .ref q1, .int 0, .ref q2, .ref q3, .ref q4, .ref q5, .ref q6, .ref q7, .ref q8, .ref q9, .ref q10, .int 0, .ref q11, .ref q12, .ref q13, .ref q14, .null, .null, .int 0, .int 0, .int 0, .int 0, .null, .null, .null, .null])) hq14 zq14) (fun h hG => ?_)
  replace hb := (show w_uA _ 45 0 q14 30 0 = _ from (w_uA_tag _ (by decide)).trans hb)
  refine g_aload_n hX dM_init_160 rfl rfl (by first | rfl | exact g_rfr _) 161 rfl ?_
  refine g_bipush hX dM_init_161 (v := 24) (by decide) 163 rfl ?_
  have ho := w_obj hG (by decide) hb
  refine g_newa (t := 0) (N := 24) (a0 := (24, .inl (fun _ => 0))) hX dM_init_163 a_int rfl rfl (fun C q => by cases q) (fun _ => rfl) (by decide) (by decide) (by decide) (by rw [hR]; decide) (by rw [hR]; decide) 165 rfl (fun q15 hq15 zq15 => ?_)
  have hnq15 : b ≠ q15 := fun e9 => by rw [← e9, ho.1] at hq15; cases hq15
  refine g_putF0 hX dM_init_165 fM_57 rfl ((g_set_ne _ _ hnq15).trans ho.1) ho.2 rfl rfl (Nat.le_of_ble_eq_true rfl) 168 rfl ?_
  refine w_step (w_arr hG (by decide) 46 (by decide) hb (g_ints E 24 (fun _ => 0)) (.inr (7, [.int 0, .int 0, .ref q0, .ref q1, .int 0, .ref q2, .ref q3, .ref q4, .ref q5, .ref q6, .ref q7, .ref q8, .ref q9, .ref q10, .int 0, .ref q11, .ref q12, .ref q13, .ref q14, .ref q15, .null, .int 0, .int 0, .int 0, .int 0, .null, .null, .null, .null])) hq15 zq15) (fun h hG => ?_)
  replace hb := (show w_uA _ 46 0 q15 30 0 = _ from (w_uA_tag _ (by decide)).trans hb)
  refine g_aload_n hX dM_init_168 rfl rfl (by first | rfl | exact g_rfr _) 169 rfl ?_
  refine g_bipush hX dM_init_169 (v := 24) (by decide) 171 rfl ?_
  have ho := w_obj hG (by decide) hb
  refine g_newa (t := 0) (N := 24) (a0 := (24, .inl (fun _ => 0))) hX dM_init_171 a_int rfl rfl (fun C q => by cases q) (fun _ => rfl) (by decide) (by decide) (by decide) (by rw [hR]; decide) (by rw [hR]; decide) 173 rfl (fun q16 hq16 zq16 => ?_)
  have hnq16 : b ≠ q16 := fun e9 => by rw [← e9, ho.1] at hq16; cases hq16
  refine g_putF0 hX dM_init_173 fM_60 rfl ((g_set_ne _ _ hnq16).trans ho.1) ho.2 rfl rfl (Nat.le_of_ble_eq_true rfl) 176 rfl ?_
  refine w_step (w_arr hG (by decide) 47 (by decide) hb (g_ints E 24 (fun _ => 0)) (.inr (7, [.int 0, .int 0, .ref q0, .ref q1, .int 0, .ref q2, .ref q3, .ref q4, .ref q5, .ref q6, .ref q7, .ref q8, .ref q9, .ref q10, .int 0, .ref q11, .ref q12, .ref q13, .ref q14, .ref q15, .ref q16, .int 0, .int 0, .int 0, .int 0, .null, .null, .null, .null])) hq16 zq16) (fun h hG => ?_)
  replace hb := (show w_uA _ 47 0 q16 30 0 = _ from (w_uA_tag _ (by decide)).trans hb)
  refine g_aload_n hX dM_init_176 rfl rfl (by first | rfl | exact g_rfr _) 177 rfl ?_
  refine g_bipush hX dM_init_177 (v := 16) (by decide) 179 rfl ?_
  have ho := w_obj hG (by decide) hb
  refine g_newa (t := 0) (N := 16) (a0 := (16, .inl (fun _ => 0))) hX dM_init_179 a_int rfl rfl (fun C q => by cases q) (fun _ => rfl) (by decide) (by decide) (by decide) (by rw [hR]; decide) (by rw [hR]; decide) 181 rfl (fun q17 hq17 zq17 => ?_)
  have hnq17 : b ≠ q17 := fun e9 => by rw [← e9, ho.1] at hq17; cases hq17
  refine g_putF0 hX dM_init_181 fM_63 rfl ((g_set_ne _ _ hnq17).trans ho.1) ho.2 rfl rfl (Nat.le_of_ble_eq_true rfl) 184 rfl ?_
  refine w_step (w_arr hG (by decide) 48 (by decide) hb (g_ints E 16 (fun _ => 0)) (.inr (7, [.int 0, .int 0, .ref q0, .ref q1, .int 0, .ref q2, .ref q3, .ref q4, .ref q5, .ref q6, .ref q7, .ref q8, .ref q9, .ref q10, .int 0, .ref q11, .ref q12, .ref q13, .ref q14, .ref q15, .ref q16, .int 0, .int 0, .int 0, .int 0, .ref q17, .null, .null, .null])) hq17 zq17) (fun h hG => ?_)
  replace hb := (show w_uA _ 48 0 q17 30 0 = _ from (w_uA_tag _ (by decide)).trans hb)
  refine g_aload_n hX dM_init_184 rfl rfl (by first | rfl | exact g_rfr _) 185 rfl ?_
  refine g_bipush hX dM_init_185 (v := 16) (by decide) 187 rfl ?_
  have ho := w_obj hG (by decide) hb
  refine g_newa (t := 0) (N := 16) (a0 := (16, .inl (fun _ => 0))) hX dM_init_187 a_int rfl rfl (fun C q => by cases q) (fun _ => rfl) (by decide) (by decide) (by decide) (by rw [hR]; decide) (by rw [hR]; decide) 189 rfl (fun q18 hq18 zq18 => ?_)
  have hnq18 : b ≠ q18 := fun e9 => by rw [← e9, ho.1] at hq18; cases hq18
  refine g_putF0 hX dM_init_189 fM_66 rfl ((g_set_ne _ _ hnq18).trans ho.1) ho.2 rfl rfl (Nat.le_of_ble_eq_true rfl) 192 rfl ?_
  refine w_step (w_arr hG (by decide) 49 (by decide) hb (g_ints E 16 (fun _ => 0)) (.inr (7, [.int 0, .int 0, .ref q0, .ref q1, .int 0, .ref q2, .ref q3, .ref q4, .ref q5, .ref q6, .ref q7, .ref q8, .ref q9, .ref q10, .int 0, .ref q11, .ref q12, .ref q13, .ref q14, .ref q15, .ref q16, .int 0, .int 0, .int 0, .int 0, .ref q17, .ref q18, .null, .null])) hq18 zq18) (fun h hG => ?_)
  replace hb := (show w_uA _ 49 0 q18 30 0 = _ from (w_uA_tag _ (by decide)).trans hb)
  refine g_aload_n hX dM_init_192 rfl rfl (by first | rfl | exact g_rfr _) 193 rfl ?_
  refine g_bipush hX dM_init_193 (v := 16) (by decide) 195 rfl ?_
  have ho := w_obj hG (by decide) hb
  refine g_newa (t := 0) (N := 16) (a0 := (16, .inl (fun _ => 0))) hX dM_init_195 a_int rfl rfl (fun C q => by cases q) (fun _ => rfl) (by decide) (by decide) (by decide) (by rw [hR]; decide) (by rw [hR]; decide) 197 rfl (fun q19 hq19 zq19 => ?_)
  have hnq19 : b ≠ q19 := fun e9 => by rw [← e9, ho.1] at hq19; cases hq19
  refine g_putF0 hX dM_init_197 fM_69 rfl ((g_set_ne _ _ hnq19).trans ho.1) ho.2 rfl rfl (Nat.le_of_ble_eq_true rfl) 200 rfl ?_
  refine w_step (w_arr hG (by decide) 50 (by decide) hb (g_ints E 16 (fun _ => 0)) (.inr (7, [.int 0, .int 0, .ref q0, .ref q1, .int 0, .ref q2, .ref q3, .ref q4, .ref q5, .ref q6, .ref q7, .ref q8, .ref q9, .ref q10, .int 0, .ref q11, .ref q12, .ref q13, .ref q14, .ref q15, .ref q16, .int 0, .int 0, .int 0, .int 0, .ref q17, .ref q18, .ref q19, .null])) hq19 zq19) (fun h hG => ?_)
  replace hb := (show w_uA _ 50 0 q19 30 0 = _ from (w_uA_tag _ (by decide)).trans hb)
  refine g_aload_n hX dM_init_200 rfl rfl (by first | rfl | exact g_rfr _) 201 rfl ?_
  refine g_bipush hX dM_init_201 (v := 16) (by decide) 203 rfl ?_
  have ho := w_obj hG (by decide) hb
  refine g_newa (t := 0) (N := 16) (a0 := (16, .inl (fun _ => 0))) hX dM_init_203 a_int rfl rfl (fun C q => by cases q) (fun _ => rfl) (by decide) (by decide) (by decide) (by rw [hR]; decide) (by rw [hR]; decide) 205 rfl (fun q20 hq20 zq20 => ?_)
  have hnq20 : b ≠ q20 := fun e9 => by rw [← e9, ho.1] at hq20; cases hq20
  refine g_putF0 hX dM_init_205 fM_72 rfl ((g_set_ne _ _ hnq20).trans ho.1) ho.2 rfl rfl (Nat.le_of_ble_eq_true rfl) 208 rfl ?_
  refine w_step (w_arr hG (by decide) 51 (by decide) hb (g_ints E 16 (fun _ => 0)) (.inr (7, [.int 0, .int 0, .ref q0, .ref q1, .int 0, .ref q2, .ref q3, .ref q4, .ref q5, .ref q6, .ref q7, .ref q8, .ref q9, .ref q10, .int 0, .ref q11, .ref q12, .ref q13, .ref q14, .ref q15, .ref q16, .int 0, .int 0, .int 0, .int 0, .ref q17, .ref q18, .ref q19, .ref q20])) hq20 zq20) (fun h hG => ?_)
  replace hb := (show w_uA _ 51 0 q20 30 0 = _ from (w_uA_tag _ (by decide)).trans hb)
  refine g_vret hX rfl dM_init_208 ⟨rfl, (w_uA (w_uA (w_uA (w_uA (w_uA (w_uA (w_uA (w_uA (w_uA (w_uA (w_uA (w_uA (w_uA (w_uA (w_uA (w_uA (w_uA (w_uA (w_uA (w_uA (w_uA A 31 0 q0) 32 0 q1) 33 0 q2) 34 0 q3) 35 0 q4) 36 0 q5) 37 0 q6) 38 0 q7) 39 0 q8) 40 0 q9) 41 0 q10) 42 0 q11) 43 0 q12) 44 0 q13) 45 0 q14) 46 0 q15) 47 0 q16) 48 0 q17) 49 0 q18) 50 0 q19) 51 0 q20), hC 0 (by decide), hb, hG.clw (fun k i hk => ?_)⟩ rfl (by rw [hR]; decide) (by rw [hR]; decide)
  obtain ⟨rfl, hk⟩ := hk
  have h3 : k = 51 ∨ k = 50 ∨ k = 49 ∨ k = 48 ∨ k = 47 ∨ k = 46 ∨ k = 45 ∨ k = 44 ∨ k = 43 ∨ k = 42 ∨ k = 41 ∨ k = 40 ∨ k = 39 ∨ k = 38 ∨ k = 37 ∨ k = 36 ∨ k = 35 ∨ k = 34 ∨ k = 33 ∨ k = 32 ∨ k = 31 ∨ k = 30 ∨ k = 28 ∨ k = 27 ∨ k = 26 ∨ k = 25 ∨ k = 24 ∨ k = 22 ∨ k = 20 ∨ k = 18 ∨ k = 16 ∨ k = 1 ∨ k = 0 := by simpa using hk
  rcases h3 with rfl | rfl | rfl | rfl | rfl | rfl | rfl | rfl | rfl | rfl | rfl | rfl | rfl | rfl | rfl | rfl | rfl | rfl | rfl | rfl | rfl | rfl | rfl | rfl | rfl | rfl | rfl | rfl | rfl | rfl | rfl | rfl | rfl
  · rfl
  · rfl
  · rfl
  · rfl
  · rfl
  · rfl
  · rfl
  · rfl
  · rfl
  · rfl
  · rfl
  · rfl
  · rfl
  · rfl
  · rfl
  · rfl
  · rfl
  · rfl
  · rfl
  · show g_ints E 12 (fun _ => 0) = g_ints E 12 (fun p => nI (q_S0.1 1 p) - 1)
    rw [q_S0_32]
  · rfl
  · rfl
  · exact w_u28 (A := C) (B := (w_uA (w_uA (w_uA (w_uA (w_uA (w_uA (w_uA (w_uA (w_uA (w_uA (w_uA (w_uA (w_uA (w_uA (w_uA (w_uA (w_uA (w_uA (w_uA (w_uA (w_uA A 31 0 q0) 32 0 q1) 33 0 q2) 34 0 q3) 35 0 q4) 36 0 q5) 37 0 q6) 38 0 q7) 39 0 q8) 40 0 q9) 41 0 q10) 42 0 q11) 43 0 q12) 44 0 q13) 45 0 q14) 46 0 q15) 47 0 q16) 48 0 q17) 49 0 q18) 50 0 q19) 51 0 q20)) (S := q_S0)
  · exact w_u27 (A := C) (B := (w_uA (w_uA (w_uA (w_uA (w_uA (w_uA (w_uA (w_uA (w_uA (w_uA (w_uA (w_uA (w_uA (w_uA (w_uA (w_uA (w_uA (w_uA (w_uA (w_uA (w_uA A 31 0 q0) 32 0 q1) 33 0 q2) 34 0 q3) 35 0 q4) 36 0 q5) 37 0 q6) 38 0 q7) 39 0 q8) 40 0 q9) 41 0 q10) 42 0 q11) 43 0 q12) 44 0 q13) 45 0 q14) 46 0 q15) 47 0 q16) 48 0 q17) 49 0 q18) 50 0 q19) 51 0 q20)) (S := q_S0)
  · exact w_u26 (A := C) (B := (w_uA (w_uA (w_uA (w_uA (w_uA (w_uA (w_uA (w_uA (w_uA (w_uA (w_uA (w_uA (w_uA (w_uA (w_uA (w_uA (w_uA (w_uA (w_uA (w_uA (w_uA A 31 0 q0) 32 0 q1) 33 0 q2) 34 0 q3) 35 0 q4) 36 0 q5) 37 0 q6) 38 0 q7) 39 0 q8) 40 0 q9) 41 0 q10) 42 0 q11) 43 0 q12) 44 0 q13) 45 0 q14) 46 0 q15) 47 0 q16) 48 0 q17) 49 0 q18) 50 0 q19) 51 0 q20)) (S := q_S0)
  · exact w_u25 (A := C) (B := (w_uA (w_uA (w_uA (w_uA (w_uA (w_uA (w_uA (w_uA (w_uA (w_uA (w_uA (w_uA (w_uA (w_uA (w_uA (w_uA (w_uA (w_uA (w_uA (w_uA (w_uA A 31 0 q0) 32 0 q1) 33 0 q2) 34 0 q3) 35 0 q4) 36 0 q5) 37 0 q6) 38 0 q7) 39 0 q8) 40 0 q9) 41 0 q10) 42 0 q11) 43 0 q12) 44 0 q13) 45 0 q14) 46 0 q15) 47 0 q16) 48 0 q17) 49 0 q18) 50 0 q19) 51 0 q20)) (S := q_S0)
  · exact w_u24 (A := C) (B := (w_uA (w_uA (w_uA (w_uA (w_uA (w_uA (w_uA (w_uA (w_uA (w_uA (w_uA (w_uA (w_uA (w_uA (w_uA (w_uA (w_uA (w_uA (w_uA (w_uA (w_uA A 31 0 q0) 32 0 q1) 33 0 q2) 34 0 q3) 35 0 q4) 36 0 q5) 37 0 q6) 38 0 q7) 39 0 q8) 40 0 q9) 41 0 q10) 42 0 q11) 43 0 q12) 44 0 q13) 45 0 q14) 46 0 q15) 47 0 q16) 48 0 q17) 49 0 q18) 50 0 q19) 51 0 q20)) (S := q_S0) ((hC 25 (by decide)).symm) ((hC 26 (by decide)).symm) ((hC 27 (by decide)).symm) ((hC 28 (by decide)).symm)
  · exact w_u22 (A := C) (B := (w_uA (w_uA (w_uA (w_uA (w_uA (w_uA (w_uA (w_uA (w_uA (w_uA (w_uA (w_uA (w_uA (w_uA (w_uA (w_uA (w_uA (w_uA (w_uA (w_uA (w_uA A 31 0 q0) 32 0 q1) 33 0 q2) 34 0 q3) 35 0 q4) 36 0 q5) 37 0 q6) 38 0 q7) 39 0 q8) 40 0 q9) 41 0 q10) 42 0 q11) 43 0 q12) 44 0 q13) 45 0 q14) 46 0 q15) 47 0 q16) 48 0 q17) 49 0 q18) 50 0 q19) 51 0 q20)) (S := q_S0) ((hC 23 (by decide)).symm)
  · exact w_u20 (A := C) (B := (w_uA (w_uA (w_uA (w_uA (w_uA (w_uA (w_uA (w_uA (w_uA (w_uA (w_uA (w_uA (w_uA (w_uA (w_uA (w_uA (w_uA (w_uA (w_uA (w_uA (w_uA A 31 0 q0) 32 0 q1) 33 0 q2) 34 0 q3) 35 0 q4) 36 0 q5) 37 0 q6) 38 0 q7) 39 0 q8) 40 0 q9) 41 0 q10) 42 0 q11) 43 0 q12) 44 0 q13) 45 0 q14) 46 0 q15) 47 0 q16) 48 0 q17) 49 0 q18) 50 0 q19) 51 0 q20)) (S := q_S0) ((hC 21 (by decide)).symm)
  · exact w_u18 (A := C) (B := (w_uA (w_uA (w_uA (w_uA (w_uA (w_uA (w_uA (w_uA (w_uA (w_uA (w_uA (w_uA (w_uA (w_uA (w_uA (w_uA (w_uA (w_uA (w_uA (w_uA (w_uA A 31 0 q0) 32 0 q1) 33 0 q2) 34 0 q3) 35 0 q4) 36 0 q5) 37 0 q6) 38 0 q7) 39 0 q8) 40 0 q9) 41 0 q10) 42 0 q11) 43 0 q12) 44 0 q13) 45 0 q14) 46 0 q15) 47 0 q16) 48 0 q17) 49 0 q18) 50 0 q19) 51 0 q20)) (S := q_S0) ((hC 19 (by decide)).symm)
  · exact w_u16 (A := C) (B := (w_uA (w_uA (w_uA (w_uA (w_uA (w_uA (w_uA (w_uA (w_uA (w_uA (w_uA (w_uA (w_uA (w_uA (w_uA (w_uA (w_uA (w_uA (w_uA (w_uA (w_uA A 31 0 q0) 32 0 q1) 33 0 q2) 34 0 q3) 35 0 q4) 36 0 q5) 37 0 q6) 38 0 q7) 39 0 q8) 40 0 q9) 41 0 q10) 42 0 q11) 43 0 q12) 44 0 q13) 45 0 q14) 46 0 q15) 47 0 q16) 48 0 q17) 49 0 q18) 50 0 q19) 51 0 q20)) (S := q_S0) ((hC 17 (by decide)).symm)
  · exact w_u1 (A := C) (B := (w_uA (w_uA (w_uA (w_uA (w_uA (w_uA (w_uA (w_uA (w_uA (w_uA (w_uA (w_uA (w_uA (w_uA (w_uA (w_uA (w_uA (w_uA (w_uA (w_uA (w_uA A 31 0 q0) 32 0 q1) 33 0 q2) 34 0 q3) 35 0 q4) 36 0 q5) 37 0 q6) 38 0 q7) 39 0 q8) 40 0 q9) 41 0 q10) 42 0 q11) 43 0 q12) 44 0 q13) 45 0 q14) 46 0 q15) 47 0 q16) 48 0 q17) 49 0 q18) 50 0 q19) 51 0 q20)) (S := q_S0)
  · exact w_u0 (A := C) (B := (w_uA (w_uA (w_uA (w_uA (w_uA (w_uA (w_uA (w_uA (w_uA (w_uA (w_uA (w_uA (w_uA (w_uA (w_uA (w_uA (w_uA (w_uA (w_uA (w_uA (w_uA A 31 0 q0) 32 0 q1) 33 0 q2) 34 0 q3) 35 0 q4) 36 0 q5) 37 0 q6) 38 0 q7) 39 0 q8) 40 0 q9) 41 0 q10) 42 0 q11) 43 0 q12) 44 0 q13) 45 0 q14) 46 0 q15) 47 0 q16) 48 0 q17) 49 0 q18) 50 0 q19) 51 0 q20)) (S := q_S0) ((hC 1 (by decide)).symm) ((hC 16 (by decide)).symm) ((hC 18 (by decide)).symm) ((hC 20 (by decide)).symm) ((hC 22 (by decide)).symm) ((hC 24 (by decide)).symm)
