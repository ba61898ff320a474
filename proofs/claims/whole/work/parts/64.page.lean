/-! page: worlds inside -/
theorem c_addWb {l : Launch} (hl : l.stackTraces = false) {E : g_E} {A : w_A} {lv : Nat → Nat → Prop} {cl : Nat → Nat → va_E} {h : g_H} (hG : w_G E A lv cl h) {k i t x0 ct Nt b e : Nat} {xs : List Nat} {Cn : String} {Tt : u_T} (hb : A k i = b) (he : A t x0 = e) (hk : lv k i) (hkc : cl k i = w_list E (A (k + 1) i) xs.length) (hd : xs ≠ [] → lv (k + 1) i ∧ cl (k + 1) i = w_data E xs (A t)) (hxs : ∀ x, x ∈ xs → lv t x ∧ ∃ fs, cl t x = .inr (ct, fs)) (hx0 : lv t x0 ∧ ∃ fs, cl t x0 = .inr (ct, fs)) (hn : xs.length < 33) (hct : g_cl[ct]? = some (Cn, Tt, Nt)) (hcast : Cond.castable Cn "java/lang/Object" ∈ g_wl) (hc6 : ct ≠ 6) :
    g_Ct l mA_add1 6 108 1 33 [.ref b, .ref e] E h (false, fun r' h' => r' = .inr (some (.int 1)) ∧ ∃ dd', w_G E (w_uA A (k + 1) i dd') (w_ul lv (k + 1) i) (w_uc (w_uc cl (k + 1) i (w_data E (xs ++ [x0]) (A t))) k i (w_list E dd' (xs.length + 1))) h') := by
  subst hb
  subst he
  exact c_addW hl hG hk hkc hd hxs hx0 hn hct hcast hc6
theorem c_P_initW {l : Launch} (hl : l.stackTraces = false) {E : g_E} {A : w_A} {lv : Nat → Nat → Prop} {cl : Nat → Nat → va_E} {h : g_H} (hG : w_G E A lv cl h) {n b : Nat} {k : Int32} {r : Option Nat} (hb : A 2 n = b) (hv : lv 2 n) (hc : cl 2 n = .inr (1, [.int 0, .null, .null, .null])) :
    g_Ct l mP_init 4 50 2 6 [.ref b, .int k, va_rf r] E h (false, fun r' h' => r' = .inr none ∧ ∃ q0 q1, w_G E (w_uA (w_uA A 3 n q0) 5 n q1) (w_ul (w_ul lv 3 n) 5 n) (w_uc (w_uc (w_uc cl 3 n (g_L0 E)) 5 n (g_L0 E)) 2 n (.inr (1, [.int k, va_rf r, .ref q0, .ref q1]))) h') := by
  subst hb
  refine (c_P_init hl (b := A 2 n) (by rw [hG.1 2 n hv, hc]) (hG.2.1 2 n hv)).imp (fun r' h' hP => ?_)
  obtain ⟨q0, q1, f0, b0, f1, b1, hr, hh⟩ := hP
  refine ⟨hr, q0, q1, ?_⟩
  have h2 := ((hG.new 3 n (g_L0 E) f0 b0).new 5 n (g_L0 E) f1 b1).put (k0 := 2) (i0 := n) (Or.inr (Or.inr hv)) (.inr (1, [.int k, va_rf r, .ref q0, .ref q1]))
  rw [w_uA_tag _ (by decide), w_uA_tag _ (by decide)] at h2
  rw [hh]
  exact h2
theorem c_H_initW {l : Launch} (hl : l.stackTraces = false) {E : g_E} {A : w_A} {lv : Nat → Nat → Prop} {cl : Nat → Nat → va_E} {h : g_H} (hG : w_G E A lv cl h) {n b p : Nat} {i s : Int32} (hb : A 7 n = b) (hv : lv 7 n) (hc : cl 7 n = .inr (2, [.int 0, .null, .int 0, .null, .null, .null, .null])) :
    g_Ct l mH_init 4 50 4 20 [.ref b, .int i, .ref p, .int s] E h (false, fun r' h' => r' = .inr none ∧ ∃ q0 q1 q2 q3, w_G E (w_uA (w_uA (w_uA (w_uA A 8 n q0) 9 n q1) 10 n q2) 12 n q3) (w_ul (w_ul (w_ul (w_ul lv 8 n) 9 n) 10 n) 12 n) (w_uc (w_uc (w_uc (w_uc (w_uc cl 8 n (g_bools E 7 (fun _ => 0))) 9 n (g_ints E 7 (fun _ => 0))) 10 n (g_L0 E)) 12 n (g_L0 E)) 7 n (.inr (2, [.int i, .ref p, .int s, .ref q0, .ref q1, .ref q2, .ref q3]))) h') := by
  subst hb
  refine (c_H_init hl (b := A 7 n) (by rw [hG.1 7 n hv, hc]) (hG.2.1 7 n hv)).imp (fun r' h' hP => ?_)
  obtain ⟨q0, q1, q2, q3, f0, b0, f1, b1, f2, b2, f3, b3, hr, hh⟩ := hP
  refine ⟨hr, q0, q1, q2, q3, ?_⟩
  have h2 := ((((hG.new 8 n (g_bools E 7 (fun _ => 0)) f0 b0).new 9 n (g_ints E 7 (fun _ => 0)) f1 b1).new 10 n (g_L0 E) f2 b2).new 12 n (g_L0 E) f3 b3).put (k0 := 7) (i0 := n) (Or.inr (Or.inr (Or.inr (Or.inr hv)))) (.inr (2, [.int i, .ref p, .int s, .ref q0, .ref q1, .ref q2, .ref q3]))
  rw [w_uA_tag _ (by decide), w_uA_tag _ (by decide), w_uA_tag _ (by decide), w_uA_tag _ (by decide)] at h2
  rw [hh]
  exact h2
theorem w_G.same {E : g_E} {A : w_A} {lv : Nat → Nat → Prop} {cl : Nat → Nat → va_E} {h : g_H} (hG : w_G E A lv cl h) {k i : Nat} {e : va_E} (he : cl k i = e) : w_G E A lv (w_uc cl k i e) h := by
  refine ⟨fun k' i' hk => ?_, hG.2.1, hG.2.2⟩
  by_cases hq : k' = k ∧ i' = i
  · rw [show w_uc cl k i e k' i' = e from if_pos hq, hq.1, hq.2, ← he]
    rw [hq.1, hq.2] at hk
    exact hG.1 k i hk
  · rw [show w_uc cl k i e k' i' = cl k' i' from if_neg hq]
    exact hG.1 k' i' hk
theorem q_par_new {S : q_S} {k : Int32} {pp : Nat} : q_par (q_up1 (q_up1 (q_up2 S 0 (q_np S) k) 1 (q_np S) pp) 0 0 (q_np S + 1)) (q_np S) = if pp = 0 then none else some (pp - 1) := by
  unfold q_par
  rw [show (q_up1 (q_up1 (q_up2 S 0 (q_np S) k) 1 (q_np S) pp) 0 0 (q_np S + 1)).1 1 (q_np S) = pp from if_pos rfl]
def w_same (A B : w_A) : Prop := B 0 0 = A 0 0 ∧ B 29 0 = A 29 0 ∧ B 30 0 = A 30 0
set_option maxRecDepth 100000 in
set_option maxHeartbeats 4000000 in
theorem c_S_addSlide_m {l : Launch} (hl : l.stackTraces = false) {E : g_E} {A : w_A} {lv : Nat → Nat → Prop} {cl : Nat → Nat → va_E} {h : g_H} (hG : w_G E A lv cl h) {x0 e : Nat} {xs : List Nat} {sa sb c t : Int32} (he : A 2 x0 = e) (h0 : lv 0 0) (hc0 : cl 0 0 = (.inr (0, [.ref (A 1 0), .ref (A 16 0), .ref (A 18 0), .ref (A 20 0), .ref (A 22 0), .ref (A 24 0), .int sa, .int c, .int t]))) (hk : lv 18 0) (hkc : cl 18 0 = w_list E (A 19 0) xs.length) (hd : xs ≠ [] → lv 19 0 ∧ cl 19 0 = w_data E xs (A 2)) (hxs : ∀ x, x ∈ xs → lv 2 x ∧ ∃ fs, cl 2 x = .inr (1, fs)) (hx0 : lv 2 x0 ∧ ∃ fs, cl 2 x0 = .inr (1, fs)) (hn : xs.length < 33) (hsa : sa = -1) (hsb : sb = 0) : g_Ct l mS_addSlide 7 121 1 33 [.ref (A 0 0), .ref e] E h (false, fun r' h' => r' = .inr none ∧ ∃ d2, w_G E (w_uA A 19 0 d2) (w_ul lv 19 0) (w_uc (w_uc (w_uc cl 19 0 (w_data E (xs ++ [x0]) (A 2))) 18 0 (w_list E d2 (xs.length + 1))) 0 0 (.inr (0, [.ref (A 1 0), .ref (A 16 0), .ref (A 18 0), .ref (A 20 0), .ref (A 22 0), .ref (A 24 0), .int sb, .int c, .int t]))) h') := by
  refine g_Ct.of hl (by decide) (by first | rfl | simp [g_rfc, Value.category]) (Nat.le_of_ble_eq_true rfl) ?_
  intro X hX hXl hR
  have hs0 : h (A 0 0) = some (.inr (0, [.ref (A 1 0), .ref (A 16 0), .ref (A 18 0), .ref (A 20 0), .ref (A 22 0), .ref (A 24 0), .int sa, .int c, .int t])) := by rw [hG.1 0 0 h0, hc0]
  have hb0 := hG.2.1 0 0 h0
  show g_Go E X _ h true 0 0 0 [some (.ref (A 0 0)), some (.ref e)] []
  refine g_aload_n hX dS_addSlide_0 rfl rfl (by first | rfl | exact g_rfr _) 1 rfl ?_
  refine g_get hX dS_addSlide_1 fS_21 hs0 rfl 4 rfl ?_
  refine g_aload_n hX dS_addSlide_4 rfl rfl (by first | rfl | exact g_rfr _) 5 rfl ?_
  refine g_cF1 (wt := 0) hX (c_addWb (k := 18) (i := 0) (t := 2) hX.tr hG rfl he hk hkc hd hxs hx0 hn (ct := 1) rfl (g_in 1117 (by decide +kernel) (by decide +kernel)) (by decide)) dS_addSlide_5 (by rw [hG.1 18 0 hk, hkc]; rfl) kS_87 (g_rm.of hR (by decide) (by decide)) (by first | exact Nat.zero_le _ | (rw [hR]; decide)) (by first | exact Nat.zero_le _ | (rw [hR]; decide)) (by first | decide | (simp [Value.category])) (fun q => by cases q) 10 rfl (fun v h hP => ?_) (fun k h hP => by cases hP.1)
  obtain ⟨hv, d2, hG⟩ := hP
  cases hv
  show g_Go E X _ h false _ _ 10 _ [.int 1]
  have hs1 : h (A 0 0) = some (.inr (0, [.ref (A 1 0), .ref (A 16 0), .ref (A 18 0), .ref (A 20 0), .ref (A 22 0), .ref (A 24 0), .int sa, .int c, .int t])) := by
    have h9 := hG.1 0 0 (Or.inr h0)
    rw [w_uc_tag _ (by decide), w_uc_tag _ (by decide), hc0] at h9
    exact h9
  refine g_pop hX dS_addSlide_10 rfl 11 rfl ?_
  refine g_aload_n hX dS_addSlide_11 rfl rfl (by first | rfl | exact g_rfr _) 12 rfl ?_
  refine g_get hX dS_addSlide_12 fS_37 hs1 rfl 15 rfl ?_
  refine g_iconst hX dS_addSlide_15 (v := (-1)) (by decide) 16 rfl ?_
  refine g_icmp_ne hX dS_addSlide_16 24 19 (by decide) rfl (fun c16 => ?_) (fun c16 => ?_)
  · exact absurd hsa c16
  · refine g_aload_n hX dS_addSlide_19 rfl rfl (by first | rfl | exact g_rfr _) 20 rfl ?_
    refine g_iconst hX dS_addSlide_20 (v := 0) (by decide) 21 rfl ?_
    refine g_put0 hX dS_addSlide_21 fS_37 hs1 hb0 rfl rfl (Nat.le_of_ble_eq_true rfl) 24 rfl ?_
    exact g_vret hX rfl dS_addSlide_24 ⟨rfl, d2, by subst hsb; exact hG.put (k0 := 0) (i0 := 0) (Or.inr h0) _⟩ rfl (by rw [hR]; decide) (by rw [hR]; decide)
set_option maxRecDepth 100000 in
set_option maxHeartbeats 4000000 in
theorem c_S_addSlide_n {l : Launch} (hl : l.stackTraces = false) {E : g_E} {A : w_A} {lv : Nat → Nat → Prop} {cl : Nat → Nat → va_E} {h : g_H} (hG : w_G E A lv cl h) {x0 e : Nat} {xs : List Nat} {sa sb c t : Int32} (he : A 2 x0 = e) (h0 : lv 0 0) (hc0 : cl 0 0 = (.inr (0, [.ref (A 1 0), .ref (A 16 0), .ref (A 18 0), .ref (A 20 0), .ref (A 22 0), .ref (A 24 0), .int sa, .int c, .int t]))) (hk : lv 18 0) (hkc : cl 18 0 = w_list E (A 19 0) xs.length) (hd : xs ≠ [] → lv 19 0 ∧ cl 19 0 = w_data E xs (A 2)) (hxs : ∀ x, x ∈ xs → lv 2 x ∧ ∃ fs, cl 2 x = .inr (1, fs)) (hx0 : lv 2 x0 ∧ ∃ fs, cl 2 x0 = .inr (1, fs)) (hn : xs.length < 33) (hsa : ¬ sa = -1) (hsb : sb = sa) : g_Ct l mS_addSlide 7 121 1 33 [.ref (A 0 0), .ref e] E h (false, fun r' h' => r' = .inr none ∧ ∃ d2, w_G E (w_uA A 19 0 d2) (w_ul lv 19 0) (w_uc (w_uc (w_uc cl 19 0 (w_data E (xs ++ [x0]) (A 2))) 18 0 (w_list E d2 (xs.length + 1))) 0 0 (.inr (0, [.ref (A 1 0), .ref (A 16 0), .ref (A 18 0), .ref (A 20 0), .ref (A 22 0), .ref (A 24 0), .int sb, .int c, .int t]))) h') := by
  refine g_Ct.of hl (by decide) (by first | rfl | simp [g_rfc, Value.category]) (Nat.le_of_ble_eq_true rfl) ?_
  intro X hX hXl hR
  have hs0 : h (A 0 0) = some (.inr (0, [.ref (A 1 0), .ref (A 16 0), .ref (A 18 0), .ref (A 20 0), .ref (A 22 0), .ref (A 24 0), .int sa, .int c, .int t])) := by rw [hG.1 0 0 h0, hc0]
  have hb0 := hG.2.1 0 0 h0
  show g_Go E X _ h true 0 0 0 [some (.ref (A 0 0)), some (.ref e)] []
  refine g_aload_n hX dS_addSlide_0 rfl rfl (by first | rfl | exact g_rfr _) 1 rfl ?_
  refine g_get hX dS_addSlide_1 fS_21 hs0 rfl 4 rfl ?_
  refine g_aload_n hX dS_addSlide_4 rfl rfl (by first | rfl | exact g_rfr _) 5 rfl ?_
  refine g_cF1 (wt := 0) hX (c_addWb (k := 18) (i := 0) (t := 2) hX.tr hG rfl he hk hkc hd hxs hx0 hn (ct := 1) rfl (g_in 1117 (by decide +kernel) (by decide +kernel)) (by decide)) dS_addSlide_5 (by rw [hG.1 18 0 hk, hkc]; rfl) kS_87 (g_rm.of hR (by decide) (by decide)) (by first | exact Nat.zero_le _ | (rw [hR]; decide)) (by first | exact Nat.zero_le _ | (rw [hR]; decide)) (by first | decide | (simp [Value.category])) (fun q => by cases q) 10 rfl (fun v h hP => ?_) (fun k h hP => by cases hP.1)
  obtain ⟨hv, d2, hG⟩ := hP
  cases hv
  show g_Go E X _ h false _ _ 10 _ [.int 1]
  have hs1 : h (A 0 0) = some (.inr (0, [.ref (A 1 0), .ref (A 16 0), .ref (A 18 0), .ref (A 20 0), .ref (A 22 0), .ref (A 24 0), .int sa, .int c, .int t])) := by
    have h9 := hG.1 0 0 (Or.inr h0)
    rw [w_uc_tag _ (by decide), w_uc_tag _ (by decide), hc0] at h9
    exact h9
  refine g_pop hX dS_addSlide_10 rfl 11 rfl ?_
  refine g_aload_n hX dS_addSlide_11 rfl rfl (by first | rfl | exact g_rfr _) 12 rfl ?_
  refine g_get hX dS_addSlide_12 fS_37 hs1 rfl 15 rfl ?_
  refine g_iconst hX dS_addSlide_15 (v := (-1)) (by decide) 16 rfl ?_
  refine g_icmp_ne hX dS_addSlide_16 24 19 (by decide) rfl (fun c16 => ?_) (fun c16 => ?_)
  · exact g_vret hX rfl dS_addSlide_24 ⟨rfl, d2, by subst hsb; exact hG.same (by rw [w_uc_tag _ (by decide), w_uc_tag _ (by decide), hc0])⟩ rfl (by rw [hR]; decide) (by rw [hR]; decide)
  · exact absurd c16 hsa
set_option maxRecDepth 100000 in
set_option maxHeartbeats 4000000 in
theorem c_S_page_1 {l : Launch} (hl : l.stackTraces = false) {E : g_E} {A : w_A} {S Sm : q_S} {h : g_H} (hW : w_W E A S Sm h) (hB : w_B S) {k : Int32} (f : Int32) (hk : k < 0 ∨ ¬ k ≤ 2) : g_Ct l mS_page 8 134 1 6 [.ref (A 0 0), .int k, .int f] E h (false, fun r h' => r = .inl 0 ∧ h' = h) := by
  refine g_Ct.of hl (by decide) (by first | rfl | simp [g_rfc, Value.category]) (Nat.le_of_ble_eq_true rfl) ?_
  intro X hX hXl hR
  obtain ⟨hnp, hns, hne, hpar, hhome, hact⟩ := id hB
  show g_Go E X _ h true 0 0 0 [some (.ref (A 0 0)), some (.int k), some (.int f), none, none] []
  refine g_iload_n hX dS_page_0 rfl rfl 1 rfl ?_
  refine g_iconst hX dS_page_1 (v := 0) (by decide) 2 rfl ?_
  refine g_iconst hX dS_page_2 (v := 2) (by decide) 3 rfl ?_
  refine g_cS3r (wt := 0) hX (c_S_isWithin hX.tr E h _ _ _) dS_page_3 kS_47 (g_rm.of hR (by decide) (by decide)) (by first | exact Nat.zero_le _ | (rw [hR]; decide)) (by first | exact Nat.zero_le _ | (rw [hR]; decide)) (by first | decide | (simp [Value.category])) 6 rfl ?_
  refine g_if_ne hX dS_page_6 19 9 (by decide) rfl (fun c6 => ?_) (fun c6 => ?_)
  · exact absurd (r_in_0 hk) c6
  · exact g_throw (wt := 0) hX rfl dS_page_9 dS_page_12 dS_page_13 dS_page_15 dS_page_18 rfl rfl rfl rfl (tx := "no such kind of page") (by simp [g_strs]) x_0 rfl ⟨rfl, rfl⟩ rfl (by rw [hR]; decide) (by rw [hR]; decide) (by rw [hR]; decide) (by decide) (by rw [hR]; decide)
theorem r_noPage_01 {S : q_S} {f : Int32} (h : ¬ r_noPage S f = 1) : r_noPage S f = 0 := by
  unfold r_noPage at h ⊢
  split
  · rename_i h1
    rw [if_pos h1] at h
    exact absurd rfl h
  · rename_i h1
    rw [if_neg h1] at h
    split
    · rfl
    · rename_i h2
      rw [if_neg h2] at h
      exact absurd rfl h
set_option maxRecDepth 100000 in
set_option maxHeartbeats 4000000 in
theorem c_S_page_2a {l : Launch} (hl : l.stackTraces = false) {E : g_E} {A : w_A} {S Sm : q_S} {h : g_H} (hW : w_W E A S Sm h) (hB : w_B S) {f : Int32} (hf : ¬ f = -1) : g_Ct l mS_page 8 134 1 6 [.ref (A 0 0), .int 0, .int f] E h (false, fun r h' => r = .inl 1 ∧ h' = h) := by
  refine g_Ct.of hl (by decide) (by first | rfl | simp [g_rfc, Value.category]) (Nat.le_of_ble_eq_true rfl) ?_
  intro X hX hXl hR
  obtain ⟨hnp, hns, hne, hpar, hhome, hact⟩ := id hB
  show g_Go E X _ h true 0 0 0 [some (.ref (A 0 0)), some (.int 0), some (.int f), none, none] []
  refine g_iload_n hX dS_page_0 rfl rfl 1 rfl ?_
  refine g_iconst hX dS_page_1 (v := 0) (by decide) 2 rfl ?_
  refine g_iconst hX dS_page_2 (v := 2) (by decide) 3 rfl ?_
  refine g_cS3r (wt := 0) hX (c_S_isWithin hX.tr E h _ _ _) dS_page_3 kS_47 (g_rm.of hR (by decide) (by decide)) (by first | exact Nat.zero_le _ | (rw [hR]; decide)) (by first | exact Nat.zero_le _ | (rw [hR]; decide)) (by first | decide | (simp [Value.category])) 6 rfl ?_
  refine g_if_ne hX dS_page_6 19 9 (by decide) rfl (fun c6 => ?_) (fun c6 => ?_)
  · refine g_aload_n hX dS_page_19 rfl rfl (by first | rfl | exact g_rfr _) 20 rfl ?_
    refine g_iload_n hX dS_page_20 rfl rfl 21 rfl ?_
    by_cases hnp9 : r_noPage S f = 1
    · refine g_cV1r (wt := 0) hX ((show g_Rd X.l mS_findPage 3 40 [.ref (A 0 0), .int f] E h (some .null) from c_S_findPage_n hX.tr hW hB hnp9)) dS_page_21 (w_s hW) kS_58 (g_rm.of hR (by decide) (by decide)) (by first | exact Nat.zero_le _ | (rw [hR]; decide)) (by first | exact Nat.zero_le _ | (rw [hR]; decide)) (by first | decide | (simp [Value.category])) 24 rfl ?_
      refine g_astore_n hX (L' := [_, _, _, _, _]) dS_page_24 rfl (by decide) (by first | rfl | exact g_rfr _) rfl 25 rfl ?_
      refine g_iload_n hX dS_page_25 rfl rfl 26 rfl ?_
      refine g_if_ne hX dS_page_26 37 29 (by decide) rfl (fun c26 => ?_) (fun c26 => ?_)
      · exact absurd rfl c26
      · refine g_iload_n hX dS_page_29 rfl rfl 30 rfl ?_
        refine g_iconst hX dS_page_30 (v := (-1)) (by decide) 31 rfl ?_
        refine g_icmp_eq hX dS_page_31 57 34 (by decide) rfl (fun c31 => ?_) (fun c31 => ?_)
        · exact absurd c31 hf
        · refine g_goto hX dS_page_34 47 (by decide) ?_
          exact g_throw (wt := 0) hX rfl dS_page_47 dS_page_50 dS_page_51 dS_page_53 dS_page_56 rfl rfl rfl rfl (tx := "no such parent for this kind") (by simp [g_strs]) x_1 rfl ⟨rfl, rfl⟩ rfl (by rw [hR]; decide) (by rw [hR]; decide) (by rw [hR]; decide) (by decide) (by rw [hR]; decide)
    · obtain ⟨p9, hp9, rfl⟩ := r_noPage_0 hB (r_noPage_01 hnp9)
      refine g_cV1r (wt := 0) hX (c_S_findPage hX.tr hW hB hp9) dS_page_21 (w_s hW) kS_58 (g_rm.of hR (by decide) (by decide)) (by first | exact Nat.zero_le _ | (rw [hR]; decide)) (by first | exact Nat.zero_le _ | (rw [hR]; decide)) (by first | decide | (simp [Value.category])) 24 rfl ?_
      refine g_astore_n hX (L' := [_, _, _, _, _]) dS_page_24 rfl (by decide) (by first | rfl | exact g_rfr _) rfl 25 rfl ?_
      refine g_iload_n hX dS_page_25 rfl rfl 26 rfl ?_
      refine g_if_ne hX dS_page_26 37 29 (by decide) rfl (fun c26 => ?_) (fun c26 => ?_)
      · exact absurd rfl c26
      · refine g_iload_n hX dS_page_29 rfl rfl 30 rfl ?_
        refine g_iconst hX dS_page_30 (v := (-1)) (by decide) 31 rfl ?_
        refine g_icmp_eq hX dS_page_31 57 34 (by decide) rfl (fun c31 => ?_) (fun c31 => ?_)
        · exact absurd c31 hf
        · refine g_goto hX dS_page_34 47 (by decide) ?_
          exact g_throw (wt := 0) hX rfl dS_page_47 dS_page_50 dS_page_51 dS_page_53 dS_page_56 rfl rfl rfl rfl (tx := "no such parent for this kind") (by simp [g_strs]) x_1 rfl ⟨rfl, rfl⟩ rfl (by rw [hR]; decide) (by rw [hR]; decide) (by rw [hR]; decide) (by decide) (by rw [hR]; decide)
  · exact absurd (c6.symm.trans (r_in_1 (by decide) (by decide))) (by decide)
set_option maxRecDepth 100000 in
set_option maxHeartbeats 4000000 in
theorem c_S_page_2b {l : Launch} (hl : l.stackTraces = false) {E : g_E} {A : w_A} {S Sm : q_S} {h : g_H} (hW : w_W E A S Sm h) (hB : w_B S) {k f : Int32} (hk0 : ¬ k < 0) (hk2 : k ≤ 2) (hk : ¬ k = 0) (hf : ∀ p, p < q_np S → f = nI p → ¬ S.2 0 p = k - 1) : g_Ct l mS_page 8 134 1 6 [.ref (A 0 0), .int k, .int f] E h (false, fun r h' => r = .inl 1 ∧ h' = h) := by
  refine g_Ct.of hl (by decide) (by first | rfl | simp [g_rfc, Value.category]) (Nat.le_of_ble_eq_true rfl) ?_
  intro X hX hXl hR
  obtain ⟨hnp, hns, hne, hpar, hhome, hact⟩ := id hB
  show g_Go E X _ h true 0 0 0 [some (.ref (A 0 0)), some (.int k), some (.int f), none, none] []
  refine g_iload_n hX dS_page_0 rfl rfl 1 rfl ?_
  refine g_iconst hX dS_page_1 (v := 0) (by decide) 2 rfl ?_
  refine g_iconst hX dS_page_2 (v := 2) (by decide) 3 rfl ?_
  refine g_cS3r (wt := 0) hX (c_S_isWithin hX.tr E h _ _ _) dS_page_3 kS_47 (g_rm.of hR (by decide) (by decide)) (by first | exact Nat.zero_le _ | (rw [hR]; decide)) (by first | exact Nat.zero_le _ | (rw [hR]; decide)) (by first | decide | (simp [Value.category])) 6 rfl ?_
  refine g_if_ne hX dS_page_6 19 9 (by decide) rfl (fun c6 => ?_) (fun c6 => ?_)
  · refine g_aload_n hX dS_page_19 rfl rfl (by first | rfl | exact g_rfr _) 20 rfl ?_
    refine g_iload_n hX dS_page_20 rfl rfl 21 rfl ?_
    by_cases hnp9 : r_noPage S f = 1
    · refine g_cV1r (wt := 0) hX ((show g_Rd X.l mS_findPage 3 40 [.ref (A 0 0), .int f] E h (some .null) from c_S_findPage_n hX.tr hW hB hnp9)) dS_page_21 (w_s hW) kS_58 (g_rm.of hR (by decide) (by decide)) (by first | exact Nat.zero_le _ | (rw [hR]; decide)) (by first | exact Nat.zero_le _ | (rw [hR]; decide)) (by first | decide | (simp [Value.category])) 24 rfl ?_
      refine g_astore_n hX (L' := [_, _, _, _, _]) dS_page_24 rfl (by decide) (by first | rfl | exact g_rfr _) rfl 25 rfl ?_
      refine g_iload_n hX dS_page_25 rfl rfl 26 rfl ?_
      refine g_if_ne hX dS_page_26 37 29 (by decide) rfl (fun c26 => ?_) (fun c26 => ?_)
      · refine g_aload_n hX dS_page_37 rfl rfl (by first | rfl | exact g_rfr _) 38 rfl ?_
        refine g_iload_n hX dS_page_38 rfl rfl 39 rfl ?_
        refine g_iconst hX dS_page_39 (v := 1) (by decide) 40 rfl ?_
        refine g_isub hX dS_page_40 41 rfl ?_
        refine g_cS2r (wt := 0) hX (c_S_isOfKind_n hX.tr hW hB _) dS_page_41 kS_62 (g_rm.of hR (by decide) (by decide)) (by first | exact Nat.zero_le _ | (rw [hR]; decide)) (by first | exact Nat.zero_le _ | (rw [hR]; decide)) (by first | decide | (simp [Value.category])) 44 rfl ?_
        refine g_if_ne hX dS_page_44 57 47 (by decide) rfl (fun c44 => ?_) (fun c44 => ?_)
        · exact absurd rfl c44
        · exact g_throw (wt := 0) hX rfl dS_page_47 dS_page_50 dS_page_51 dS_page_53 dS_page_56 rfl rfl rfl rfl (tx := "no such parent for this kind") (by simp [g_strs]) x_1 rfl ⟨rfl, rfl⟩ rfl (by rw [hR]; decide) (by rw [hR]; decide) (by rw [hR]; decide) (by decide) (by rw [hR]; decide)
      · exact absurd c26 hk
    · obtain ⟨p9, hp9, rfl⟩ := r_noPage_0 hB (r_noPage_01 hnp9)
      refine g_cV1r (wt := 0) hX (c_S_findPage hX.tr hW hB hp9) dS_page_21 (w_s hW) kS_58 (g_rm.of hR (by decide) (by decide)) (by first | exact Nat.zero_le _ | (rw [hR]; decide)) (by first | exact Nat.zero_le _ | (rw [hR]; decide)) (by first | decide | (simp [Value.category])) 24 rfl ?_
      refine g_astore_n hX (L' := [_, _, _, _, _]) dS_page_24 rfl (by decide) (by first | rfl | exact g_rfr _) rfl 25 rfl ?_
      refine g_iload_n hX dS_page_25 rfl rfl 26 rfl ?_
      refine g_if_ne hX dS_page_26 37 29 (by decide) rfl (fun c26 => ?_) (fun c26 => ?_)
      · refine g_aload_n hX dS_page_37 rfl rfl (by first | rfl | exact g_rfr _) 38 rfl ?_
        refine g_iload_n hX dS_page_38 rfl rfl 39 rfl ?_
        refine g_iconst hX dS_page_39 (v := 1) (by decide) 40 rfl ?_
        refine g_isub hX dS_page_40 41 rfl ?_
        refine g_cS2r (wt := 0) hX (c_S_isOfKind hX.tr hW hB hp9 _) dS_page_41 kS_62 (g_rm.of hR (by decide) (by decide)) (by first | exact Nat.zero_le _ | (rw [hR]; decide)) (by first | exact Nat.zero_le _ | (rw [hR]; decide)) (by first | decide | (simp [Value.category])) 44 rfl ?_
        refine g_if_ne hX dS_page_44 57 47 (by decide) rfl (fun c44 => ?_) (fun c44 => ?_)
        · exact absurd (if_neg (hf p9 hp9 rfl)) c44
        · exact g_throw (wt := 0) hX rfl dS_page_47 dS_page_50 dS_page_51 dS_page_53 dS_page_56 rfl rfl rfl rfl (tx := "no such parent for this kind") (by simp [g_strs]) x_1 rfl ⟨rfl, rfl⟩ rfl (by rw [hR]; decide) (by rw [hR]; decide) (by rw [hR]; decide) (by decide) (by rw [hR]; decide)
      · exact absurd c26 hk
  · exact absurd (c6.symm.trans (r_in_1 hk0 hk2)) (by decide)
set_option maxRecDepth 100000 in
set_option maxHeartbeats 4000000 in
theorem c_S_page_3a {l : Launch} (hl : l.stackTraces = false) {E : g_E} {A : w_A} {S Sm : q_S} {h : g_H} (hW : w_W E A S Sm h) (hB : w_B S)  (hn : q_np S = 12) : g_Ct l mS_page 8 134 1 6 [.ref (A 0 0), .int 0, .int (-1)] E h (false, fun r h' => r = .inl 2 ∧ h' = h) := by
  refine g_Ct.of hl (by decide) (by first | rfl | simp [g_rfc, Value.category]) (Nat.le_of_ble_eq_true rfl) ?_
  intro X hX hXl hR
  obtain ⟨hnp, hns, hne, hpar, hhome, hact⟩ := id hB
  show g_Go E X _ h true 0 0 0 [some (.ref (A 0 0)), some (.int 0), some (.int (-1)), none, none] []
  refine g_iload_n hX dS_page_0 rfl rfl 1 rfl ?_
  refine g_iconst hX dS_page_1 (v := 0) (by decide) 2 rfl ?_
  refine g_iconst hX dS_page_2 (v := 2) (by decide) 3 rfl ?_
  refine g_cS3r (wt := 0) hX (c_S_isWithin hX.tr E h _ _ _) dS_page_3 kS_47 (g_rm.of hR (by decide) (by decide)) (by first | exact Nat.zero_le _ | (rw [hR]; decide)) (by first | exact Nat.zero_le _ | (rw [hR]; decide)) (by first | decide | (simp [Value.category])) 6 rfl ?_
  refine g_if_ne hX dS_page_6 19 9 (by decide) rfl (fun c6 => ?_) (fun c6 => ?_)
  · refine g_aload_n hX dS_page_19 rfl rfl (by first | rfl | exact g_rfr _) 20 rfl ?_
    refine g_iload_n hX dS_page_20 rfl rfl 21 rfl ?_
    refine g_cV1r (wt := 0) hX ((show g_Rd X.l mS_findPage 3 40 [.ref (A 0 0), .int (-1)] E h (some (.null)) from c_S_findPage_n hX.tr hW hB (by rfl))) dS_page_21 (w_s hW) kS_58 (g_rm.of hR (by decide) (by decide)) (by first | exact Nat.zero_le _ | (rw [hR]; decide)) (by first | exact Nat.zero_le _ | (rw [hR]; decide)) (by first | decide | (simp [Value.category])) 24 rfl ?_
    refine g_astore_n hX (L' := [_, _, _, _, _]) dS_page_24 rfl (by decide) (by first | rfl | exact g_rfr _) rfl 25 rfl ?_
    refine g_iload_n hX dS_page_25 rfl rfl 26 rfl ?_
    refine g_if_ne hX dS_page_26 37 29 (by decide) rfl (fun c26 => ?_) (fun c26 => ?_)
    · exact absurd rfl c26
    · refine g_iload_n hX dS_page_29 rfl rfl 30 rfl ?_
      refine g_iconst hX dS_page_30 (v := (-1)) (by decide) 31 rfl ?_
      refine g_icmp_eq hX dS_page_31 57 34 (by decide) rfl (fun c31 => ?_) (fun c31 => ?_)
      · refine g_aload_n hX dS_page_57 rfl rfl (by first | rfl | exact g_rfr _) 58 rfl ?_
        refine g_get hX dS_page_58 fS_17 (w_s hW) rfl 61 rfl ?_
        refine g_cF0r (wt := 0) hX ((show g_Rd X.l mA_size 0 0 [.ref (A 16 0)] E h (some (.int (nI (q_np S)))) by have h9 := c_size hX.tr (w_l16 hW hB); rw [List.length_range] at h9; exact h9)) dS_page_61 (w_l16 hW hB).1 kS_71 (g_rm.of hR (by decide) (by decide)) (by first | exact Nat.zero_le _ | (rw [hR]; decide)) (by first | exact Nat.zero_le _ | (rw [hR]; decide)) (by first | decide | (simp [Value.category])) 66 rfl ?_
        refine g_bipush hX dS_page_66 (v := 12) (by decide) 68 rfl ?_
        refine g_icmp_lt hX dS_page_68 81 71 (by decide) rfl (fun c68 => ?_) (fun c68 => ?_)
        · exact absurd c68 (nI_nlt (a := q_np S) (b := 12) (by omega) (by omega))
        · exact g_throw (wt := 0) hX rfl dS_page_71 dS_page_74 dS_page_75 dS_page_77 dS_page_80 rfl rfl rfl rfl (tx := "no more pages") (by simp [g_strs]) x_2 rfl ⟨rfl, rfl⟩ rfl (by rw [hR]; decide) (by rw [hR]; decide) (by rw [hR]; decide) (by decide) (by rw [hR]; decide)
      · exact absurd rfl c31
  · exact absurd (c6.symm.trans (r_in_1 (by decide) (by decide))) (by decide)
set_option maxRecDepth 100000 in
set_option maxHeartbeats 4000000 in
theorem c_S_page_0a {l : Launch} (hl : l.stackTraces = false) {E : g_E} {A : w_A} {S Sm : q_S} {h : g_H} (hW : w_W E A S Sm h) (hB : w_B S)  (hn : q_np S < 12) : g_Ct l mS_page 8 134 5 76 [.ref (A 0 0), .int 0, .int (-1)] E h (false, fun r' h' => r' = .inr (some (.int (nI (q_np S)))) ∧ ∃ B, w_same A B ∧ w_W E B (q_up1 (q_up1 (q_up2 S 0 (q_np S) 0) 1 (q_np S) 0) 0 0 (q_np S + 1)) Sm h') := by
  refine g_Ct.of hl (by decide) (by first | rfl | simp [g_rfc, Value.category]) (Nat.le_of_ble_eq_true rfl) ?_
  intro X hX hXl hR
  obtain ⟨hnp, hns, hne, hpar, hhome, hact⟩ := id hB
  show g_Go E X _ h true 0 0 0 [some (.ref (A 0 0)), some (.int 0), some (.int (-1)), none, none] []
  refine g_iload_n hX dS_page_0 rfl rfl 1 rfl ?_
  refine g_iconst hX dS_page_1 (v := 0) (by decide) 2 rfl ?_
  refine g_iconst hX dS_page_2 (v := 2) (by decide) 3 rfl ?_
  refine g_cS3r (wt := 0) hX (c_S_isWithin hX.tr E h _ _ _) dS_page_3 kS_47 (g_rm.of hR (by decide) (by decide)) (by first | exact Nat.zero_le _ | (rw [hR]; decide)) (by first | exact Nat.zero_le _ | (rw [hR]; decide)) (by first | decide | (simp [Value.category])) 6 rfl ?_
  refine g_if_ne hX dS_page_6 19 9 (by decide) rfl (fun c6 => ?_) (fun c6 => ?_)
  · refine g_aload_n hX dS_page_19 rfl rfl (by first | rfl | exact g_rfr _) 20 rfl ?_
    refine g_iload_n hX dS_page_20 rfl rfl 21 rfl ?_
    refine g_cV1r (wt := 0) hX ((show g_Rd X.l mS_findPage 3 40 [.ref (A 0 0), .int (-1)] E h (some (.null)) from c_S_findPage_n hX.tr hW hB (by rfl))) dS_page_21 (w_s hW) kS_58 (g_rm.of hR (by decide) (by decide)) (by first | exact Nat.zero_le _ | (rw [hR]; decide)) (by first | exact Nat.zero_le _ | (rw [hR]; decide)) (by first | decide | (simp [Value.category])) 24 rfl ?_
    refine g_astore_n hX (L' := [_, _, _, _, _]) dS_page_24 rfl (by decide) (by first | rfl | exact g_rfr _) rfl 25 rfl ?_
    refine g_iload_n hX dS_page_25 rfl rfl 26 rfl ?_
    refine g_if_ne hX dS_page_26 37 29 (by decide) rfl (fun c26 => ?_) (fun c26 => ?_)
    · exact absurd rfl c26
    · refine g_iload_n hX dS_page_29 rfl rfl 30 rfl ?_
      refine g_iconst hX dS_page_30 (v := (-1)) (by decide) 31 rfl ?_
      refine g_icmp_eq hX dS_page_31 57 34 (by decide) rfl (fun c31 => ?_) (fun c31 => ?_)
      · refine g_aload_n hX dS_page_57 rfl rfl (by first | rfl | exact g_rfr _) 58 rfl ?_
        refine g_get hX dS_page_58 fS_17 (w_s hW) rfl 61 rfl ?_
        refine g_cF0r (wt := 0) hX ((show g_Rd X.l mA_size 0 0 [.ref (A 16 0)] E h (some (.int (nI (q_np S)))) by have h9 := c_size hX.tr (w_l16 hW hB); rw [List.length_range] at h9; exact h9)) dS_page_61 (w_l16 hW hB).1 kS_71 (g_rm.of hR (by decide) (by decide)) (by first | exact Nat.zero_le _ | (rw [hR]; decide)) (by first | exact Nat.zero_le _ | (rw [hR]; decide)) (by first | decide | (simp [Value.category])) 66 rfl ?_
        refine g_bipush hX dS_page_66 (v := 12) (by decide) 68 rfl ?_
        refine g_icmp_lt hX dS_page_68 81 71 (by decide) rfl (fun c68 => ?_) (fun c68 => ?_)
        · refine g_new hX dS_page_81 nS_82 (by rw [hR]; decide) (by rw [hR]; decide) 84 rfl (fun q hq zq => ?_)
          have hG := hW.g.new 2 (q_np S) (.inr (1, [.int 0, .null, .null, .null])) hq zq
          revert hG
          generalize g_set h q _ = h1
          intro hG
          refine g_dup hX dS_page_84 rfl 85 rfl ?_
          refine g_iload_n hX dS_page_85 rfl rfl 86 rfl ?_
          refine g_aload_n hX dS_page_86 rfl rfl (by first | rfl | exact g_rfr _) 87 rfl ?_
          refine g_cI2 (wt := 1) hX ((show g_Ct X.l mP_init 4 50 2 6 [.ref q, .int 0, .null] E h1 _ from c_P_initW (k := 0) (r := ((none : Option Nat).map (A 2))) hX.tr hG (w_uA_same _ _ _ _) (Or.inl ⟨rfl, rfl⟩) (w_uc_same _ _ _ _))) dS_page_87 kS_84 (g_rm.of hR (by decide) (by decide)) (by first | exact Nat.zero_le _ | (rw [hR]; decide)) (by first | exact Nat.zero_le _ | (rw [hR]; decide)) (by first | decide | (simp [Value.category])) (fun q => by cases q) 90 rfl (fun v h hP => ?_) (fun k h hP => by cases hP.1)
          obtain ⟨hv, q0, q1, hG⟩ := hP
          cases hv
          show g_Go E X _ h false _ _ 90 _ [.ref q]
          refine g_astore hX (L' := [_, _, _, _, _]) dS_page_90 (by decide) (by first | rfl | exact g_rfr _) rfl 92 rfl ?_
          refine g_aload_n hX dS_page_92 rfl rfl (by first | rfl | exact g_rfr _) 93 rfl ?_
          refine g_get hX dS_page_93 fS_17 (show h (A 0 0) = some (w_cell E A S 0 0) from hG.1 0 0 (Or.inr (Or.inr (Or.inr (show w_lv S Sm 0 0 from ⟨rfl, by decide⟩))))) rfl 96 rfl ?_
          refine g_aload hX dS_page_96 rfl (by first | rfl | exact g_rfr _) 98 rfl ?_
          refine g_cF1 (wt := 0) hX (c_addWb (k := 16) (i := 0) (t := 2) (x0 := q_np S) (xs := List.range (q_np S)) hX.tr hG rfl (by rw [w_uA_tag _ (by decide), w_uA_tag _ (by decide), w_uA_same]) (Or.inr (Or.inr (Or.inr (show w_lv S Sm 16 0 from ⟨rfl, by decide⟩)))) rfl (fun hn9 => ⟨Or.inr (Or.inr (Or.inr (show w_lv S Sm 17 0 from ⟨rfl, fun (e9 : q_np S = 0) => hn9 (by rw [e9]; rfl)⟩))), w_data_c (fun x hx => by rw [w_uA_tag _ (by decide), w_uA_tag _ (by decide), w_uA_ix _ (show ¬ x = q_np S from fun e9 => by have : x < q_np S := List.mem_range.mp hx; omega)])⟩) (fun x hx => ⟨Or.inr (Or.inr (Or.inr (show w_lv S Sm 2 x from List.mem_range.mp hx))), _, by rw [w_uc_ix _ (show ¬ x = q_np S from fun e9 => by have : x < q_np S := List.mem_range.mp hx; omega), w_uc_tag _ (by decide), w_uc_tag _ (by decide), w_uc_ix _ (show ¬ x = q_np S from fun e9 => by have : x < q_np S := List.mem_range.mp hx; omega)]; rfl⟩) ⟨Or.inr (Or.inr (Or.inl ⟨rfl, rfl⟩)), _, w_uc_same _ _ _ _⟩ (by rw [List.length_range]; omega) (ct := 1) rfl (g_in 1117 (by decide +kernel) (by decide +kernel)) (by decide)) dS_page_98 (show h (A 16 0) = some (w_list E (A 17 0) (List.range (q_np S)).length) from hG.1 16 0 (Or.inr (Or.inr (Or.inr (show w_lv S Sm 16 0 from ⟨rfl, by decide⟩))))) kS_87 (g_rm.of hR (by decide) (by decide)) (by first | exact Nat.zero_le _ | (rw [hR]; decide)) (by first | exact Nat.zero_le _ | (rw [hR]; decide)) (by first | decide | (simp [Value.category])) (fun q => by cases q) 103 rfl (fun v h hP => ?_) (fun k h hP => by cases hP.1)
          obtain ⟨hv, dd, hG⟩ := hP
          cases hv
          show g_Go E X _ h false _ _ 103 _ [.int 1]
          refine g_pop hX dS_page_103 rfl 104 rfl ?_
          refine g_iload_n hX dS_page_104 rfl rfl 105 rfl ?_
          refine g_iconst hX dS_page_105 (v := 2) (by decide) 106 rfl ?_
          refine g_icmp_ne hX dS_page_106 115 109 (by decide) rfl (fun c106 => ?_) (fun c106 => ?_)
          · refine g_aload_n hX dS_page_115 rfl rfl (by first | rfl | exact g_rfr _) 116 rfl ?_
            refine g_get hX dS_page_116 fS_17 (show h (A 0 0) = some (w_cell E A S 0 0) from hG.1 0 0 (Or.inr (Or.inr (Or.inr (Or.inr (show w_lv S Sm 0 0 from ⟨rfl, by decide⟩)))))) rfl 119 rfl ?_
            refine g_cF0r (wt := 0) hX ((show g_Rd X.l mA_size 0 0 [.ref (A 16 0)] E h (some (.int (nI (q_np S + 1)))) from c_A_size hX.tr E h (show h (A 16 0) = some (.inr (6, [.ref dd, .int (nI (q_np S + 1)), .int (nI (q_np S + 1))])) by have h9 := hG.1 16 0 (Or.inr (Or.inr (Or.inr (Or.inr (show w_lv S Sm 16 0 from ⟨rfl, by decide⟩))))); rw [w_uc_same, List.length_range, w_list_s] at h9; exact h9))) dS_page_119 (show h (A 16 0) = some (.inr (6, [.ref dd, .int (nI (q_np S + 1)), .int (nI (q_np S + 1))])) by have h9 := hG.1 16 0 (Or.inr (Or.inr (Or.inr (Or.inr (show w_lv S Sm 16 0 from ⟨rfl, by decide⟩))))); rw [w_uc_same, List.length_range, w_list_s] at h9; exact h9) kS_71 (g_rm.of hR (by decide) (by decide)) (by first | exact Nat.zero_le _ | (rw [hR]; decide)) (by first | exact Nat.zero_le _ | (rw [hR]; decide)) (by first | decide | (simp [Value.category])) 124 rfl ?_
            refine g_iconst hX dS_page_124 (v := 1) (by decide) 125 rfl ?_
            refine g_isub hX dS_page_125 126 rfl ?_
            rw [show nI (q_np S + 1) - 1 = nI (q_np S) from nI_pred _]
            exact g_iret hX rfl rfl dS_page_126 ⟨rfl, (w_uA (w_uA (w_uA (w_uA A 2 (q_np S) q) 3 (q_np S) q0) 5 (q_np S) q1) 17 0 dd), ⟨rfl, rfl, rfl⟩, w_page (k := 0) (pp := 0) (rp := none) hB (by decide) (q_par_new.trans rfl) (fun x q9 => by cases q9) hG⟩ rfl (by rw [hR]; decide) (by rw [hR]; decide)
          · exact absurd c106 (by decide)
        · exact absurd (nI_lt (b := 12) hn (by decide)) c68
      · exact absurd rfl c31
  · exact absurd (c6.symm.trans (r_in_1 (by decide) (by decide))) (by decide)
set_option maxRecDepth 100000 in
set_option maxHeartbeats 4000000 in
theorem c_S_page_3b {l : Launch} (hl : l.stackTraces = false) {E : g_E} {A : w_A} {S Sm : q_S} {h : g_H} (hW : w_W E A S Sm h) (hB : w_B S) {p : Nat} (hp : p < q_np S) (hf : S.2 0 p = 0) (hn : q_np S = 12) : g_Ct l mS_page 8 134 1 6 [.ref (A 0 0), .int 1, .int (nI p)] E h (false, fun r h' => r = .inl 2 ∧ h' = h) := by
  refine g_Ct.of hl (by decide) (by first | rfl | simp [g_rfc, Value.category]) (Nat.le_of_ble_eq_true rfl) ?_
  intro X hX hXl hR
  obtain ⟨hnp, hns, hne, hpar, hhome, hact⟩ := id hB
  show g_Go E X _ h true 0 0 0 [some (.ref (A 0 0)), some (.int 1), some (.int (nI p)), none, none] []
  refine g_iload_n hX dS_page_0 rfl rfl 1 rfl ?_
  refine g_iconst hX dS_page_1 (v := 0) (by decide) 2 rfl ?_
  refine g_iconst hX dS_page_2 (v := 2) (by decide) 3 rfl ?_
  refine g_cS3r (wt := 0) hX (c_S_isWithin hX.tr E h _ _ _) dS_page_3 kS_47 (g_rm.of hR (by decide) (by decide)) (by first | exact Nat.zero_le _ | (rw [hR]; decide)) (by first | exact Nat.zero_le _ | (rw [hR]; decide)) (by first | decide | (simp [Value.category])) 6 rfl ?_
  refine g_if_ne hX dS_page_6 19 9 (by decide) rfl (fun c6 => ?_) (fun c6 => ?_)
  · refine g_aload_n hX dS_page_19 rfl rfl (by first | rfl | exact g_rfr _) 20 rfl ?_
    refine g_iload_n hX dS_page_20 rfl rfl 21 rfl ?_
    refine g_cV1r (wt := 0) hX (c_S_findPage hX.tr hW hB hp) dS_page_21 (w_s hW) kS_58 (g_rm.of hR (by decide) (by decide)) (by first | exact Nat.zero_le _ | (rw [hR]; decide)) (by first | exact Nat.zero_le _ | (rw [hR]; decide)) (by first | decide | (simp [Value.category])) 24 rfl ?_
    refine g_astore_n hX (L' := [_, _, _, _, _]) dS_page_24 rfl (by decide) (by first | rfl | exact g_rfr _) rfl 25 rfl ?_
    refine g_iload_n hX dS_page_25 rfl rfl 26 rfl ?_
    refine g_if_ne hX dS_page_26 37 29 (by decide) rfl (fun c26 => ?_) (fun c26 => ?_)
    · refine g_aload_n hX dS_page_37 rfl rfl (by first | rfl | exact g_rfr _) 38 rfl ?_
      refine g_iload_n hX dS_page_38 rfl rfl 39 rfl ?_
      refine g_iconst hX dS_page_39 (v := 1) (by decide) 40 rfl ?_
      refine g_isub hX dS_page_40 41 rfl ?_
      refine g_cS2r (wt := 0) hX (c_S_isOfKind hX.tr hW hB hp _) dS_page_41 kS_62 (g_rm.of hR (by decide) (by decide)) (by first | exact Nat.zero_le _ | (rw [hR]; decide)) (by first | exact Nat.zero_le _ | (rw [hR]; decide)) (by first | decide | (simp [Value.category])) 44 rfl ?_
      refine g_if_ne hX dS_page_44 57 47 (by decide) rfl (fun c44 => ?_) (fun c44 => ?_)
      · refine g_aload_n hX dS_page_57 rfl rfl (by first | rfl | exact g_rfr _) 58 rfl ?_
        refine g_get hX dS_page_58 fS_17 (w_s hW) rfl 61 rfl ?_
        refine g_cF0r (wt := 0) hX ((show g_Rd X.l mA_size 0 0 [.ref (A 16 0)] E h (some (.int (nI (q_np S)))) by have h9 := c_size hX.tr (w_l16 hW hB); rw [List.length_range] at h9; exact h9)) dS_page_61 (w_l16 hW hB).1 kS_71 (g_rm.of hR (by decide) (by decide)) (by first | exact Nat.zero_le _ | (rw [hR]; decide)) (by first | exact Nat.zero_le _ | (rw [hR]; decide)) (by first | decide | (simp [Value.category])) 66 rfl ?_
        refine g_bipush hX dS_page_66 (v := 12) (by decide) 68 rfl ?_
        refine g_icmp_lt hX dS_page_68 81 71 (by decide) rfl (fun c68 => ?_) (fun c68 => ?_)
        · exact absurd c68 (nI_nlt (a := q_np S) (b := 12) (by omega) (by omega))
        · exact g_throw (wt := 0) hX rfl dS_page_71 dS_page_74 dS_page_75 dS_page_77 dS_page_80 rfl rfl rfl rfl (tx := "no more pages") (by simp [g_strs]) x_2 rfl ⟨rfl, rfl⟩ rfl (by rw [hR]; decide) (by rw [hR]; decide) (by rw [hR]; decide) (by decide) (by rw [hR]; decide)
      · exact absurd (c44.symm.trans (if_pos (by rw [hf]; decide))) (by decide)
    · exact absurd c26 (by decide)
  · exact absurd (c6.symm.trans (r_in_1 (by decide) (by decide))) (by decide)
set_option maxRecDepth 100000 in
set_option maxHeartbeats 4000000 in
theorem c_S_page_0b {l : Launch} (hl : l.stackTraces = false) {E : g_E} {A : w_A} {S Sm : q_S} {h : g_H} (hW : w_W E A S Sm h) (hB : w_B S) {p : Nat} (hp : p < q_np S) (hf : S.2 0 p = 0) (hn : q_np S < 12) : g_Ct l mS_page 8 134 5 76 [.ref (A 0 0), .int 1, .int (nI p)] E h (false, fun r' h' => r' = .inr (some (.int (nI (q_np S)))) ∧ ∃ B, w_same A B ∧ w_W E B (q_up1 (q_up1 (q_up2 S 0 (q_np S) 1) 1 (q_np S) (p + 1)) 0 0 (q_np S + 1)) Sm h') := by
  refine g_Ct.of hl (by decide) (by first | rfl | simp [g_rfc, Value.category]) (Nat.le_of_ble_eq_true rfl) ?_
  intro X hX hXl hR
  obtain ⟨hnp, hns, hne, hpar, hhome, hact⟩ := id hB
  show g_Go E X _ h true 0 0 0 [some (.ref (A 0 0)), some (.int 1), some (.int (nI p)), none, none] []
  refine g_iload_n hX dS_page_0 rfl rfl 1 rfl ?_
  refine g_iconst hX dS_page_1 (v := 0) (by decide) 2 rfl ?_
  refine g_iconst hX dS_page_2 (v := 2) (by decide) 3 rfl ?_
  refine g_cS3r (wt := 0) hX (c_S_isWithin hX.tr E h _ _ _) dS_page_3 kS_47 (g_rm.of hR (by decide) (by decide)) (by first | exact Nat.zero_le _ | (rw [hR]; decide)) (by first | exact Nat.zero_le _ | (rw [hR]; decide)) (by first | decide | (simp [Value.category])) 6 rfl ?_
  refine g_if_ne hX dS_page_6 19 9 (by decide) rfl (fun c6 => ?_) (fun c6 => ?_)
  · refine g_aload_n hX dS_page_19 rfl rfl (by first | rfl | exact g_rfr _) 20 rfl ?_
    refine g_iload_n hX dS_page_20 rfl rfl 21 rfl ?_
    refine g_cV1r (wt := 0) hX (c_S_findPage hX.tr hW hB hp) dS_page_21 (w_s hW) kS_58 (g_rm.of hR (by decide) (by decide)) (by first | exact Nat.zero_le _ | (rw [hR]; decide)) (by first | exact Nat.zero_le _ | (rw [hR]; decide)) (by first | decide | (simp [Value.category])) 24 rfl ?_
    refine g_astore_n hX (L' := [_, _, _, _, _]) dS_page_24 rfl (by decide) (by first | rfl | exact g_rfr _) rfl 25 rfl ?_
    refine g_iload_n hX dS_page_25 rfl rfl 26 rfl ?_
    refine g_if_ne hX dS_page_26 37 29 (by decide) rfl (fun c26 => ?_) (fun c26 => ?_)
    · refine g_aload_n hX dS_page_37 rfl rfl (by first | rfl | exact g_rfr _) 38 rfl ?_
      refine g_iload_n hX dS_page_38 rfl rfl 39 rfl ?_
      refine g_iconst hX dS_page_39 (v := 1) (by decide) 40 rfl ?_
      refine g_isub hX dS_page_40 41 rfl ?_
      refine g_cS2r (wt := 0) hX (c_S_isOfKind hX.tr hW hB hp _) dS_page_41 kS_62 (g_rm.of hR (by decide) (by decide)) (by first | exact Nat.zero_le _ | (rw [hR]; decide)) (by first | exact Nat.zero_le _ | (rw [hR]; decide)) (by first | decide | (simp [Value.category])) 44 rfl ?_
      refine g_if_ne hX dS_page_44 57 47 (by decide) rfl (fun c44 => ?_) (fun c44 => ?_)
      · refine g_aload_n hX dS_page_57 rfl rfl (by first | rfl | exact g_rfr _) 58 rfl ?_
        refine g_get hX dS_page_58 fS_17 (w_s hW) rfl 61 rfl ?_
        refine g_cF0r (wt := 0) hX ((show g_Rd X.l mA_size 0 0 [.ref (A 16 0)] E h (some (.int (nI (q_np S)))) by have h9 := c_size hX.tr (w_l16 hW hB); rw [List.length_range] at h9; exact h9)) dS_page_61 (w_l16 hW hB).1 kS_71 (g_rm.of hR (by decide) (by decide)) (by first | exact Nat.zero_le _ | (rw [hR]; decide)) (by first | exact Nat.zero_le _ | (rw [hR]; decide)) (by first | decide | (simp [Value.category])) 66 rfl ?_
        refine g_bipush hX dS_page_66 (v := 12) (by decide) 68 rfl ?_
        refine g_icmp_lt hX dS_page_68 81 71 (by decide) rfl (fun c68 => ?_) (fun c68 => ?_)
        · refine g_new hX dS_page_81 nS_82 (by rw [hR]; decide) (by rw [hR]; decide) 84 rfl (fun q hq zq => ?_)
          have hG := hW.g.new 2 (q_np S) (.inr (1, [.int 0, .null, .null, .null])) hq zq
          revert hG
          generalize g_set h q _ = h1
          intro hG
          refine g_dup hX dS_page_84 rfl 85 rfl ?_
          refine g_iload_n hX dS_page_85 rfl rfl 86 rfl ?_
          refine g_aload_n hX dS_page_86 rfl rfl (by first | rfl | exact g_rfr _) 87 rfl ?_
          refine g_cI2 (wt := 1) hX ((show g_Ct X.l mP_init 4 50 2 6 [.ref q, .int 1, .ref (A 2 p)] E h1 _ from c_P_initW (k := 1) (r := ((some p).map (A 2))) hX.tr hG (w_uA_same _ _ _ _) (Or.inl ⟨rfl, rfl⟩) (w_uc_same _ _ _ _))) dS_page_87 kS_84 (g_rm.of hR (by decide) (by decide)) (by first | exact Nat.zero_le _ | (rw [hR]; decide)) (by first | exact Nat.zero_le _ | (rw [hR]; decide)) (by first | decide | (simp [Value.category])) (fun q => by cases q) 90 rfl (fun v h hP => ?_) (fun k h hP => by cases hP.1)
          obtain ⟨hv, q0, q1, hG⟩ := hP
          cases hv
          show g_Go E X _ h false _ _ 90 _ [.ref q]
          refine g_astore hX (L' := [_, _, _, _, _]) dS_page_90 (by decide) (by first | rfl | exact g_rfr _) rfl 92 rfl ?_
          refine g_aload_n hX dS_page_92 rfl rfl (by first | rfl | exact g_rfr _) 93 rfl ?_
          refine g_get hX dS_page_93 fS_17 (show h (A 0 0) = some (w_cell E A S 0 0) from hG.1 0 0 (Or.inr (Or.inr (Or.inr (show w_lv S Sm 0 0 from ⟨rfl, by decide⟩))))) rfl 96 rfl ?_
          refine g_aload hX dS_page_96 rfl (by first | rfl | exact g_rfr _) 98 rfl ?_
          refine g_cF1 (wt := 0) hX (c_addWb (k := 16) (i := 0) (t := 2) (x0 := q_np S) (xs := List.range (q_np S)) hX.tr hG rfl (by rw [w_uA_tag _ (by decide), w_uA_tag _ (by decide), w_uA_same]) (Or.inr (Or.inr (Or.inr (show w_lv S Sm 16 0 from ⟨rfl, by decide⟩)))) rfl (fun hn9 => ⟨Or.inr (Or.inr (Or.inr (show w_lv S Sm 17 0 from ⟨rfl, fun (e9 : q_np S = 0) => hn9 (by rw [e9]; rfl)⟩))), w_data_c (fun x hx => by rw [w_uA_tag _ (by decide), w_uA_tag _ (by decide), w_uA_ix _ (show ¬ x = q_np S from fun e9 => by have : x < q_np S := List.mem_range.mp hx; omega)])⟩) (fun x hx => ⟨Or.inr (Or.inr (Or.inr (show w_lv S Sm 2 x from List.mem_range.mp hx))), _, by rw [w_uc_ix _ (show ¬ x = q_np S from fun e9 => by have : x < q_np S := List.mem_range.mp hx; omega), w_uc_tag _ (by decide), w_uc_tag _ (by decide), w_uc_ix _ (show ¬ x = q_np S from fun e9 => by have : x < q_np S := List.mem_range.mp hx; omega)]; rfl⟩) ⟨Or.inr (Or.inr (Or.inl ⟨rfl, rfl⟩)), _, w_uc_same _ _ _ _⟩ (by rw [List.length_range]; omega) (ct := 1) rfl (g_in 1117 (by decide +kernel) (by decide +kernel)) (by decide)) dS_page_98 (show h (A 16 0) = some (w_list E (A 17 0) (List.range (q_np S)).length) from hG.1 16 0 (Or.inr (Or.inr (Or.inr (show w_lv S Sm 16 0 from ⟨rfl, by decide⟩))))) kS_87 (g_rm.of hR (by decide) (by decide)) (by first | exact Nat.zero_le _ | (rw [hR]; decide)) (by first | exact Nat.zero_le _ | (rw [hR]; decide)) (by first | decide | (simp [Value.category])) (fun q => by cases q) 103 rfl (fun v h hP => ?_) (fun k h hP => by cases hP.1)
          obtain ⟨hv, dd, hG⟩ := hP
          cases hv
          show g_Go E X _ h false _ _ 103 _ [.int 1]
          refine g_pop hX dS_page_103 rfl 104 rfl ?_
          refine g_iload_n hX dS_page_104 rfl rfl 105 rfl ?_
          refine g_iconst hX dS_page_105 (v := 2) (by decide) 106 rfl ?_
          refine g_icmp_ne hX dS_page_106 115 109 (by decide) rfl (fun c106 => ?_) (fun c106 => ?_)
          · refine g_aload_n hX dS_page_115 rfl rfl (by first | rfl | exact g_rfr _) 116 rfl ?_
            refine g_get hX dS_page_116 fS_17 (show h (A 0 0) = some (w_cell E A S 0 0) from hG.1 0 0 (Or.inr (Or.inr (Or.inr (Or.inr (show w_lv S Sm 0 0 from ⟨rfl, by decide⟩)))))) rfl 119 rfl ?_
            refine g_cF0r (wt := 0) hX ((show g_Rd X.l mA_size 0 0 [.ref (A 16 0)] E h (some (.int (nI (q_np S + 1)))) from c_A_size hX.tr E h (show h (A 16 0) = some (.inr (6, [.ref dd, .int (nI (q_np S + 1)), .int (nI (q_np S + 1))])) by have h9 := hG.1 16 0 (Or.inr (Or.inr (Or.inr (Or.inr (show w_lv S Sm 16 0 from ⟨rfl, by decide⟩))))); rw [w_uc_same, List.length_range, w_list_s] at h9; exact h9))) dS_page_119 (show h (A 16 0) = some (.inr (6, [.ref dd, .int (nI (q_np S + 1)), .int (nI (q_np S + 1))])) by have h9 := hG.1 16 0 (Or.inr (Or.inr (Or.inr (Or.inr (show w_lv S Sm 16 0 from ⟨rfl, by decide⟩))))); rw [w_uc_same, List.length_range, w_list_s] at h9; exact h9) kS_71 (g_rm.of hR (by decide) (by decide)) (by first | exact Nat.zero_le _ | (rw [hR]; decide)) (by first | exact Nat.zero_le _ | (rw [hR]; decide)) (by first | decide | (simp [Value.category])) 124 rfl ?_
            refine g_iconst hX dS_page_124 (v := 1) (by decide) 125 rfl ?_
            refine g_isub hX dS_page_125 126 rfl ?_
            rw [show nI (q_np S + 1) - 1 = nI (q_np S) from nI_pred _]
            exact g_iret hX rfl rfl dS_page_126 ⟨rfl, (w_uA (w_uA (w_uA (w_uA A 2 (q_np S) q) 3 (q_np S) q0) 5 (q_np S) q1) 17 0 dd), ⟨rfl, rfl, rfl⟩, w_page (k := 1) (pp := (p + 1)) (rp := (some p)) hB (by decide) (q_par_new.trans rfl) (fun x q9 => by cases q9; exact hp) hG⟩ rfl (by rw [hR]; decide) (by rw [hR]; decide)
          · exact absurd c106 (by decide)
        · exact absurd (nI_lt (b := 12) hn (by decide)) c68
      · exact absurd (c44.symm.trans (if_pos (by rw [hf]; decide))) (by decide)
    · exact absurd c26 (by decide)
  · exact absurd (c6.symm.trans (r_in_1 (by decide) (by decide))) (by decide)
set_option maxRecDepth 100000 in
set_option maxHeartbeats 4000000 in
theorem c_S_page_3c {l : Launch} (hl : l.stackTraces = false) {E : g_E} {A : w_A} {S Sm : q_S} {h : g_H} (hW : w_W E A S Sm h) (hB : w_B S) {p : Nat} (hp : p < q_np S) (hf : S.2 0 p = 1) (hn : q_np S = 12) : g_Ct l mS_page 8 134 1 6 [.ref (A 0 0), .int 2, .int (nI p)] E h (false, fun r h' => r = .inl 2 ∧ h' = h) := by
  refine g_Ct.of hl (by decide) (by first | rfl | simp [g_rfc, Value.category]) (Nat.le_of_ble_eq_true rfl) ?_
  intro X hX hXl hR
  obtain ⟨hnp, hns, hne, hpar, hhome, hact⟩ := id hB
  show g_Go E X _ h true 0 0 0 [some (.ref (A 0 0)), some (.int 2), some (.int (nI p)), none, none] []
  refine g_iload_n hX dS_page_0 rfl rfl 1 rfl ?_
  refine g_iconst hX dS_page_1 (v := 0) (by decide) 2 rfl ?_
  refine g_iconst hX dS_page_2 (v := 2) (by decide) 3 rfl ?_
  refine g_cS3r (wt := 0) hX (c_S_isWithin hX.tr E h _ _ _) dS_page_3 kS_47 (g_rm.of hR (by decide) (by decide)) (by first | exact Nat.zero_le _ | (rw [hR]; decide)) (by first | exact Nat.zero_le _ | (rw [hR]; decide)) (by first | decide | (simp [Value.category])) 6 rfl ?_
  refine g_if_ne hX dS_page_6 19 9 (by decide) rfl (fun c6 => ?_) (fun c6 => ?_)
  · refine g_aload_n hX dS_page_19 rfl rfl (by first | rfl | exact g_rfr _) 20 rfl ?_
    refine g_iload_n hX dS_page_20 rfl rfl 21 rfl ?_
    refine g_cV1r (wt := 0) hX (c_S_findPage hX.tr hW hB hp) dS_page_21 (w_s hW) kS_58 (g_rm.of hR (by decide) (by decide)) (by first | exact Nat.zero_le _ | (rw [hR]; decide)) (by first | exact Nat.zero_le _ | (rw [hR]; decide)) (by first | decide | (simp [Value.category])) 24 rfl ?_
    refine g_astore_n hX (L' := [_, _, _, _, _]) dS_page_24 rfl (by decide) (by first | rfl | exact g_rfr _) rfl 25 rfl ?_
    refine g_iload_n hX dS_page_25 rfl rfl 26 rfl ?_
    refine g_if_ne hX dS_page_26 37 29 (by decide) rfl (fun c26 => ?_) (fun c26 => ?_)
    · refine g_aload_n hX dS_page_37 rfl rfl (by first | rfl | exact g_rfr _) 38 rfl ?_
      refine g_iload_n hX dS_page_38 rfl rfl 39 rfl ?_
      refine g_iconst hX dS_page_39 (v := 1) (by decide) 40 rfl ?_
      refine g_isub hX dS_page_40 41 rfl ?_
      refine g_cS2r (wt := 0) hX (c_S_isOfKind hX.tr hW hB hp _) dS_page_41 kS_62 (g_rm.of hR (by decide) (by decide)) (by first | exact Nat.zero_le _ | (rw [hR]; decide)) (by first | exact Nat.zero_le _ | (rw [hR]; decide)) (by first | decide | (simp [Value.category])) 44 rfl ?_
      refine g_if_ne hX dS_page_44 57 47 (by decide) rfl (fun c44 => ?_) (fun c44 => ?_)
      · refine g_aload_n hX dS_page_57 rfl rfl (by first | rfl | exact g_rfr _) 58 rfl ?_
        refine g_get hX dS_page_58 fS_17 (w_s hW) rfl 61 rfl ?_
        refine g_cF0r (wt := 0) hX ((show g_Rd X.l mA_size 0 0 [.ref (A 16 0)] E h (some (.int (nI (q_np S)))) by have h9 := c_size hX.tr (w_l16 hW hB); rw [List.length_range] at h9; exact h9)) dS_page_61 (w_l16 hW hB).1 kS_71 (g_rm.of hR (by decide) (by decide)) (by first | exact Nat.zero_le _ | (rw [hR]; decide)) (by first | exact Nat.zero_le _ | (rw [hR]; decide)) (by first | decide | (simp [Value.category])) 66 rfl ?_
        refine g_bipush hX dS_page_66 (v := 12) (by decide) 68 rfl ?_
        refine g_icmp_lt hX dS_page_68 81 71 (by decide) rfl (fun c68 => ?_) (fun c68 => ?_)
        · exact absurd c68 (nI_nlt (a := q_np S) (b := 12) (by omega) (by omega))
        · exact g_throw (wt := 0) hX rfl dS_page_71 dS_page_74 dS_page_75 dS_page_77 dS_page_80 rfl rfl rfl rfl (tx := "no more pages") (by simp [g_strs]) x_2 rfl ⟨rfl, rfl⟩ rfl (by rw [hR]; decide) (by rw [hR]; decide) (by rw [hR]; decide) (by decide) (by rw [hR]; decide)
      · exact absurd (c44.symm.trans (if_pos (by rw [hf]; decide))) (by decide)
    · exact absurd c26 (by decide)
  · exact absurd (c6.symm.trans (r_in_1 (by decide) (by decide))) (by decide)
theorem c_S_addSlide_j {l : Launch} (hl : l.stackTraces = false) {E : g_E} {A : w_A} {S Sm : q_S} {h : g_H} {q q0 q1 dd : Nat} {fP : List Value} (hB : w_B S) (hsl : (q_sl S = [] ∧ q_at S = 0) ∨ ¬ q_sl S = []) (hat : q_at S < 2 ^ 31) (hG : w_G E (w_uA (w_uA (w_uA (w_uA A 2 (q_np S) q) 3 (q_np S) q0) 5 (q_np S) q1) 17 0 dd) (w_ul (w_ul (w_ul (w_ul (w_lv S Sm) 2 (q_np S)) 3 (q_np S)) 5 (q_np S)) 17 0) (w_uc (w_uc (w_uc (w_uc (w_uc (w_uc (fun k i => w_cell E A (w_pk S Sm k) k i) 2 (q_np S) (.inr (1, [.int 0, .null, .null, .null]))) 3 (q_np S) (g_L0 E)) 5 (q_np S) (g_L0 E)) 2 (q_np S) (.inr (1, fP))) 17 0 (w_data E (List.range (q_np S) ++ [q_np S]) (w_uA (w_uA (w_uA A 2 (q_np S) q) 3 (q_np S) q0) 5 (q_np S) q1 2))) 16 0 (w_list E dd ((List.range (q_np S)).length + 1))) h) : g_Ct l mS_addSlide 7 121 1 33 [.ref (A 0 0), .ref q] E h (false, fun r' h' => r' = .inr none ∧ ∃ d2, w_G E (w_uA (w_uA (w_uA (w_uA (w_uA A 2 (q_np S) q) 3 (q_np S) q0) 5 (q_np S) q1) 17 0 dd) 19 0 d2) (w_ul (w_ul (w_ul (w_ul (w_ul (w_lv S Sm) 2 (q_np S)) 3 (q_np S)) 5 (q_np S)) 17 0) 19 0) (w_uc (w_uc (w_uc (w_uc (w_uc (w_uc (w_uc (w_uc (w_uc (fun k i => w_cell E A (w_pk S Sm k) k i) 2 (q_np S) (.inr (1, [.int 0, .null, .null, .null]))) 3 (q_np S) (g_L0 E)) 5 (q_np S) (g_L0 E)) 2 (q_np S) (.inr (1, fP))) 17 0 (w_data E (List.range (q_np S) ++ [q_np S]) (w_uA (w_uA (w_uA A 2 (q_np S) q) 3 (q_np S) q0) 5 (q_np S) q1 2))) 16 0 (w_list E dd ((List.range (q_np S)).length + 1))) 19 0 (w_data E (q_sl S ++ [q_np S]) ((w_uA (w_uA (w_uA (w_uA A 2 (q_np S) q) 3 (q_np S) q0) 5 (q_np S) q1) 17 0 dd) 2))) 18 0 (w_list E d2 ((q_sl S).length + 1))) 0 0 (.inr (0, [.ref (A 1 0), .ref (A 16 0), .ref (A 18 0), .ref (A 20 0), .ref (A 22 0), .ref (A 24 0), .int (nI (q_at S)), .int (nI (q_clicks S)), .int (q_time S)]))) h') := by
  rcases hsl with hsl | hsl
  · exact c_S_addSlide_m (x0 := q_np S) hl hG (by rw [w_uA_tag _ (by decide), w_uA_tag _ (by decide), w_uA_tag _ (by decide), w_uA_same]) (Or.inr (Or.inr (Or.inr (Or.inr (show w_lv S Sm 0 0 from ⟨rfl, by decide⟩))))) (c := nI (q_clicks S)) (t := q_time S) (sa := w_slideAt S) (sb := nI (q_at S)) rfl (Or.inr (Or.inr (Or.inr (Or.inr (show w_lv S Sm 18 0 from ⟨rfl, by decide⟩))))) (xs := q_sl S) rfl (fun hn9 => ⟨Or.inr (Or.inr (Or.inr (Or.inr (show w_lv S Sm 19 0 from ⟨rfl, hn9⟩)))), w_data_c (fun x hx => by rw [w_uA_tag _ (by decide), w_uA_tag _ (by decide), w_uA_tag _ (by decide), w_uA_ix _ (show ¬ x = q_np S from fun e9 => by have : x < q_np S := q_sl_lt hx; omega)])⟩) (fun x hx => ⟨Or.inr (Or.inr (Or.inr (Or.inr (show w_lv S Sm 2 x from q_sl_lt hx)))), _, by rw [w_uc_tag _ (by decide), w_uc_tag _ (by decide), w_uc_ix _ (show ¬ x = q_np S from fun e9 => by have := q_sl_lt hx; omega), w_uc_tag _ (by decide), w_uc_tag _ (by decide), w_uc_ix _ (show ¬ x = q_np S from fun e9 => by have := q_sl_lt hx; omega)]; rfl⟩) ⟨Or.inr (Or.inr (Or.inr (Or.inl ⟨rfl, rfl⟩))), _, by rw [w_uc_tag _ (by decide), w_uc_tag _ (by decide), w_uc_same]⟩ (by have := q_sl_len S; have := hB.1; omega) (if_pos hsl.1) (by rw [hsl.2]; rfl)
  · exact c_S_addSlide_n (x0 := q_np S) hl hG (by rw [w_uA_tag _ (by decide), w_uA_tag _ (by decide), w_uA_tag _ (by decide), w_uA_same]) (Or.inr (Or.inr (Or.inr (Or.inr (show w_lv S Sm 0 0 from ⟨rfl, by decide⟩))))) (c := nI (q_clicks S)) (t := q_time S) (sa := w_slideAt S) (sb := nI (q_at S)) rfl (Or.inr (Or.inr (Or.inr (Or.inr (show w_lv S Sm 18 0 from ⟨rfl, by decide⟩))))) (xs := q_sl S) rfl (fun hn9 => ⟨Or.inr (Or.inr (Or.inr (Or.inr (show w_lv S Sm 19 0 from ⟨rfl, hn9⟩)))), w_data_c (fun x hx => by rw [w_uA_tag _ (by decide), w_uA_tag _ (by decide), w_uA_tag _ (by decide), w_uA_ix _ (show ¬ x = q_np S from fun e9 => by have : x < q_np S := q_sl_lt hx; omega)])⟩) (fun x hx => ⟨Or.inr (Or.inr (Or.inr (Or.inr (show w_lv S Sm 2 x from q_sl_lt hx)))), _, by rw [w_uc_tag _ (by decide), w_uc_tag _ (by decide), w_uc_ix _ (show ¬ x = q_np S from fun e9 => by have := q_sl_lt hx; omega), w_uc_tag _ (by decide), w_uc_tag _ (by decide), w_uc_ix _ (show ¬ x = q_np S from fun e9 => by have := q_sl_lt hx; omega)]; rfl⟩) ⟨Or.inr (Or.inr (Or.inr (Or.inl ⟨rfl, rfl⟩))), _, by rw [w_uc_tag _ (by decide), w_uc_tag _ (by decide), w_uc_same]⟩ (by have := q_sl_len S; have := hB.1; omega) (fun q9 => by
      rw [show w_slideAt S = nI (q_at S) from if_neg hsl] at q9
      have h7 := nI_pos (n := q_at S) hat
      rw [q9] at h7
      exact h7 (by decide)) (show nI (q_at S) = w_slideAt S from (if_neg hsl).symm)
set_option maxRecDepth 100000 in
set_option maxHeartbeats 4000000 in
theorem c_S_page_0c {l : Launch} (hl : l.stackTraces = false) {E : g_E} {A : w_A} {S Sm : q_S} {h : g_H} (hW : w_W E A S Sm h) (hB : w_B S) {p : Nat} (hp : p < q_np S) (hf : S.2 0 p = 1) (hsl : (q_sl S = [] ∧ q_at S = 0) ∨ ¬ q_sl S = []) (hat : q_at S < 2 ^ 31) (hn : q_np S < 12) : g_Ct l mS_page 8 134 5 76 [.ref (A 0 0), .int 2, .int (nI p)] E h (false, fun r' h' => r' = .inr (some (.int (nI (q_np S)))) ∧ ∃ B, w_same A B ∧ w_W E B (q_up1 (q_up1 (q_up2 S 0 (q_np S) 2) 1 (q_np S) (p + 1)) 0 0 (q_np S + 1)) Sm h') := by
  refine g_Ct.of hl (by decide) (by first | rfl | simp [g_rfc, Value.category]) (Nat.le_of_ble_eq_true rfl) ?_
  intro X hX hXl hR
  obtain ⟨hnp, hns, hne, hpar, hhome, hact⟩ := id hB
  show g_Go E X _ h true 0 0 0 [some (.ref (A 0 0)), some (.int 2), some (.int (nI p)), none, none] []
  refine g_iload_n hX dS_page_0 rfl rfl 1 rfl ?_
  refine g_iconst hX dS_page_1 (v := 0) (by decide) 2 rfl ?_
  refine g_iconst hX dS_page_2 (v := 2) (by decide) 3 rfl ?_
  refine g_cS3r (wt := 0) hX (c_S_isWithin hX.tr E h _ _ _) dS_page_3 kS_47 (g_rm.of hR (by decide) (by decide)) (by first | exact Nat.zero_le _ | (rw [hR]; decide)) (by first | exact Nat.zero_le _ | (rw [hR]; decide)) (by first | decide | (simp [Value.category])) 6 rfl ?_
  refine g_if_ne hX dS_page_6 19 9 (by decide) rfl (fun c6 => ?_) (fun c6 => ?_)
  · refine g_aload_n hX dS_page_19 rfl rfl (by first | rfl | exact g_rfr _) 20 rfl ?_
    refine g_iload_n hX dS_page_20 rfl rfl 21 rfl ?_
    refine g_cV1r (wt := 0) hX (c_S_findPage hX.tr hW hB hp) dS_page_21 (w_s hW) kS_58 (g_rm.of hR (by decide) (by decide)) (by first | exact Nat.zero_le _ | (rw [hR]; decide)) (by first | exact Nat.zero_le _ | (rw [hR]; decide)) (by first | decide | (simp [Value.category])) 24 rfl ?_
    refine g_astore_n hX (L' := [_, _, _, _, _]) dS_page_24 rfl (by decide) (by first | rfl | exact g_rfr _) rfl 25 rfl ?_
    refine g_iload_n hX dS_page_25 rfl rfl 26 rfl ?_
    refine g_if_ne hX dS_page_26 37 29 (by decide) rfl (fun c26 => ?_) (fun c26 => ?_)
    · refine g_aload_n hX dS_page_37 rfl rfl (by first | rfl | exact g_rfr _) 38 rfl ?_
      refine g_iload_n hX dS_page_38 rfl rfl 39 rfl ?_
      refine g_iconst hX dS_page_39 (v := 1) (by decide) 40 rfl ?_
      refine g_isub hX dS_page_40 41 rfl ?_
      refine g_cS2r (wt := 0) hX (c_S_isOfKind hX.tr hW hB hp _) dS_page_41 kS_62 (g_rm.of hR (by decide) (by decide)) (by first | exact Nat.zero_le _ | (rw [hR]; decide)) (by first | exact Nat.zero_le _ | (rw [hR]; decide)) (by first | decide | (simp [Value.category])) 44 rfl ?_
      refine g_if_ne hX dS_page_44 57 47 (by decide) rfl (fun c44 => ?_) (fun c44 => ?_)
      · refine g_aload_n hX dS_page_57 rfl rfl (by first | rfl | exact g_rfr _) 58 rfl ?_
        refine g_get hX dS_page_58 fS_17 (w_s hW) rfl 61 rfl ?_
        refine g_cF0r (wt := 0) hX ((show g_Rd X.l mA_size 0 0 [.ref (A 16 0)] E h (some (.int (nI (q_np S)))) by have h9 := c_size hX.tr (w_l16 hW hB); rw [List.length_range] at h9; exact h9)) dS_page_61 (w_l16 hW hB).1 kS_71 (g_rm.of hR (by decide) (by decide)) (by first | exact Nat.zero_le _ | (rw [hR]; decide)) (by first | exact Nat.zero_le _ | (rw [hR]; decide)) (by first | decide | (simp [Value.category])) 66 rfl ?_
        refine g_bipush hX dS_page_66 (v := 12) (by decide) 68 rfl ?_
        refine g_icmp_lt hX dS_page_68 81 71 (by decide) rfl (fun c68 => ?_) (fun c68 => ?_)
        · refine g_new hX dS_page_81 nS_82 (by rw [hR]; decide) (by rw [hR]; decide) 84 rfl (fun q hq zq => ?_)
          have hG := hW.g.new 2 (q_np S) (.inr (1, [.int 0, .null, .null, .null])) hq zq
          revert hG
          generalize g_set h q _ = h1
          intro hG
          refine g_dup hX dS_page_84 rfl 85 rfl ?_
          refine g_iload_n hX dS_page_85 rfl rfl 86 rfl ?_
          refine g_aload_n hX dS_page_86 rfl rfl (by first | rfl | exact g_rfr _) 87 rfl ?_
          refine g_cI2 (wt := 1) hX ((show g_Ct X.l mP_init 4 50 2 6 [.ref q, .int 2, .ref (A 2 p)] E h1 _ from c_P_initW (k := 2) (r := ((some p).map (A 2))) hX.tr hG (w_uA_same _ _ _ _) (Or.inl ⟨rfl, rfl⟩) (w_uc_same _ _ _ _))) dS_page_87 kS_84 (g_rm.of hR (by decide) (by decide)) (by first | exact Nat.zero_le _ | (rw [hR]; decide)) (by first | exact Nat.zero_le _ | (rw [hR]; decide)) (by first | decide | (simp [Value.category])) (fun q => by cases q) 90 rfl (fun v h hP => ?_) (fun k h hP => by cases hP.1)
          obtain ⟨hv, q0, q1, hG⟩ := hP
          cases hv
          show g_Go E X _ h false _ _ 90 _ [.ref q]
          refine g_astore hX (L' := [_, _, _, _, _]) dS_page_90 (by decide) (by first | rfl | exact g_rfr _) rfl 92 rfl ?_
          refine g_aload_n hX dS_page_92 rfl rfl (by first | rfl | exact g_rfr _) 93 rfl ?_
          refine g_get hX dS_page_93 fS_17 (show h (A 0 0) = some (w_cell E A S 0 0) from hG.1 0 0 (Or.inr (Or.inr (Or.inr (show w_lv S Sm 0 0 from ⟨rfl, by decide⟩))))) rfl 96 rfl ?_
          refine g_aload hX dS_page_96 rfl (by first | rfl | exact g_rfr _) 98 rfl ?_
          refine g_cF1 (wt := 0) hX (c_addWb (k := 16) (i := 0) (t := 2) (x0 := q_np S) (xs := List.range (q_np S)) hX.tr hG rfl (by rw [w_uA_tag _ (by decide), w_uA_tag _ (by decide), w_uA_same]) (Or.inr (Or.inr (Or.inr (show w_lv S Sm 16 0 from ⟨rfl, by decide⟩)))) rfl (fun hn9 => ⟨Or.inr (Or.inr (Or.inr (show w_lv S Sm 17 0 from ⟨rfl, fun (e9 : q_np S = 0) => hn9 (by rw [e9]; rfl)⟩))), w_data_c (fun x hx => by rw [w_uA_tag _ (by decide), w_uA_tag _ (by decide), w_uA_ix _ (show ¬ x = q_np S from fun e9 => by have : x < q_np S := List.mem_range.mp hx; omega)])⟩) (fun x hx => ⟨Or.inr (Or.inr (Or.inr (show w_lv S Sm 2 x from List.mem_range.mp hx))), _, by rw [w_uc_ix _ (show ¬ x = q_np S from fun e9 => by have : x < q_np S := List.mem_range.mp hx; omega), w_uc_tag _ (by decide), w_uc_tag _ (by decide), w_uc_ix _ (show ¬ x = q_np S from fun e9 => by have : x < q_np S := List.mem_range.mp hx; omega)]; rfl⟩) ⟨Or.inr (Or.inr (Or.inl ⟨rfl, rfl⟩)), _, w_uc_same _ _ _ _⟩ (by rw [List.length_range]; omega) (ct := 1) rfl (g_in 1117 (by decide +kernel) (by decide +kernel)) (by decide)) dS_page_98 (show h (A 16 0) = some (w_list E (A 17 0) (List.range (q_np S)).length) from hG.1 16 0 (Or.inr (Or.inr (Or.inr (show w_lv S Sm 16 0 from ⟨rfl, by decide⟩))))) kS_87 (g_rm.of hR (by decide) (by decide)) (by first | exact Nat.zero_le _ | (rw [hR]; decide)) (by first | exact Nat.zero_le _ | (rw [hR]; decide)) (by first | decide | (simp [Value.category])) (fun q => by cases q) 103 rfl (fun v h hP => ?_) (fun k h hP => by cases hP.1)
          obtain ⟨hv, dd, hG⟩ := hP
          cases hv
          show g_Go E X _ h false _ _ 103 _ [.int 1]
          refine g_pop hX dS_page_103 rfl 104 rfl ?_
          refine g_iload_n hX dS_page_104 rfl rfl 105 rfl ?_
          refine g_iconst hX dS_page_105 (v := 2) (by decide) 106 rfl ?_
          refine g_icmp_ne hX dS_page_106 115 109 (by decide) rfl (fun c106 => ?_) (fun c106 => ?_)
          · exact absurd rfl c106
          · refine g_aload_n hX dS_page_109 rfl rfl (by first | rfl | exact g_rfr _) 110 rfl ?_
            refine g_aload hX dS_page_110 rfl (by first | rfl | exact g_rfr _) 112 rfl ?_
            have hct := c_S_addSlide_j (S := S) (Sm := Sm) (A := A) (q := q) (q0 := q0) (q1 := q1) (dd := dd) hX.tr hB hsl hat hG
            refine g_cV1 (wt := 0) hX (hct) dS_page_112 (show h (A 0 0) = some (w_cell E A S 0 0) from hG.1 0 0 (Or.inr (Or.inr (Or.inr (Or.inr (show w_lv S Sm 0 0 from ⟨rfl, by decide⟩)))))) kS_91 (g_rm.of hR (by decide) (by decide)) (by first | exact Nat.zero_le _ | (rw [hR]; decide)) (by first | exact Nat.zero_le _ | (rw [hR]; decide)) (by first | decide | (simp [Value.category])) (fun q => by cases q) 115 rfl (fun v h hP => ?_) (fun k h hP => by cases hP.1)
            obtain ⟨hv, d2, hG⟩ := hP
            cases hv
            show g_Go E X _ h false _ _ 115 _ []
            refine g_aload_n hX dS_page_115 rfl rfl (by first | rfl | exact g_rfr _) 116 rfl ?_
            refine g_get hX dS_page_116 fS_17 (show h (A 0 0) = some (.inr (0, [.ref (A 1 0), .ref (A 16 0), .ref (A 18 0), .ref (A 20 0), .ref (A 22 0), .ref (A 24 0), .int (nI (q_at S)), .int (nI (q_clicks S)), .int (q_time S)])) by have h9 := hG.1 0 0 (Or.inr (Or.inr (Or.inr (Or.inr (Or.inr (show w_lv S Sm 0 0 from ⟨rfl, by decide⟩)))))); rw [w_uc_same] at h9; exact h9) rfl 119 rfl ?_
            refine g_cF0r (wt := 0) hX ((show g_Rd X.l mA_size 0 0 [.ref (A 16 0)] E h (some (.int (nI (q_np S + 1)))) from c_A_size hX.tr E h (show h (A 16 0) = some (.inr (6, [.ref dd, .int (nI (q_np S + 1)), .int (nI (q_np S + 1))])) by have h9 := hG.1 16 0 (Or.inr (Or.inr (Or.inr (Or.inr (Or.inr (show w_lv S Sm 16 0 from ⟨rfl, by decide⟩)))))); rw [w_uc_tag _ (by decide), w_uc_tag _ (by decide), w_uc_tag _ (by decide), w_uc_same, List.length_range, w_list_s] at h9; exact h9))) dS_page_119 (show h (A 16 0) = some (.inr (6, [.ref dd, .int (nI (q_np S + 1)), .int (nI (q_np S + 1))])) by have h9 := hG.1 16 0 (Or.inr (Or.inr (Or.inr (Or.inr (Or.inr (show w_lv S Sm 16 0 from ⟨rfl, by decide⟩)))))); rw [w_uc_tag _ (by decide), w_uc_tag _ (by decide), w_uc_tag _ (by decide), w_uc_same, List.length_range, w_list_s] at h9; exact h9) kS_71 (g_rm.of hR (by decide) (by decide)) (by first | exact Nat.zero_le _ | (rw [hR]; decide)) (by first | exact Nat.zero_le _ | (rw [hR]; decide)) (by first | decide | (simp [Value.category])) 124 rfl ?_
            refine g_iconst hX dS_page_124 (v := 1) (by decide) 125 rfl ?_
            refine g_isub hX dS_page_125 126 rfl ?_
            rw [show nI (q_np S + 1) - 1 = nI (q_np S) from nI_pred _]
            exact g_iret hX rfl rfl dS_page_126 ⟨rfl, (w_uA (w_uA (w_uA (w_uA (w_uA A 2 (q_np S) q) 3 (q_np S) q0) 5 (q_np S) q1) 17 0 dd) 19 0 d2), ⟨rfl, rfl, rfl⟩, w_pageS (pp := (p + 1)) (rp := (some p)) hB (q_par_new.trans rfl) (fun x q9 => by cases q9; exact hp) hG⟩ rfl (by rw [hR]; decide) (by rw [hR]; decide)
        · exact absurd (nI_lt (b := 12) hn (by decide)) c68
      · exact absurd (c44.symm.trans (if_pos (by rw [hf]; decide))) (by decide)
    · exact absurd c26 (by decide)
  · exact absurd (c6.symm.trans (r_in_1 (by decide) (by decide))) (by decide)
