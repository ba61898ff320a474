/-! calls between classes of one nest -/
def g_kSN (own : String) (idx : Nat) (M' : g_M) (n : Nat) : Prop := ∃ host : String, Cond.methodLinkNest own idx M'.y host ∈ g_wl ∧ Cond.static M'.y ∈ g_wl ∧ Cond.initialized M'.y.cls ∈ g_wl ∧ g_cw M' ∈ g_wl ∧ g_np M'.y n = true
def g_kIN (own : String) (idx : Nat) (M' : g_M) (n : Nat) : Prop := (M'.tb = [] ∧ M'.ret = none ∧ M'.y.name = "<init>") ∧ ∃ host : String, Cond.methodLinkNest own idx M'.y host ∈ g_wl ∧ Cond.instanceMethod M'.y ∈ g_wl ∧ Cond.initialized M'.y.cls ∈ g_wl ∧ g_cw M' ∈ g_wl ∧ g_np M'.y n = true
theorem g_named {E : g_E} {X : g_X} {M M' : g_M} (hX : g_ok E X M) (hcw : g_cw M' ∈ g_wl) : ∃ mk, X.s.methodNamed? M'.y = some mk := by
  have hcodeS : (g_cw M').before X.args X.s = true := hX.w hcw
  obtain ⟨y, cc, nl, rt, tb⟩ := M'
  cases tb with
  | nil => exact Cond.code_named (show (Cond.code y cc nl rt).before X.args X.s = true from hcodeS)
  | cons q r =>
    obtain ⟨m', meth, c, h0, -⟩ := Cond.codeWith_spec (show (Cond.codeWith y cc nl rt (q :: r)).before X.args X.s = true from hcodeS)
    exact ⟨m', h0⟩
section GCN
variable {E : g_E} {X : g_X} {M M' : g_M} {P P' : g_P} {h : g_H} {z : Bool} {cs ss pc : Nat} {L : List (Option Value)} {rest : List Value} {fr lo mc ms index wt : Nat}
theorem g_cSN2r (hX : g_ok E X M) {a1 a2 : Value} {v : Value} (hct : g_Rd X.l M' fr lo [a1, a2] E h (some v)) (hdg : decode M.cc pc = .ok (.invokestatic index, 3)) (hk : g_kSN M.y.cls index M' 2) (hrm : g_rm X fr lo M'.nl wt) (hc : cs ≤ X.R.cells) (hs : ss ≤ X.R.slots) (hW : (rest.map fun v => v.category).sum ≤ wt) (pn : Nat) (hpn : pc + 3 = pn)
    (kr : g_Go E X P h z cs ss pn L (v :: rest)) : g_Go E X P h z cs ss pc L (a2 :: a1 :: rest) := by
  obtain ⟨host, k1, k2, k3, k4, k5⟩ := hk
  exact g_callSN (as := [a1, a2]) (mc := 0) (ms := 0) hX hct hdg k1 k2 k3 k4 (g_named hX k4) k5 hrm.1 hrm.2 hc hs hW (fun _ => ⟨rfl, rfl⟩) pn hpn (fun v' h' q => by
    obtain ⟨q1, q2⟩ := q
    cases q1
    subst q2
    exact kr) (fun k h' q => by cases q.1)
theorem g_cIN0 (hX : g_ok E X M) {b : Nat} (hct : g_Ct X.l M' fr lo mc ms (.ref b :: []) E h P') (hdg : decode M.cc pc = .ok (.invokespecial index, 3)) (hk : g_kIN M.y.cls index M' 0) (hrm : g_rm X fr lo M'.nl wt) (hc : cs + mc ≤ X.R.cells) (hs : ss + ms ≤ X.R.slots) (hW : (rest.map fun v => v.category).sum ≤ wt) (hmc : P'.1 = true → mc = 0 ∧ ms = 0) (pn : Nat) (hpn : pc + 3 = pn)
    (kr : ∀ (v : Option Value) (h' : g_H), P'.2 (.inr v) h' → g_Go E X P h' (P'.1 && z) (cs + mc) (ss + ms) pn L (v.toList ++ rest)) (kt : ∀ (k : Nat) (h' : g_H), P'.2 (.inl k) h' → g_Th E X P h' (cs + mc) (ss + ms) pc L k) : g_Go E X P h z cs ss pc L (.ref b :: rest) := by
  obtain ⟨hk1, host, k1, k2, k3, k4, k5⟩ := hk
  exact g_callIN (as := []) hX hk1.1 hk1.2.1 hk1.2.2 hct hdg k1 k2 k3 k4 k5 hrm.1 hrm.2 hc hs hW hmc pn hpn kr kt
theorem g_cIN2 (hX : g_ok E X M) {a1 a2 : Value} {b : Nat} (hct : g_Ct X.l M' fr lo mc ms (.ref b :: [a1, a2]) E h P') (hdg : decode M.cc pc = .ok (.invokespecial index, 3)) (hk : g_kIN M.y.cls index M' 2) (hrm : g_rm X fr lo M'.nl wt) (hc : cs + mc ≤ X.R.cells) (hs : ss + ms ≤ X.R.slots) (hW : (rest.map fun v => v.category).sum ≤ wt) (hmc : P'.1 = true → mc = 0 ∧ ms = 0) (pn : Nat) (hpn : pc + 3 = pn)
    (kr : ∀ (v : Option Value) (h' : g_H), P'.2 (.inr v) h' → g_Go E X P h' (P'.1 && z) (cs + mc) (ss + ms) pn L (v.toList ++ rest)) (kt : ∀ (k : Nat) (h' : g_H), P'.2 (.inl k) h' → g_Th E X P h' (cs + mc) (ss + ms) pc L k) : g_Go E X P h z cs ss pc L (a2 :: a1 :: .ref b :: rest) := by
  obtain ⟨hk1, host, k1, k2, k3, k4, k5⟩ := hk
  exact g_callIN (as := [a1, a2]) hX hk1.1 hk1.2.1 hk1.2.2 hct hdg k1 k2 k3 k4 k5 hrm.1 hrm.2 hc hs hW hmc pn hpn kr kt
theorem g_cIN3 (hX : g_ok E X M) {a1 a2 a3 : Value} {b : Nat} (hct : g_Ct X.l M' fr lo mc ms (.ref b :: [a1, a2, a3]) E h P') (hdg : decode M.cc pc = .ok (.invokespecial index, 3)) (hk : g_kIN M.y.cls index M' 3) (hrm : g_rm X fr lo M'.nl wt) (hc : cs + mc ≤ X.R.cells) (hs : ss + ms ≤ X.R.slots) (hW : (rest.map fun v => v.category).sum ≤ wt) (hmc : P'.1 = true → mc = 0 ∧ ms = 0) (pn : Nat) (hpn : pc + 3 = pn)
    (kr : ∀ (v : Option Value) (h' : g_H), P'.2 (.inr v) h' → g_Go E X P h' (P'.1 && z) (cs + mc) (ss + ms) pn L (v.toList ++ rest)) (kt : ∀ (k : Nat) (h' : g_H), P'.2 (.inl k) h' → g_Th E X P h' (cs + mc) (ss + ms) pc L k) : g_Go E X P h z cs ss pc L (a3 :: a2 :: a1 :: .ref b :: rest) := by
  obtain ⟨hk1, host, k1, k2, k3, k4, k5⟩ := hk
  exact g_callIN (as := [a1, a2, a3]) hX hk1.1 hk1.2.1 hk1.2.2 hct hdg k1 k2 k3 k4 k5 hrm.1 hrm.2 hc hs hW hmc pn hpn kr kt
theorem g_cIN6 (hX : g_ok E X M) {a1 a2 a3 a4 a5 a6 : Value} {b : Nat} (hct : g_Ct X.l M' fr lo mc ms (.ref b :: [a1, a2, a3, a4, a5, a6]) E h P') (hdg : decode M.cc pc = .ok (.invokespecial index, 3)) (hk : g_kIN M.y.cls index M' 6) (hrm : g_rm X fr lo M'.nl wt) (hc : cs + mc ≤ X.R.cells) (hs : ss + ms ≤ X.R.slots) (hW : (rest.map fun v => v.category).sum ≤ wt) (hmc : P'.1 = true → mc = 0 ∧ ms = 0) (pn : Nat) (hpn : pc + 3 = pn)
    (kr : ∀ (v : Option Value) (h' : g_H), P'.2 (.inr v) h' → g_Go E X P h' (P'.1 && z) (cs + mc) (ss + ms) pn L (v.toList ++ rest)) (kt : ∀ (k : Nat) (h' : g_H), P'.2 (.inl k) h' → g_Th E X P h' (cs + mc) (ss + ms) pc L k) : g_Go E X P h z cs ss pc L (a6 :: a5 :: a4 :: a3 :: a2 :: a1 :: .ref b :: rest) := by
  obtain ⟨hk1, host, k1, k2, k3, k4, k5⟩ := hk
  exact g_callIN (as := [a1, a2, a3, a4, a5, a6]) hX hk1.1 hk1.2.1 hk1.2.2 hct hdg k1 k2 k3 k4 k5 hrm.1 hrm.2 hc hs hW hmc pn hpn kr kt
end GCN
theorem kS_32 : g_kIN "SlideStage" 32 mR_init 0 := ⟨⟨rfl, rfl, rfl⟩, "SlideStage", (g_in 107 (by decide +kernel) (by decide +kernel)), (g_in 108 (by decide +kernel) (by decide +kernel)), (g_in 50 (by decide +kernel) (by decide +kernel)), g_in 109 (by decide +kernel) (by decide +kernel), by decide +kernel⟩
theorem kR_49 : g_kSN "SlideStage$LineRows" 49 mS_letters 2 := ⟨"SlideStage", (g_in 685 (by decide +kernel) (by decide +kernel)), (g_in 641 (by decide +kernel) (by decide +kernel)), (g_in 46 (by decide +kernel) (by decide +kernel)), g_in 642 (by decide +kernel) (by decide +kernel), by decide +kernel⟩
def r_sh (x : Int32) (n : Nat) : Int32 := (x.toUInt32 >>> (((8 : Int32) * (3 - nI n)).toUInt32 &&& Int32.toUInt32 31)).toInt32 &&& 255
theorem q_bits (b : BitVec 32) (s : Nat) (hs : s + 8 ≤ 32) : (b >>> s) &&& 255#32 = (b.sshiftRight s) &&& 255#32 := by
  apply BitVec.eq_of_getLsbD_eq
  intro i hi
  rw [BitVec.getLsbD_and, BitVec.getLsbD_and, BitVec.getLsbD_ushiftRight, BitVec.getLsbD_sshiftRight]
  by_cases h8 : i < 8
  · rw [if_pos (by omega)]
    simp [show ¬ 32 ≤ i by omega]
  · have h255 : (255#32).getLsbD i = false := by
      have : i = 8 ∨ i = 9 ∨ i = 10 ∨ i = 11 ∨ i = 12 ∨ i = 13 ∨ i = 14 ∨ i = 15 ∨ i = 16 ∨ i = 17 ∨ i = 18 ∨ i = 19 ∨ i = 20 ∨ i = 21 ∨ i = 22 ∨ i = 23 ∨ i = 24 ∨ i = 25 ∨ i = 26 ∨ i = 27 ∨ i = 28 ∨ i = 29 ∨ i = 30 ∨ i = 31 := by omega
      rcases this with rfl | rfl | rfl | rfl | rfl | rfl | rfl | rfl | rfl | rfl | rfl | rfl | rfl | rfl | rfl | rfl | rfl | rfl | rfl | rfl | rfl | rfl | rfl | rfl <;> rfl
    rw [h255, Bool.and_false, Bool.and_false]
theorem r_sh_by (x : Int32) {n : Nat} (hn : n < 4) : r_sh x n = r_by x (3 - n) := by
  have h : n = 0 ∨ n = 1 ∨ n = 2 ∨ n = 3 := by omega
  apply Int32.toBitVec_inj.mp
  rcases h with rfl | rfl | rfl | rfl
  · exact q_bits x.toBitVec 24 (by decide)
  · exact q_bits x.toBitVec 16 (by decide)
  · exact q_bits x.toBitVec 8 (by decide)
  · exact q_bits x.toBitVec 0 (by decide)
theorem r_by_nn (x : Int32) (k : Nat) : ¬ r_by x k < 0 := by
  unfold r_by
  generalize x >>> ((8 * nI k) &&& 31) = y
  rw [Int32.lt_iff_toInt_lt]
  have h1 : (y &&& 255).toInt = ((y.toBitVec &&& 255#32).toNat : Int) := by
    show (y.toBitVec &&& 255#32).toInt = _
    exact BitVec.toInt_eq_toNat_of_msb (by rw [BitVec.msb_and, show (255#32).msb = false from by decide, Bool.and_false])
  rw [h1]
  show ¬ ((y.toBitVec &&& 255#32).toNat : Int) < (0 : Int32).toInt
  rw [show (0 : Int32).toInt = 0 from by decide]
  omega
theorem r_by_nat {x : Int32} {k : Nat} (h : ¬ 15 < r_by x k) : ∃ j : Nat, j ≤ 15 ∧ r_by x k = nI j :=
  nI_of2 (M := 15) (by decide) (r_by_nn x k) (q_nlt_le h)
theorem q_mul0 {s j : Nat} (h1 : 1 ≤ s) (h4 : s ≤ 4) (hj : j ≤ 15) : nI s * nI j = 0 ↔ nI j ≤ 0 := by
  have e : nI s * nI j = nI (s * j) := (Int32.ofNat_mul s j).symm
  have hb : s * j ≤ 60 := Nat.le_trans (Nat.mul_le_mul h4 hj) (by decide)
  rw [e]
  constructor
  · intro h
    have h2 : s * j = 0 := q_inj (b := 0) (h.trans nI_0.symm) (by omega) (by decide)
    have h3 : j = 0 := by
      rcases Nat.mul_eq_zero.mp h2 with q | q
      · omega
      · exact q
    subst h3
    decide
  · intro h
    have h3 : j = 0 := by
      by_cases q : j = 0
      · exact q
      · exact absurd h (nI_nle (by omega) (by omega))
    subst h3
    rw [Nat.mul_zero]
    decide
def q_cw (x : Int32) : Nat → Nat
  | 0 => 0
  | w + 1 => if r_by x (3 - w) ≤ 0 then q_cw x w else q_cw x w + 1
theorem q_cw_le (x : Int32) : ∀ w, q_cw x w ≤ w
  | 0 => Nat.le_refl _
  | w + 1 => by
    have := q_cw_le x w
    rw [q_cw]
    split <;> omega
/-- the stage's way through a paragraph: w of its four bytes are done -/
def q_pc (s room : Int32) (k : Nat) (x : Int32) : Nat → q_L → q_L
  | 0, L => L
  | w + 1, L => if r_by x (3 - w) ≤ 0 then q_pc s room k x w L else q_wd s room k (q_cw x w) (s * r_by x (3 - w)) (q_pc s room k x w L)
theorem q_pc_le (s room : Int32) (k : Nat) (x : Int32) (L : q_L) : ∀ w, (q_pc s room k x w L).1 ≤ L.1 + w
  | 0 => Nat.le_refl _
  | w + 1 => by
    have h1 := q_pc_le s room k x L w
    rw [q_pc]
    split
    · omega
    · have h2 := q_wd_le s room k (q_cw x w) (s * r_by x (3 - w)) (q_pc s room k x w L)
      omega
theorem q_pc_pos (s room : Int32) (k : Nat) (x : Int32) (L : q_L) : ∀ w, 0 < q_cw x w → 1 ≤ (q_pc s room k x w L).1
  | 0, h => by
    rw [q_cw] at h
    omega
  | w + 1, h => by
    rw [q_cw] at h
    rw [q_pc]
    split
    · rename_i hq
      rw [if_pos hq] at h
      exact q_pc_pos s room k x L w h
    · by_cases h0 : 0 < q_cw x w
      · have h1 := q_pc_pos s room k x L w h0
        have h2 := q_wd_ge s room k (q_cw x w) (s * r_by x (3 - w)) (q_pc s room k x w L)
        omega
      · unfold q_wd
        rw [if_neg (fun q => h0 q.1)]
        exact Nat.le_add_left _ _
theorem q_pc_pg {S : q_S} {j : Nat} {s : Int32} {k : Nat} {x : Int32} (L : q_L) (h6 : ∀ w, w < 4 → ¬ r_by x (3 - w) ≤ 0 → S.2 6 (4 * (4 * j + k) + q_cw x w) = r_by x (3 - w)) : ∀ w, w ≤ 4 → q_pc s (q_room S j s k) k x w L = q_pg S j s k (q_cw x w) L
  | 0, _ => rfl
  | w + 1, hw => by
    have ih := q_pc_pg (s := s) L h6 w (by omega)
    rw [q_pc, q_cw]
    by_cases hq : r_by x (3 - w) ≤ 0
    · rw [if_pos hq, if_pos hq]
      exact ih
    · rw [if_neg hq, if_neg hq, ih, q_pg, h6 w (by omega) hq]
/-- what the stage's raw words say of the reference's letters -/
def w_T (S : q_S) : Prop := ∀ t, t / 4 < q_ns S → t % 4 < S.1 3 (t / 4) → S.1 4 t = q_cw (S.2 12 t) 4 ∧ (∀ w, w < 4 → ¬ r_by (S.2 12 t) (3 - w) ≤ 0 → S.2 6 (4 * t + q_cw (S.2 12 t) w) = r_by (S.2 12 t) (3 - w)) ∧ ∀ i, i < 4 → ¬ 15 < r_by (S.2 12 t) i
def r_aw (x : Int32) : Int32 := if r_by x 3 ≤ 15 then (if r_by x 2 ≤ 15 then (if r_by x 1 ≤ 15 then (if r_by x 0 ≤ 15 then (if x = 0 then 0 else 1) else 0) else 0) else 0) else 0
theorem q_lenl {a b : Int32} (h : a ≤ b) : ¬ b < a := fun q => q_lt_nle q h
theorem r_gd0 (x : Int32) : ∀ k, r_gd x 0 k = 0
  | 0 => rfl
  | k + 1 => by rw [r_gd, r_gd0 x k, if_pos rfl]
theorem r_aw_gw {lv x : Int32} (h1 : ¬ lv < 0) (h2 : lv ≤ 2) : r_gw lv x = r_aw x := by
  unfold r_gw r_aw
  rw [if_neg h1, if_neg (q_lenl h2)]
  have step : ∀ (g : Int32) (k : Nat), r_gd x g (k + 1) = if r_gd x g k = 0 then 0 else if 15 < r_by x k then 0 else 1 := fun g k => by rw [r_gd]
  have le_iff : ∀ k, r_by x k ≤ 15 ↔ ¬ 15 < r_by x k := fun k => ⟨q_lenl, q_nlt_le⟩
  simp only [le_iff]
  by_cases h0 : x = 0
  · rw [if_pos h0, r_gd0]
    repeat' split
    all_goals rfl
  · rw [if_neg h0, step, step, step, step, show r_gd x 1 0 = 1 from rfl]
    by_cases a0 : 15 < r_by x 0
    · simp [a0]
    · by_cases a1 : 15 < r_by x 1
      · simp [a0, a1]
      · by_cases a2 : 15 < r_by x 2
        · simp [a0, a1, a2]
        · by_cases a3 : 15 < r_by x 3
          · simp [a0, a1, a2, a3]
          · simp [a0, a1, a2, a3]
theorem r_gw_bad {lv : Int32} (x : Int32) (h : lv < 0 ∨ ¬ lv ≤ 2) : r_gw lv x = 0 := by
  unfold r_gw
  by_cases h1 : lv < 0
  · rw [if_pos h1, r_gd0]
  · rw [if_neg h1, if_pos (by have h2 := h.resolve_left h1; rw [Int32.le_iff_toInt_le] at h2; rw [Int32.lt_iff_toInt_lt]; omega), r_gd0]
theorem r_aw_by {x : Int32} (h : ¬ r_aw x = 0) : (∀ i, i < 4 → ¬ 15 < r_by x i) ∧ ¬ x = 0 := by
  unfold r_aw at h
  by_cases a3 : r_by x 3 ≤ 15
  · rw [if_pos a3] at h
    by_cases a2 : r_by x 2 ≤ 15
    · rw [if_pos a2] at h
      by_cases a1 : r_by x 1 ≤ 15
      · rw [if_pos a1] at h
        by_cases a0 : r_by x 0 ≤ 15
        · rw [if_pos a0] at h
          refine ⟨fun i hi => ?_, fun q => h (if_pos q)⟩
          have h3 : i = 0 ∨ i = 1 ∨ i = 2 ∨ i = 3 := by omega
          rcases h3 with rfl | rfl | rfl | rfl
          · exact q_lenl a0
          · exact q_lenl a1
          · exact q_lenl a2
          · exact q_lenl a3
        · exact absurd (if_neg a0) h
      · exact absurd (if_neg a1) h
    · exact absurd (if_neg a2) h
  · exact absurd (if_neg a3) h
set_option maxRecDepth 100000 in
set_option maxHeartbeats 4000000 in
theorem c_S_letters {l : Launch} (hl : l.stackTraces = false) (E : g_E) (h : g_H) (x : Int32) {n : Nat} (hn : n < 4)  : g_Rd l mS_letters 0 0 [.int x, .int (nI n)] E h (some (.int (r_by x (3 - n)))) := by
  refine g_Rd.of hl (by decide) (rfl) (Nat.le_of_ble_eq_true rfl) ?_
  intro X hX hXl hR
  show g_Go E X _ h true 0 0 0 [some (.int x), some (.int (nI n))] []
  refine g_iload_n hX dS_letters_0 rfl rfl 1 rfl ?_
  refine g_bipush hX dS_letters_1 (v := 8) (by decide) 3 rfl ?_
  refine g_iconst hX dS_letters_3 (v := 3) (by decide) 4 rfl ?_
  refine g_iload_n hX dS_letters_4 rfl rfl 5 rfl ?_
  refine g_isub hX dS_letters_5 6 rfl ?_
  refine g_imul hX dS_letters_6 7 rfl ?_
  refine g_iushr hX dS_letters_7 rfl 8 rfl ?_
  refine g_sipush hX dS_letters_8 (v := 255) (by decide) 11 rfl ?_
  refine g_iand hX dS_letters_11 12 rfl ?_
  exact g_iret hX rfl rfl dS_letters_12 ⟨by rw [← r_sh_by x hn]; rfl, rfl⟩ rfl (Nat.zero_le _) (Nat.zero_le _)
set_option maxRecDepth 100000 in
set_option maxHeartbeats 4000000 in
theorem c_S_areWords {l : Launch} (hl : l.stackTraces = false) (E : g_E) (h : g_H) (x : Int32)  : g_Rd l mS_areWords 1 13 [.int x] E h (some (.int (r_aw x))) := by
  refine g_Rd.of hl (by decide) (rfl) (Nat.le_of_ble_eq_true rfl) ?_
  intro X hX hXl hR
  show g_Go E X _ h true 0 0 0 [some (.int x), none] []
  refine g_iconst hX dS_areWords_0 (v := 0) (by decide) 1 rfl ?_
  refine g_istore_n hX (L' := [_, _]) dS_areWords_1 rfl (by decide) rfl 2 rfl ?_
  refine g_iload_n hX dS_areWords_2 rfl rfl 3 rfl ?_
  refine g_iconst hX dS_areWords_3 (v := 4) (by decide) 4 rfl ?_
  refine g_icmp_ge hX dS_areWords_4 25 7 (by decide) rfl (fun c4 => ?_) (fun c4 => ?_)
  · exact absurd c4 (by decide)
  · refine g_iload_n hX dS_areWords_7 rfl rfl 8 rfl ?_
    refine g_iload_n hX dS_areWords_8 rfl rfl 9 rfl ?_
    refine g_cS2r (wt := 0) hX ((show g_Rd X.l mS_letters 0 0 [.int x, .int 0] E h (some (.int (r_by x 3))) from c_S_letters hX.tr E h x (n := 0) (by decide))) dS_areWords_9 kS_315 (g_rm.of hR (by decide) (by decide)) (by first | exact Nat.zero_le _ | (rw [hR]; decide)) (by first | exact Nat.zero_le _ | (rw [hR]; decide)) (by first | decide | (simp [Value.category])) 12 rfl ?_
    refine g_bipush hX dS_areWords_12 (v := 15) (by decide) 14 rfl ?_
    refine g_icmp_le hX dS_areWords_14 19 17 (by decide) rfl (fun c14 => ?_) (fun c14 => ?_)
    · have e1 := c14
      refine g_iinc hX (L' := [_, _]) dS_areWords_19 (v := 1) rfl (by decide) rfl 22 rfl ?_
      refine g_goto hX dS_areWords_22 2 (by decide) ?_
      refine g_iload_n hX dS_areWords_2 rfl rfl 3 rfl ?_
      refine g_iconst hX dS_areWords_3 (v := 4) (by decide) 4 rfl ?_
      refine g_icmp_ge hX dS_areWords_4 25 7 (by decide) rfl (fun c4 => ?_) (fun c4 => ?_)
      · exact absurd c4 (by decide)
      · refine g_iload_n hX dS_areWords_7 rfl rfl 8 rfl ?_
        refine g_iload_n hX dS_areWords_8 rfl rfl 9 rfl ?_
        refine g_cS2r (wt := 0) hX ((show g_Rd X.l mS_letters 0 0 [.int x, .int 1] E h (some (.int (r_by x 2))) from c_S_letters hX.tr E h x (n := 1) (by decide))) dS_areWords_9 kS_315 (g_rm.of hR (by decide) (by decide)) (by first | exact Nat.zero_le _ | (rw [hR]; decide)) (by first | exact Nat.zero_le _ | (rw [hR]; decide)) (by first | decide | (simp [Value.category])) 12 rfl ?_
        refine g_bipush hX dS_areWords_12 (v := 15) (by decide) 14 rfl ?_
        refine g_icmp_le hX dS_areWords_14 19 17 (by decide) rfl (fun c14 => ?_) (fun c14 => ?_)
        · have e2 := c14
          refine g_iinc hX (L' := [_, _]) dS_areWords_19 (v := 2) rfl (by decide) rfl 22 rfl ?_
          refine g_goto hX dS_areWords_22 2 (by decide) ?_
          refine g_iload_n hX dS_areWords_2 rfl rfl 3 rfl ?_
          refine g_iconst hX dS_areWords_3 (v := 4) (by decide) 4 rfl ?_
          refine g_icmp_ge hX dS_areWords_4 25 7 (by decide) rfl (fun c4 => ?_) (fun c4 => ?_)
          · exact absurd c4 (by decide)
          · refine g_iload_n hX dS_areWords_7 rfl rfl 8 rfl ?_
            refine g_iload_n hX dS_areWords_8 rfl rfl 9 rfl ?_
            refine g_cS2r (wt := 0) hX ((show g_Rd X.l mS_letters 0 0 [.int x, .int 2] E h (some (.int (r_by x 1))) from c_S_letters hX.tr E h x (n := 2) (by decide))) dS_areWords_9 kS_315 (g_rm.of hR (by decide) (by decide)) (by first | exact Nat.zero_le _ | (rw [hR]; decide)) (by first | exact Nat.zero_le _ | (rw [hR]; decide)) (by first | decide | (simp [Value.category])) 12 rfl ?_
            refine g_bipush hX dS_areWords_12 (v := 15) (by decide) 14 rfl ?_
            refine g_icmp_le hX dS_areWords_14 19 17 (by decide) rfl (fun c14 => ?_) (fun c14 => ?_)
            · have e3 := c14
              refine g_iinc hX (L' := [_, _]) dS_areWords_19 (v := 3) rfl (by decide) rfl 22 rfl ?_
              refine g_goto hX dS_areWords_22 2 (by decide) ?_
              refine g_iload_n hX dS_areWords_2 rfl rfl 3 rfl ?_
              refine g_iconst hX dS_areWords_3 (v := 4) (by decide) 4 rfl ?_
              refine g_icmp_ge hX dS_areWords_4 25 7 (by decide) rfl (fun c4 => ?_) (fun c4 => ?_)
              · exact absurd c4 (by decide)
              · refine g_iload_n hX dS_areWords_7 rfl rfl 8 rfl ?_
                refine g_iload_n hX dS_areWords_8 rfl rfl 9 rfl ?_
                refine g_cS2r (wt := 0) hX ((show g_Rd X.l mS_letters 0 0 [.int x, .int 3] E h (some (.int (r_by x 0))) from c_S_letters hX.tr E h x (n := 3) (by decide))) dS_areWords_9 kS_315 (g_rm.of hR (by decide) (by decide)) (by first | exact Nat.zero_le _ | (rw [hR]; decide)) (by first | exact Nat.zero_le _ | (rw [hR]; decide)) (by first | decide | (simp [Value.category])) 12 rfl ?_
                refine g_bipush hX dS_areWords_12 (v := 15) (by decide) 14 rfl ?_
                refine g_icmp_le hX dS_areWords_14 19 17 (by decide) rfl (fun c14 => ?_) (fun c14 => ?_)
                · have e4 := c14
                  refine g_iinc hX (L' := [_, _]) dS_areWords_19 (v := 4) rfl (by decide) rfl 22 rfl ?_
                  refine g_goto hX dS_areWords_22 2 (by decide) ?_
                  refine g_iload_n hX dS_areWords_2 rfl rfl 3 rfl ?_
                  refine g_iconst hX dS_areWords_3 (v := 4) (by decide) 4 rfl ?_
                  refine g_icmp_ge hX dS_areWords_4 25 7 (by decide) rfl (fun c4 => ?_) (fun c4 => ?_)
                  · refine g_iload_n hX dS_areWords_25 rfl rfl 26 rfl ?_
                    refine g_if_eq hX dS_areWords_26 33 29 (by decide) rfl (fun c26 => ?_) (fun c26 => ?_)
                    · refine g_iconst hX dS_areWords_33 (v := 0) (by decide) 34 rfl ?_
                      exact g_iret hX rfl rfl dS_areWords_34 ⟨by unfold r_aw; rw [if_pos e1, if_pos e2, if_pos e3, if_pos e4, if_pos c26], rfl⟩ rfl (Nat.zero_le _) (Nat.zero_le _)
                    · refine g_iconst hX dS_areWords_29 (v := 1) (by decide) 30 rfl ?_
                      refine g_goto hX dS_areWords_30 34 (by decide) ?_
                      exact g_iret hX rfl rfl dS_areWords_34 ⟨by unfold r_aw; rw [if_pos e1, if_pos e2, if_pos e3, if_pos e4, if_neg c26], rfl⟩ rfl (Nat.zero_le _) (Nat.zero_le _)
                  · exact absurd (by decide) c4
                · refine g_iconst hX dS_areWords_17 (v := 0) (by decide) 18 rfl ?_
                  exact g_iret hX rfl rfl dS_areWords_18 ⟨by unfold r_aw; rw [if_pos e1, if_pos e2, if_pos e3, if_neg c14], rfl⟩ rfl (Nat.zero_le _) (Nat.zero_le _)
            · refine g_iconst hX dS_areWords_17 (v := 0) (by decide) 18 rfl ?_
              exact g_iret hX rfl rfl dS_areWords_18 ⟨by unfold r_aw; rw [if_pos e1, if_pos e2, if_neg c14], rfl⟩ rfl (Nat.zero_le _) (Nat.zero_le _)
        · refine g_iconst hX dS_areWords_17 (v := 0) (by decide) 18 rfl ?_
          exact g_iret hX rfl rfl dS_areWords_18 ⟨by unfold r_aw; rw [if_pos e1, if_neg c14], rfl⟩ rfl (Nat.zero_le _) (Nat.zero_le _)
    · refine g_iconst hX dS_areWords_17 (v := 0) (by decide) 18 rfl ?_
      exact g_iret hX rfl rfl dS_areWords_18 ⟨by unfold r_aw; rw [if_neg c14], rfl⟩ rfl (Nat.zero_le _) (Nat.zero_le _)
theorem w_cLa {E : g_E} {A : w_A} {S : q_S} {n : Nat} {a b c d x : Nat → Int32} : ∀ k i, k < 30 → w_live (q_wL S 18 6 (n, a, b, c, d)) k i → ¬ (k = 25 ∧ i = 0) → w_cell E A (q_wL S 18 6 (n, x, b, c, d)) k i = w_cell E A (q_wL S 18 6 (n, a, b, c, d)) k i := by
  intro k i h1 hl h3
  rcases w_tagsC h1 with rfl | rfl | rfl | rfl | rfl | rfl | rfl | rfl | rfl | rfl | rfl | rfl | rfl | rfl | rfl | rfl | rfl | rfl | rfl | rfl | rfl | rfl | rfl | rfl | rfl | rfl | rfl | rfl | rfl | rfl
  · exact w_t0 (S := q_wL S 18 6 (n, x, b, c, d)) (T := q_wL S 18 6 (n, a, b, c, d)) (q_sl_c rfl rfl) rfl rfl rfl i
  · exact w_t1 (S := q_wL S 18 6 (n, x, b, c, d)) (T := q_wL S 18 6 (n, a, b, c, d)) rfl i
  · exact w_t2 (S := q_wL S 18 6 (n, x, b, c, d)) (T := q_wL S 18 6 (n, a, b, c, d)) rfl rfl i
  · exact w_t3 (S := q_wL S 18 6 (n, x, b, c, d)) (T := q_wL S 18 6 (n, a, b, c, d)) rfl rfl i
  · exact w_t4 (S := q_wL S 18 6 (n, x, b, c, d)) (T := q_wL S 18 6 (n, a, b, c, d)) rfl rfl i
  · exact w_t5 (S := q_wL S 18 6 (n, x, b, c, d)) (T := q_wL S 18 6 (n, a, b, c, d)) rfl rfl rfl i
  · exact w_t6 (S := q_wL S 18 6 (n, x, b, c, d)) (T := q_wL S 18 6 (n, a, b, c, d)) rfl rfl rfl i
  · exact w_t7 (S := q_wL S 18 6 (n, x, b, c, d)) (T := q_wL S 18 6 (n, a, b, c, d)) rfl rfl i
  · exact w_t8 (S := q_wL S 18 6 (n, x, b, c, d)) (T := q_wL S 18 6 (n, a, b, c, d)) rfl i
  · exact w_t9 (S := q_wL S 18 6 (n, x, b, c, d)) (T := q_wL S 18 6 (n, a, b, c, d)) rfl i
  · exact w_t10 (S := q_wL S 18 6 (n, x, b, c, d)) (T := q_wL S 18 6 (n, a, b, c, d)) rfl i
  · exact w_t11 (S := q_wL S 18 6 (n, x, b, c, d)) (T := q_wL S 18 6 (n, a, b, c, d)) rfl i
  · exact w_t12 (S := q_wL S 18 6 (n, x, b, c, d)) (T := q_wL S 18 6 (n, a, b, c, d)) rfl rfl i
  · exact w_t13 (S := q_wL S 18 6 (n, x, b, c, d)) (T := q_wL S 18 6 (n, a, b, c, d)) rfl rfl i
  · exact w_t14 (S := q_wL S 18 6 (n, x, b, c, d)) (T := q_wL S 18 6 (n, a, b, c, d)) rfl rfl i
  · exact w_t15 (S := q_wL S 18 6 (n, x, b, c, d)) (T := q_wL S 18 6 (n, a, b, c, d)) ⟨rfl, rfl, rfl, rfl, rfl⟩ rfl rfl i
  · exact w_t16 (S := q_wL S 18 6 (n, x, b, c, d)) (T := q_wL S 18 6 (n, a, b, c, d)) rfl i
  · exact w_t17 (S := q_wL S 18 6 (n, x, b, c, d)) (T := q_wL S 18 6 (n, a, b, c, d)) rfl i
  · exact w_t18 (S := q_wL S 18 6 (n, x, b, c, d)) (T := q_wL S 18 6 (n, a, b, c, d)) rfl rfl i
  · exact w_t19 (S := q_wL S 18 6 (n, x, b, c, d)) (T := q_wL S 18 6 (n, a, b, c, d)) rfl rfl i
  · exact w_t20 (S := q_wL S 18 6 (n, x, b, c, d)) (T := q_wL S 18 6 (n, a, b, c, d)) rfl i
  · exact w_t21 (S := q_wL S 18 6 (n, x, b, c, d)) (T := q_wL S 18 6 (n, a, b, c, d)) rfl i
  · exact w_t22 (S := q_wL S 18 6 (n, x, b, c, d)) (T := q_wL S 18 6 (n, a, b, c, d)) rfl i
  · exact w_t23 (S := q_wL S 18 6 (n, x, b, c, d)) (T := q_wL S 18 6 (n, a, b, c, d)) rfl i
  · exact w_t24 (S := q_wL S 18 6 (n, x, b, c, d)) (T := q_wL S 18 6 (n, a, b, c, d)) rfl i
  · exact absurd ⟨rfl, hl.1⟩ h3
  · exact w_t26 (S := q_wL S 18 6 (n, x, b, c, d)) (T := q_wL S 18 6 (n, a, b, c, d)) rfl i
  · exact w_t27 (S := q_wL S 18 6 (n, x, b, c, d)) (T := q_wL S 18 6 (n, a, b, c, d)) rfl i
  · exact w_t28 (S := q_wL S 18 6 (n, x, b, c, d)) (T := q_wL S 18 6 (n, a, b, c, d)) rfl i
  · exact w_t29 (S := q_wL S 18 6 (n, x, b, c, d)) (T := q_wL S 18 6 (n, a, b, c, d)) rfl i
theorem w_cLb {E : g_E} {A : w_A} {S : q_S} {n : Nat} {a b c d x : Nat → Int32} : ∀ k i, k < 30 → w_live (q_wL S 18 6 (n, a, b, c, d)) k i → ¬ (k = 26 ∧ i = 0) → w_cell E A (q_wL S 18 6 (n, a, x, c, d)) k i = w_cell E A (q_wL S 18 6 (n, a, b, c, d)) k i := by
  intro k i h1 hl h3
  rcases w_tagsC h1 with rfl | rfl | rfl | rfl | rfl | rfl | rfl | rfl | rfl | rfl | rfl | rfl | rfl | rfl | rfl | rfl | rfl | rfl | rfl | rfl | rfl | rfl | rfl | rfl | rfl | rfl | rfl | rfl | rfl | rfl
  · exact w_t0 (S := q_wL S 18 6 (n, a, x, c, d)) (T := q_wL S 18 6 (n, a, b, c, d)) (q_sl_c rfl rfl) rfl rfl rfl i
  · exact w_t1 (S := q_wL S 18 6 (n, a, x, c, d)) (T := q_wL S 18 6 (n, a, b, c, d)) rfl i
  · exact w_t2 (S := q_wL S 18 6 (n, a, x, c, d)) (T := q_wL S 18 6 (n, a, b, c, d)) rfl rfl i
  · exact w_t3 (S := q_wL S 18 6 (n, a, x, c, d)) (T := q_wL S 18 6 (n, a, b, c, d)) rfl rfl i
  · exact w_t4 (S := q_wL S 18 6 (n, a, x, c, d)) (T := q_wL S 18 6 (n, a, b, c, d)) rfl rfl i
  · exact w_t5 (S := q_wL S 18 6 (n, a, x, c, d)) (T := q_wL S 18 6 (n, a, b, c, d)) rfl rfl rfl i
  · exact w_t6 (S := q_wL S 18 6 (n, a, x, c, d)) (T := q_wL S 18 6 (n, a, b, c, d)) rfl rfl rfl i
  · exact w_t7 (S := q_wL S 18 6 (n, a, x, c, d)) (T := q_wL S 18 6 (n, a, b, c, d)) rfl rfl i
  · exact w_t8 (S := q_wL S 18 6 (n, a, x, c, d)) (T := q_wL S 18 6 (n, a, b, c, d)) rfl i
  · exact w_t9 (S := q_wL S 18 6 (n, a, x, c, d)) (T := q_wL S 18 6 (n, a, b, c, d)) rfl i
  · exact w_t10 (S := q_wL S 18 6 (n, a, x, c, d)) (T := q_wL S 18 6 (n, a, b, c, d)) rfl i
  · exact w_t11 (S := q_wL S 18 6 (n, a, x, c, d)) (T := q_wL S 18 6 (n, a, b, c, d)) rfl i
  · exact w_t12 (S := q_wL S 18 6 (n, a, x, c, d)) (T := q_wL S 18 6 (n, a, b, c, d)) rfl rfl i
  · exact w_t13 (S := q_wL S 18 6 (n, a, x, c, d)) (T := q_wL S 18 6 (n, a, b, c, d)) rfl rfl i
  · exact w_t14 (S := q_wL S 18 6 (n, a, x, c, d)) (T := q_wL S 18 6 (n, a, b, c, d)) rfl rfl i
  · exact w_t15 (S := q_wL S 18 6 (n, a, x, c, d)) (T := q_wL S 18 6 (n, a, b, c, d)) ⟨rfl, rfl, rfl, rfl, rfl⟩ rfl rfl i
  · exact w_t16 (S := q_wL S 18 6 (n, a, x, c, d)) (T := q_wL S 18 6 (n, a, b, c, d)) rfl i
  · exact w_t17 (S := q_wL S 18 6 (n, a, x, c, d)) (T := q_wL S 18 6 (n, a, b, c, d)) rfl i
  · exact w_t18 (S := q_wL S 18 6 (n, a, x, c, d)) (T := q_wL S 18 6 (n, a, b, c, d)) rfl rfl i
  · exact w_t19 (S := q_wL S 18 6 (n, a, x, c, d)) (T := q_wL S 18 6 (n, a, b, c, d)) rfl rfl i
  · exact w_t20 (S := q_wL S 18 6 (n, a, x, c, d)) (T := q_wL S 18 6 (n, a, b, c, d)) rfl i
  · exact w_t21 (S := q_wL S 18 6 (n, a, x, c, d)) (T := q_wL S 18 6 (n, a, b, c, d)) rfl i
  · exact w_t22 (S := q_wL S 18 6 (n, a, x, c, d)) (T := q_wL S 18 6 (n, a, b, c, d)) rfl i
  · exact w_t23 (S := q_wL S 18 6 (n, a, x, c, d)) (T := q_wL S 18 6 (n, a, b, c, d)) rfl i
  · exact w_t24 (S := q_wL S 18 6 (n, a, x, c, d)) (T := q_wL S 18 6 (n, a, b, c, d)) rfl i
  · exact w_t25 (S := q_wL S 18 6 (n, a, x, c, d)) (T := q_wL S 18 6 (n, a, b, c, d)) rfl i
  · exact absurd ⟨rfl, hl.1⟩ h3
  · exact w_t27 (S := q_wL S 18 6 (n, a, x, c, d)) (T := q_wL S 18 6 (n, a, b, c, d)) rfl i
  · exact w_t28 (S := q_wL S 18 6 (n, a, x, c, d)) (T := q_wL S 18 6 (n, a, b, c, d)) rfl i
  · exact w_t29 (S := q_wL S 18 6 (n, a, x, c, d)) (T := q_wL S 18 6 (n, a, b, c, d)) rfl i
theorem w_cLc {E : g_E} {A : w_A} {S : q_S} {n : Nat} {a b c d x : Nat → Int32} : ∀ k i, k < 30 → w_live (q_wL S 18 6 (n, a, b, c, d)) k i → ¬ (k = 27 ∧ i = 0) → w_cell E A (q_wL S 18 6 (n, a, b, x, d)) k i = w_cell E A (q_wL S 18 6 (n, a, b, c, d)) k i := by
  intro k i h1 hl h3
  rcases w_tagsC h1 with rfl | rfl | rfl | rfl | rfl | rfl | rfl | rfl | rfl | rfl | rfl | rfl | rfl | rfl | rfl | rfl | rfl | rfl | rfl | rfl | rfl | rfl | rfl | rfl | rfl | rfl | rfl | rfl | rfl | rfl
  · exact w_t0 (S := q_wL S 18 6 (n, a, b, x, d)) (T := q_wL S 18 6 (n, a, b, c, d)) (q_sl_c rfl rfl) rfl rfl rfl i
  · exact w_t1 (S := q_wL S 18 6 (n, a, b, x, d)) (T := q_wL S 18 6 (n, a, b, c, d)) rfl i
  · exact w_t2 (S := q_wL S 18 6 (n, a, b, x, d)) (T := q_wL S 18 6 (n, a, b, c, d)) rfl rfl i
  · exact w_t3 (S := q_wL S 18 6 (n, a, b, x, d)) (T := q_wL S 18 6 (n, a, b, c, d)) rfl rfl i
  · exact w_t4 (S := q_wL S 18 6 (n, a, b, x, d)) (T := q_wL S 18 6 (n, a, b, c, d)) rfl rfl i
  · exact w_t5 (S := q_wL S 18 6 (n, a, b, x, d)) (T := q_wL S 18 6 (n, a, b, c, d)) rfl rfl rfl i
  · exact w_t6 (S := q_wL S 18 6 (n, a, b, x, d)) (T := q_wL S 18 6 (n, a, b, c, d)) rfl rfl rfl i
  · exact w_t7 (S := q_wL S 18 6 (n, a, b, x, d)) (T := q_wL S 18 6 (n, a, b, c, d)) rfl rfl i
  · exact w_t8 (S := q_wL S 18 6 (n, a, b, x, d)) (T := q_wL S 18 6 (n, a, b, c, d)) rfl i
  · exact w_t9 (S := q_wL S 18 6 (n, a, b, x, d)) (T := q_wL S 18 6 (n, a, b, c, d)) rfl i
  · exact w_t10 (S := q_wL S 18 6 (n, a, b, x, d)) (T := q_wL S 18 6 (n, a, b, c, d)) rfl i
  · exact w_t11 (S := q_wL S 18 6 (n, a, b, x, d)) (T := q_wL S 18 6 (n, a, b, c, d)) rfl i
  · exact w_t12 (S := q_wL S 18 6 (n, a, b, x, d)) (T := q_wL S 18 6 (n, a, b, c, d)) rfl rfl i
  · exact w_t13 (S := q_wL S 18 6 (n, a, b, x, d)) (T := q_wL S 18 6 (n, a, b, c, d)) rfl rfl i
  · exact w_t14 (S := q_wL S 18 6 (n, a, b, x, d)) (T := q_wL S 18 6 (n, a, b, c, d)) rfl rfl i
  · exact w_t15 (S := q_wL S 18 6 (n, a, b, x, d)) (T := q_wL S 18 6 (n, a, b, c, d)) ⟨rfl, rfl, rfl, rfl, rfl⟩ rfl rfl i
  · exact w_t16 (S := q_wL S 18 6 (n, a, b, x, d)) (T := q_wL S 18 6 (n, a, b, c, d)) rfl i
  · exact w_t17 (S := q_wL S 18 6 (n, a, b, x, d)) (T := q_wL S 18 6 (n, a, b, c, d)) rfl i
  · exact w_t18 (S := q_wL S 18 6 (n, a, b, x, d)) (T := q_wL S 18 6 (n, a, b, c, d)) rfl rfl i
  · exact w_t19 (S := q_wL S 18 6 (n, a, b, x, d)) (T := q_wL S 18 6 (n, a, b, c, d)) rfl rfl i
  · exact w_t20 (S := q_wL S 18 6 (n, a, b, x, d)) (T := q_wL S 18 6 (n, a, b, c, d)) rfl i
  · exact w_t21 (S := q_wL S 18 6 (n, a, b, x, d)) (T := q_wL S 18 6 (n, a, b, c, d)) rfl i
  · exact w_t22 (S := q_wL S 18 6 (n, a, b, x, d)) (T := q_wL S 18 6 (n, a, b, c, d)) rfl i
  · exact w_t23 (S := q_wL S 18 6 (n, a, b, x, d)) (T := q_wL S 18 6 (n, a, b, c, d)) rfl i
  · exact w_t24 (S := q_wL S 18 6 (n, a, b, x, d)) (T := q_wL S 18 6 (n, a, b, c, d)) rfl i
  · exact w_t25 (S := q_wL S 18 6 (n, a, b, x, d)) (T := q_wL S 18 6 (n, a, b, c, d)) rfl i
  · exact w_t26 (S := q_wL S 18 6 (n, a, b, x, d)) (T := q_wL S 18 6 (n, a, b, c, d)) rfl i
  · exact absurd ⟨rfl, hl.1⟩ h3
  · exact w_t28 (S := q_wL S 18 6 (n, a, b, x, d)) (T := q_wL S 18 6 (n, a, b, c, d)) rfl i
  · exact w_t29 (S := q_wL S 18 6 (n, a, b, x, d)) (T := q_wL S 18 6 (n, a, b, c, d)) rfl i
theorem w_cLd {E : g_E} {A : w_A} {S : q_S} {n : Nat} {a b c d x : Nat → Int32} : ∀ k i, k < 30 → w_live (q_wL S 18 6 (n, a, b, c, d)) k i → ¬ (k = 28 ∧ i = 0) → w_cell E A (q_wL S 18 6 (n, a, b, c, x)) k i = w_cell E A (q_wL S 18 6 (n, a, b, c, d)) k i := by
  intro k i h1 hl h3
  rcases w_tagsC h1 with rfl | rfl | rfl | rfl | rfl | rfl | rfl | rfl | rfl | rfl | rfl | rfl | rfl | rfl | rfl | rfl | rfl | rfl | rfl | rfl | rfl | rfl | rfl | rfl | rfl | rfl | rfl | rfl | rfl | rfl
  · exact w_t0 (S := q_wL S 18 6 (n, a, b, c, x)) (T := q_wL S 18 6 (n, a, b, c, d)) (q_sl_c rfl rfl) rfl rfl rfl i
  · exact w_t1 (S := q_wL S 18 6 (n, a, b, c, x)) (T := q_wL S 18 6 (n, a, b, c, d)) rfl i
  · exact w_t2 (S := q_wL S 18 6 (n, a, b, c, x)) (T := q_wL S 18 6 (n, a, b, c, d)) rfl rfl i
  · exact w_t3 (S := q_wL S 18 6 (n, a, b, c, x)) (T := q_wL S 18 6 (n, a, b, c, d)) rfl rfl i
  · exact w_t4 (S := q_wL S 18 6 (n, a, b, c, x)) (T := q_wL S 18 6 (n, a, b, c, d)) rfl rfl i
  · exact w_t5 (S := q_wL S 18 6 (n, a, b, c, x)) (T := q_wL S 18 6 (n, a, b, c, d)) rfl rfl rfl i
  · exact w_t6 (S := q_wL S 18 6 (n, a, b, c, x)) (T := q_wL S 18 6 (n, a, b, c, d)) rfl rfl rfl i
  · exact w_t7 (S := q_wL S 18 6 (n, a, b, c, x)) (T := q_wL S 18 6 (n, a, b, c, d)) rfl rfl i
  · exact w_t8 (S := q_wL S 18 6 (n, a, b, c, x)) (T := q_wL S 18 6 (n, a, b, c, d)) rfl i
  · exact w_t9 (S := q_wL S 18 6 (n, a, b, c, x)) (T := q_wL S 18 6 (n, a, b, c, d)) rfl i
  · exact w_t10 (S := q_wL S 18 6 (n, a, b, c, x)) (T := q_wL S 18 6 (n, a, b, c, d)) rfl i
  · exact w_t11 (S := q_wL S 18 6 (n, a, b, c, x)) (T := q_wL S 18 6 (n, a, b, c, d)) rfl i
  · exact w_t12 (S := q_wL S 18 6 (n, a, b, c, x)) (T := q_wL S 18 6 (n, a, b, c, d)) rfl rfl i
  · exact w_t13 (S := q_wL S 18 6 (n, a, b, c, x)) (T := q_wL S 18 6 (n, a, b, c, d)) rfl rfl i
  · exact w_t14 (S := q_wL S 18 6 (n, a, b, c, x)) (T := q_wL S 18 6 (n, a, b, c, d)) rfl rfl i
  · exact w_t15 (S := q_wL S 18 6 (n, a, b, c, x)) (T := q_wL S 18 6 (n, a, b, c, d)) ⟨rfl, rfl, rfl, rfl, rfl⟩ rfl rfl i
  · exact w_t16 (S := q_wL S 18 6 (n, a, b, c, x)) (T := q_wL S 18 6 (n, a, b, c, d)) rfl i
  · exact w_t17 (S := q_wL S 18 6 (n, a, b, c, x)) (T := q_wL S 18 6 (n, a, b, c, d)) rfl i
  · exact w_t18 (S := q_wL S 18 6 (n, a, b, c, x)) (T := q_wL S 18 6 (n, a, b, c, d)) rfl rfl i
  · exact w_t19 (S := q_wL S 18 6 (n, a, b, c, x)) (T := q_wL S 18 6 (n, a, b, c, d)) rfl rfl i
  · exact w_t20 (S := q_wL S 18 6 (n, a, b, c, x)) (T := q_wL S 18 6 (n, a, b, c, d)) rfl i
  · exact w_t21 (S := q_wL S 18 6 (n, a, b, c, x)) (T := q_wL S 18 6 (n, a, b, c, d)) rfl i
  · exact w_t22 (S := q_wL S 18 6 (n, a, b, c, x)) (T := q_wL S 18 6 (n, a, b, c, d)) rfl i
  · exact w_t23 (S := q_wL S 18 6 (n, a, b, c, x)) (T := q_wL S 18 6 (n, a, b, c, d)) rfl i
  · exact w_t24 (S := q_wL S 18 6 (n, a, b, c, x)) (T := q_wL S 18 6 (n, a, b, c, d)) rfl i
  · exact w_t25 (S := q_wL S 18 6 (n, a, b, c, x)) (T := q_wL S 18 6 (n, a, b, c, d)) rfl i
  · exact w_t26 (S := q_wL S 18 6 (n, a, b, c, x)) (T := q_wL S 18 6 (n, a, b, c, d)) rfl i
  · exact w_t27 (S := q_wL S 18 6 (n, a, b, c, x)) (T := q_wL S 18 6 (n, a, b, c, d)) rfl i
  · exact absurd ⟨rfl, hl.1⟩ h3
  · exact w_t29 (S := q_wL S 18 6 (n, a, b, c, x)) (T := q_wL S 18 6 (n, a, b, c, d)) rfl i
theorem w_cLn {E : g_E} {A : w_A} {S : q_S} {n m : Nat} {r : (Nat → Int32) × (Nat → Int32) × (Nat → Int32) × (Nat → Int32)} : ∀ k i, k < 30 → w_live (q_wL S 18 6 (n, r)) k i → ¬ (k = 24 ∧ i = 0) → w_cell E A (q_wL S 18 6 (m, r)) k i = w_cell E A (q_wL S 18 6 (n, r)) k i := by
  intro k i h1 hl h3
  rcases w_tagsC h1 with rfl | rfl | rfl | rfl | rfl | rfl | rfl | rfl | rfl | rfl | rfl | rfl | rfl | rfl | rfl | rfl | rfl | rfl | rfl | rfl | rfl | rfl | rfl | rfl | rfl | rfl | rfl | rfl | rfl | rfl
  · exact w_t0 (S := q_wL S 18 6 (m, r)) (T := q_wL S 18 6 (n, r)) (q_sl_c rfl rfl) rfl rfl rfl i
  · exact w_t1 (S := q_wL S 18 6 (m, r)) (T := q_wL S 18 6 (n, r)) rfl i
  · exact w_t2 (S := q_wL S 18 6 (m, r)) (T := q_wL S 18 6 (n, r)) rfl rfl i
  · exact w_t3 (S := q_wL S 18 6 (m, r)) (T := q_wL S 18 6 (n, r)) rfl rfl i
  · exact w_t4 (S := q_wL S 18 6 (m, r)) (T := q_wL S 18 6 (n, r)) rfl rfl i
  · exact w_t5 (S := q_wL S 18 6 (m, r)) (T := q_wL S 18 6 (n, r)) rfl rfl rfl i
  · exact w_t6 (S := q_wL S 18 6 (m, r)) (T := q_wL S 18 6 (n, r)) rfl rfl rfl i
  · exact w_t7 (S := q_wL S 18 6 (m, r)) (T := q_wL S 18 6 (n, r)) rfl rfl i
  · exact w_t8 (S := q_wL S 18 6 (m, r)) (T := q_wL S 18 6 (n, r)) rfl i
  · exact w_t9 (S := q_wL S 18 6 (m, r)) (T := q_wL S 18 6 (n, r)) rfl i
  · exact w_t10 (S := q_wL S 18 6 (m, r)) (T := q_wL S 18 6 (n, r)) rfl i
  · exact w_t11 (S := q_wL S 18 6 (m, r)) (T := q_wL S 18 6 (n, r)) rfl i
  · exact w_t12 (S := q_wL S 18 6 (m, r)) (T := q_wL S 18 6 (n, r)) rfl rfl i
  · exact w_t13 (S := q_wL S 18 6 (m, r)) (T := q_wL S 18 6 (n, r)) rfl rfl i
  · exact w_t14 (S := q_wL S 18 6 (m, r)) (T := q_wL S 18 6 (n, r)) rfl rfl i
  · exact w_t15 (S := q_wL S 18 6 (m, r)) (T := q_wL S 18 6 (n, r)) ⟨rfl, rfl, rfl, rfl, rfl⟩ rfl rfl i
  · exact w_t16 (S := q_wL S 18 6 (m, r)) (T := q_wL S 18 6 (n, r)) rfl i
  · exact w_t17 (S := q_wL S 18 6 (m, r)) (T := q_wL S 18 6 (n, r)) rfl i
  · exact w_t18 (S := q_wL S 18 6 (m, r)) (T := q_wL S 18 6 (n, r)) rfl rfl i
  · exact w_t19 (S := q_wL S 18 6 (m, r)) (T := q_wL S 18 6 (n, r)) rfl rfl i
  · exact w_t20 (S := q_wL S 18 6 (m, r)) (T := q_wL S 18 6 (n, r)) rfl i
  · exact w_t21 (S := q_wL S 18 6 (m, r)) (T := q_wL S 18 6 (n, r)) rfl i
  · exact w_t22 (S := q_wL S 18 6 (m, r)) (T := q_wL S 18 6 (n, r)) rfl i
  · exact w_t23 (S := q_wL S 18 6 (m, r)) (T := q_wL S 18 6 (n, r)) rfl i
  · exact absurd ⟨rfl, hl.1⟩ h3
  · exact w_t25 (S := q_wL S 18 6 (m, r)) (T := q_wL S 18 6 (n, r)) rfl i
  · exact w_t26 (S := q_wL S 18 6 (m, r)) (T := q_wL S 18 6 (n, r)) rfl i
  · exact w_t27 (S := q_wL S 18 6 (m, r)) (T := q_wL S 18 6 (n, r)) rfl i
  · exact w_t28 (S := q_wL S 18 6 (m, r)) (T := q_wL S 18 6 (n, r)) rfl i
  · exact w_t29 (S := q_wL S 18 6 (m, r)) (T := q_wL S 18 6 (n, r)) rfl i
set_option maxRecDepth 100000 in
set_option maxHeartbeats 4000000 in
theorem c_R_ext_0 {l : Launch} (hl : l.stackTraces = false) {E : g_E} {A : w_A} {S Sm : q_S} {h : g_H} {m : Nat} {a b c d : Nat → Int32} (hW : w_W E A (q_wL S 18 6 (m + 1, a, b, c, d)) Sm h) (hm : m + 1 ≤ 16) {x room : Int32} (hr : ¬ d m + x ≤ room) : g_Rd l mR_extendLine 0 0 [.ref (A 24 0), .int x, .int room] E h (some (.int 0)) := by
  refine g_Rd.of hl (by decide) (by first | rfl | simp [g_rfc, Value.category]) (Nat.le_of_ble_eq_true rfl) ?_
  intro X hX hXl hR
  show g_Go E X _ h true 0 0 0 [some (.ref (A 24 0)), some (.int x), some (.int room)] []
  refine g_aload_n hX dR_extendLine_0 rfl rfl (by first | rfl | exact g_rfr _) 1 rfl ?_
  refine g_get (v := .int (nI (m + 1))) hX dR_extendLine_1 fR_24 (w_c hW 24 0 (by decide) ⟨rfl, by decide⟩) rfl 4 rfl ?_
  refine g_iconst hX dR_extendLine_4 (v := 1) (by decide) 5 rfl ?_
  refine g_icmp_lt hX dR_extendLine_5 34 8 (by decide) rfl (fun c5 => ?_) (fun c5 => ?_)
  · exact absurd c5 (nI_nlt (b := 1) (by omega) (by omega))
  · refine g_aload_n hX dR_extendLine_8 rfl rfl (by first | rfl | exact g_rfr _) 9 rfl ?_
    refine g_get (v := .int (nI (m + 1))) hX dR_extendLine_9 fR_24 (w_c hW 24 0 (by decide) ⟨rfl, by decide⟩) rfl 12 rfl ?_
    refine g_bipush hX dR_extendLine_12 (v := 16) (by decide) 14 rfl ?_
    refine g_icmp_gt hX dR_extendLine_14 34 17 (by decide) rfl (fun c14 => ?_) (fun c14 => ?_)
    · exact absurd c14 (nI_nlt (a := 16) (b := m + 1) (by omega) (by omega))
    · refine g_aload_n hX dR_extendLine_17 rfl rfl (by first | rfl | exact g_rfr _) 18 rfl ?_
      refine g_get hX dR_extendLine_18 fR_21 (w_c hW 24 0 (by decide) ⟨rfl, by decide⟩) rfl 21 rfl ?_
      refine g_aload_n hX dR_extendLine_21 rfl rfl (by first | rfl | exact g_rfr _) 22 rfl ?_
      refine g_get (v := .int (nI (m + 1))) hX dR_extendLine_22 fR_24 (w_c hW 24 0 (by decide) ⟨rfl, by decide⟩) rfl 25 rfl ?_
      refine g_iconst hX dR_extendLine_25 (v := 1) (by decide) 26 rfl ?_
      refine g_isub hX dR_extendLine_26 27 rfl ?_
      refine g_iald hX dR_extendLine_27 (w_c hW 28 0 (by decide) ⟨rfl, by decide⟩) (g_ix.eq (nI_pred m) (show m < 16 by omega) (by decide)) 28 rfl ?_
      show g_Go E X _ h _ 0 0 28 _ (.int (d m) :: _)
      refine g_iload_n hX dR_extendLine_28 rfl rfl 29 rfl ?_
      refine g_iadd hX dR_extendLine_29 30 rfl ?_
      refine g_iload_n hX dR_extendLine_30 rfl rfl 31 rfl ?_
      refine g_icmp_le hX dR_extendLine_31 36 34 (by decide) rfl (fun c31 => ?_) (fun c31 => ?_)
      · exact absurd c31 hr
      · refine g_iconst hX dR_extendLine_34 (v := 0) (by decide) 35 rfl ?_
        exact g_iret hX rfl rfl dR_extendLine_35 ⟨rfl, rfl⟩ rfl (Nat.zero_le _) (Nat.zero_le _)
set_option maxRecDepth 100000 in
set_option maxHeartbeats 4000000 in
theorem c_R_ext_1 {l : Launch} (hl : l.stackTraces = false) {E : g_E} {A : w_A} {S Sm : q_S} {h : g_H} {m : Nat} {a b c d : Nat → Int32} (hW : w_W E A (q_wL S 18 6 (m + 1, a, b, c, d)) Sm h) (hm : m + 1 ≤ 16) {x room : Int32} (hr : d m + x ≤ room) : g_Ct l mR_extendLine 0 0 0 0 [.ref (A 24 0), .int x, .int room] E h (false, fun r h' => r = .inr (some (.int 1)) ∧ w_W E A (q_wL S 18 6 (m + 1, a, b, upd c m (c m + 1), upd d m (d m + x))) Sm h') := by
  refine g_Ct.of hl (by decide) (by first | rfl | simp [g_rfc, Value.category]) (Nat.le_of_ble_eq_true rfl) ?_
  intro X hX hXl hR
  show g_Go E X _ h true 0 0 0 [some (.ref (A 24 0)), some (.int x), some (.int room)] []
  refine g_aload_n hX dR_extendLine_0 rfl rfl (by first | rfl | exact g_rfr _) 1 rfl ?_
  refine g_get (v := .int (nI (m + 1))) hX dR_extendLine_1 fR_24 (w_c hW 24 0 (by decide) ⟨rfl, by decide⟩) rfl 4 rfl ?_
  refine g_iconst hX dR_extendLine_4 (v := 1) (by decide) 5 rfl ?_
  refine g_icmp_lt hX dR_extendLine_5 34 8 (by decide) rfl (fun c5 => ?_) (fun c5 => ?_)
  · exact absurd c5 (nI_nlt (b := 1) (by omega) (by omega))
  · refine g_aload_n hX dR_extendLine_8 rfl rfl (by first | rfl | exact g_rfr _) 9 rfl ?_
    refine g_get (v := .int (nI (m + 1))) hX dR_extendLine_9 fR_24 (w_c hW 24 0 (by decide) ⟨rfl, by decide⟩) rfl 12 rfl ?_
    refine g_bipush hX dR_extendLine_12 (v := 16) (by decide) 14 rfl ?_
    refine g_icmp_gt hX dR_extendLine_14 34 17 (by decide) rfl (fun c14 => ?_) (fun c14 => ?_)
    · exact absurd c14 (nI_nlt (a := 16) (b := m + 1) (by omega) (by omega))
    · refine g_aload_n hX dR_extendLine_17 rfl rfl (by first | rfl | exact g_rfr _) 18 rfl ?_
      refine g_get hX dR_extendLine_18 fR_21 (w_c hW 24 0 (by decide) ⟨rfl, by decide⟩) rfl 21 rfl ?_
      refine g_aload_n hX dR_extendLine_21 rfl rfl (by first | rfl | exact g_rfr _) 22 rfl ?_
      refine g_get (v := .int (nI (m + 1))) hX dR_extendLine_22 fR_24 (w_c hW 24 0 (by decide) ⟨rfl, by decide⟩) rfl 25 rfl ?_
      refine g_iconst hX dR_extendLine_25 (v := 1) (by decide) 26 rfl ?_
      refine g_isub hX dR_extendLine_26 27 rfl ?_
      refine g_iald hX dR_extendLine_27 (w_c hW 28 0 (by decide) ⟨rfl, by decide⟩) (g_ix.eq (nI_pred m) (show m < 16 by omega) (by decide)) 28 rfl ?_
      show g_Go E X _ h _ 0 0 28 _ (.int (d m) :: _)
      refine g_iload_n hX dR_extendLine_28 rfl rfl 29 rfl ?_
      refine g_iadd hX dR_extendLine_29 30 rfl ?_
      refine g_iload_n hX dR_extendLine_30 rfl rfl 31 rfl ?_
      refine g_icmp_le hX dR_extendLine_31 36 34 (by decide) rfl (fun c31 => ?_) (fun c31 => ?_)
      · refine g_aload_n hX dR_extendLine_36 rfl rfl (by first | rfl | exact g_rfr _) 37 rfl ?_
        refine g_get hX dR_extendLine_37 fR_18 (w_c hW 24 0 (by decide) ⟨rfl, by decide⟩) rfl 40 rfl ?_
        refine g_aload_n hX dR_extendLine_40 rfl rfl (by first | rfl | exact g_rfr _) 41 rfl ?_
        refine g_get (v := .int (nI (m + 1))) hX dR_extendLine_41 fR_24 (w_c hW 24 0 (by decide) ⟨rfl, by decide⟩) rfl 44 rfl ?_
        refine g_iconst hX dR_extendLine_44 (v := 1) (by decide) 45 rfl ?_
        refine g_isub hX dR_extendLine_45 46 rfl ?_
        refine g_dup2 hX dR_extendLine_46 rfl rfl 47 rfl ?_
        refine g_iald hX dR_extendLine_47 (w_c hW 27 0 (by decide) ⟨rfl, by decide⟩) (g_ix.eq (nI_pred m) (show m < 16 by omega) (by decide)) 48 rfl ?_
        show g_Go E X _ h _ 0 0 48 _ (.int (c m) :: _)
        refine g_iconst hX dR_extendLine_48 (v := 1) (by decide) 49 rfl ?_
        refine g_iadd hX dR_extendLine_49 50 rfl ?_
        refine g_iast hX dR_extendLine_50 (w_c hW 27 0 (by decide) ⟨rfl, by decide⟩) (w_cb hW 27 0 (by decide) ⟨rfl, by decide⟩) (g_ix.eq (nI_pred m) (show m < 16 by omega) (by decide)) 51 rfl ?_
        refine g_stepC hW 27 0 (q_wL S 18 6 (m + 1, a, b, upd c m (c m + 1), d)) (by decide) ⟨rfl, by decide⟩ ⟨rfl, rfl, rfl, rfl, rfl, rfl, rfl⟩ w_cLc rfl (fun h hW => ?_)
        refine g_aload_n hX dR_extendLine_51 rfl rfl (by first | rfl | exact g_rfr _) 52 rfl ?_
        refine g_get hX dR_extendLine_52 fR_21 (w_c hW 24 0 (by decide) ⟨rfl, by decide⟩) rfl 55 rfl ?_
        refine g_aload_n hX dR_extendLine_55 rfl rfl (by first | rfl | exact g_rfr _) 56 rfl ?_
        refine g_get (v := .int (nI (m + 1))) hX dR_extendLine_56 fR_24 (w_c hW 24 0 (by decide) ⟨rfl, by decide⟩) rfl 59 rfl ?_
        refine g_iconst hX dR_extendLine_59 (v := 1) (by decide) 60 rfl ?_
        refine g_isub hX dR_extendLine_60 61 rfl ?_
        refine g_dup2 hX dR_extendLine_61 rfl rfl 62 rfl ?_
        refine g_iald hX dR_extendLine_62 (w_c hW 28 0 (by decide) ⟨rfl, by decide⟩) (g_ix.eq (nI_pred m) (show m < 16 by omega) (by decide)) 63 rfl ?_
        show g_Go E X _ h _ 0 0 63 _ (.int (d m) :: _)
        refine g_iload_n hX dR_extendLine_63 rfl rfl 64 rfl ?_
        refine g_iadd hX dR_extendLine_64 65 rfl ?_
        refine g_iast hX dR_extendLine_65 (w_c hW 28 0 (by decide) ⟨rfl, by decide⟩) (w_cb hW 28 0 (by decide) ⟨rfl, by decide⟩) (g_ix.eq (nI_pred m) (show m < 16 by omega) (by decide)) 66 rfl ?_
        refine g_stepC hW 28 0 (q_wL S 18 6 (m + 1, a, b, upd c m (c m + 1), upd d m (d m + x))) (by decide) ⟨rfl, by decide⟩ ⟨rfl, rfl, rfl, rfl, rfl, rfl, rfl⟩ w_cLd rfl (fun h hW => ?_)
        refine g_iconst hX dR_extendLine_66 (v := 1) (by decide) 67 rfl ?_
        exact g_iret hX rfl rfl dR_extendLine_67 ⟨rfl, hW⟩ rfl (Nat.zero_le _) (Nat.zero_le _)
      · exact absurd hr c31
set_option maxRecDepth 100000 in
set_option maxHeartbeats 4000000 in
theorem c_R_begin {l : Launch} (hl : l.stackTraces = false) {E : g_E} {A : w_A} {S Sm : q_S} {h : g_H} {n : Nat} {a b c d : Nat → Int32} (hW : w_W E A (q_wL S 18 6 (n, a, b, c, d)) Sm h) (hn : n < 16) {k w x : Int32} : g_Ct l mR_beginLine 0 0 0 0 [.ref (A 24 0), .int k, .int w, .int x] E h (false, fun r h' => r = .inr none ∧ w_W E A (q_wL S 18 6 (n + 1, upd a n k, upd b n w, upd c n 1, upd d n x)) Sm h') := by
  refine g_Ct.of hl (by decide) (by first | rfl | simp [g_rfc, Value.category]) (Nat.le_of_ble_eq_true rfl) ?_
  intro X hX hXl hR
  show g_Go E X _ h true 0 0 0 [some (.ref (A 24 0)), some (.int k), some (.int w), some (.int x)] []
  refine g_aload_n hX dR_beginLine_0 rfl rfl (by first | rfl | exact g_rfr _) 1 rfl ?_
  refine g_get (v := .int (nI n)) hX dR_beginLine_1 fR_24 (w_c hW 24 0 (by decide) ⟨rfl, by decide⟩) rfl 4 rfl ?_
  refine g_bipush hX dR_beginLine_4 (v := 16) (by decide) 6 rfl ?_
  refine g_icmp_lt hX dR_beginLine_6 10 9 (by decide) rfl (fun c6 => ?_) (fun c6 => ?_)
  · refine g_aload_n hX dR_beginLine_10 rfl rfl (by first | rfl | exact g_rfr _) 11 rfl ?_
    refine g_get hX dR_beginLine_11 fR_9 (w_c hW 24 0 (by decide) ⟨rfl, by decide⟩) rfl 14 rfl ?_
    refine g_aload_n hX dR_beginLine_14 rfl rfl (by first | rfl | exact g_rfr _) 15 rfl ?_
    refine g_get (v := .int (nI n)) hX dR_beginLine_15 fR_24 (w_c hW 24 0 (by decide) ⟨rfl, by decide⟩) rfl 18 rfl ?_
    refine g_iload_n hX dR_beginLine_18 rfl rfl 19 rfl ?_
    refine g_iast hX dR_beginLine_19 (w_c hW 25 0 (by decide) ⟨rfl, by decide⟩) (w_cb hW 25 0 (by decide) ⟨rfl, by decide⟩) (g_ix.nat hn (by decide)) 20 rfl ?_
    refine g_stepC hW 25 0 (q_wL S 18 6 (n, upd a n k, b, c, d)) (by decide) ⟨rfl, by decide⟩ ⟨rfl, rfl, rfl, rfl, rfl, rfl, rfl⟩ w_cLa rfl (fun h hW => ?_)
    refine g_aload_n hX dR_beginLine_20 rfl rfl (by first | rfl | exact g_rfr _) 21 rfl ?_
    refine g_get hX dR_beginLine_21 fR_15 (w_c hW 24 0 (by decide) ⟨rfl, by decide⟩) rfl 24 rfl ?_
    refine g_aload_n hX dR_beginLine_24 rfl rfl (by first | rfl | exact g_rfr _) 25 rfl ?_
    refine g_get (v := .int (nI n)) hX dR_beginLine_25 fR_24 (w_c hW 24 0 (by decide) ⟨rfl, by decide⟩) rfl 28 rfl ?_
    refine g_iload_n hX dR_beginLine_28 rfl rfl 29 rfl ?_
    refine g_iast hX dR_beginLine_29 (w_c hW 26 0 (by decide) ⟨rfl, by decide⟩) (w_cb hW 26 0 (by decide) ⟨rfl, by decide⟩) (g_ix.nat hn (by decide)) 30 rfl ?_
    refine g_stepC hW 26 0 (q_wL S 18 6 (n, upd a n k, upd b n w, c, d)) (by decide) ⟨rfl, by decide⟩ ⟨rfl, rfl, rfl, rfl, rfl, rfl, rfl⟩ w_cLb rfl (fun h hW => ?_)
    refine g_aload_n hX dR_beginLine_30 rfl rfl (by first | rfl | exact g_rfr _) 31 rfl ?_
    refine g_get hX dR_beginLine_31 fR_18 (w_c hW 24 0 (by decide) ⟨rfl, by decide⟩) rfl 34 rfl ?_
    refine g_aload_n hX dR_beginLine_34 rfl rfl (by first | rfl | exact g_rfr _) 35 rfl ?_
    refine g_get (v := .int (nI n)) hX dR_beginLine_35 fR_24 (w_c hW 24 0 (by decide) ⟨rfl, by decide⟩) rfl 38 rfl ?_
    refine g_iconst hX dR_beginLine_38 (v := 1) (by decide) 39 rfl ?_
    refine g_iast hX dR_beginLine_39 (w_c hW 27 0 (by decide) ⟨rfl, by decide⟩) (w_cb hW 27 0 (by decide) ⟨rfl, by decide⟩) (g_ix.nat hn (by decide)) 40 rfl ?_
    refine g_stepC hW 27 0 (q_wL S 18 6 (n, upd a n k, upd b n w, upd c n 1, d)) (by decide) ⟨rfl, by decide⟩ ⟨rfl, rfl, rfl, rfl, rfl, rfl, rfl⟩ w_cLc rfl (fun h hW => ?_)
    refine g_aload_n hX dR_beginLine_40 rfl rfl (by first | rfl | exact g_rfr _) 41 rfl ?_
    refine g_get hX dR_beginLine_41 fR_21 (w_c hW 24 0 (by decide) ⟨rfl, by decide⟩) rfl 44 rfl ?_
    refine g_aload_n hX dR_beginLine_44 rfl rfl (by first | rfl | exact g_rfr _) 45 rfl ?_
    refine g_get (v := .int (nI n)) hX dR_beginLine_45 fR_24 (w_c hW 24 0 (by decide) ⟨rfl, by decide⟩) rfl 48 rfl ?_
    refine g_iload_n hX dR_beginLine_48 rfl rfl 49 rfl ?_
    refine g_iast hX dR_beginLine_49 (w_c hW 28 0 (by decide) ⟨rfl, by decide⟩) (w_cb hW 28 0 (by decide) ⟨rfl, by decide⟩) (g_ix.nat hn (by decide)) 50 rfl ?_
    refine g_stepC hW 28 0 (q_wL S 18 6 (n, upd a n k, upd b n w, upd c n 1, upd d n x)) (by decide) ⟨rfl, by decide⟩ ⟨rfl, rfl, rfl, rfl, rfl, rfl, rfl⟩ w_cLd rfl (fun h hW => ?_)
    refine g_aload_n hX dR_beginLine_50 rfl rfl (by first | rfl | exact g_rfr _) 51 rfl ?_
    refine g_dup hX dR_beginLine_51 rfl 52 rfl ?_
    refine g_get (v := .int (nI n)) hX dR_beginLine_52 fR_24 (w_c hW 24 0 (by decide) ⟨rfl, by decide⟩) rfl 55 rfl ?_
    refine g_iconst hX dR_beginLine_55 (v := 1) (by decide) 56 rfl ?_
    refine g_iadd hX dR_beginLine_56 57 rfl ?_
    refine g_put0 hX dR_beginLine_57 fR_24 (w_c hW 24 0 (by decide) ⟨rfl, by decide⟩) (w_cb hW 24 0 (by decide) ⟨rfl, by decide⟩) rfl rfl (Nat.le_of_ble_eq_true rfl) 60 rfl ?_
    refine g_stepC hW 24 0 (q_wL S 18 6 (n + 1, upd a n k, upd b n w, upd c n 1, upd d n x)) (by decide) ⟨rfl, by decide⟩ ⟨rfl, rfl, rfl, rfl, rfl, rfl, rfl⟩ w_cLn (by rw [nI_1]; rfl) (fun h hW => ?_)
    exact g_vret hX rfl dR_beginLine_60 ⟨rfl, hW⟩ rfl (Nat.zero_le _) (Nat.zero_le _)
  · exact absurd (nI_lt (b := 16) hn (by decide)) c6
set_option maxRecDepth 100000 in
set_option maxHeartbeats 4000000 in
theorem lp_addp {E : g_E} {A : w_A} {S Sm : q_S} {X : g_X} (hX : g_ok E X mR_addParagraph) (hR : X.R = { frames := 1, cells := 0, slots := 0, locals := 15 }) {s room x : Int32} {s0 k : Nat} {L0 : q_L} (hs : s = nI s0) (h1 : 1 ≤ s0) (h4 : s0 ≤ 4) (hx : ∀ i, i < 4 → ¬ 15 < r_by x i) (hL0 : L0.1 ≤ 12) :
    ∀ (r w : Nat) (h : g_H) (z : Bool), w + r = 4 → w_W E A (q_wL S 18 6 (q_pc s room k x w L0)) Sm h → g_Go E X (false, fun r' h' => r' = .inr none ∧ w_W E A (q_wL S 18 6 (q_pc s room k x 4 L0)) Sm h') h z 0 0 6 [some (.ref (A 24 0)), some (.int (nI k)), some (.int x), some (.int room), some (.int s), some (.int (nI (q_cw x w))), some (.int (nI w)), none] [] := by
  intro r
  induction r with
  | zero =>
    intro w h z hw hW
    have hw2 : w = 4 := by omega
    subst hw2
    refine g_iload hX dR_addParagraph_6 rfl 8 rfl ?_
    refine g_iconst hX dR_addParagraph_8 (v := 4) (by decide) 9 rfl ?_
    refine g_icmp_ge hX dR_addParagraph_9 67 12 (by decide) rfl (fun c9 => ?_) (fun c9 => ?_)
    · exact g_vret hX rfl dR_addParagraph_67 ⟨rfl, hW⟩ rfl (Nat.zero_le _) (Nat.zero_le _)
    · exact absurd (show (4 : Int32) ≤ nI 4 by decide) c9
  | succ r ih =>
    intro w h z hw hW
    have hcw := q_cw_le x w
    have hle := q_pc_le s room k x L0 w
    have hpos := q_pc_pos s room k x L0 w
    have ih2 := ih (w + 1)
    obtain ⟨j9, hj9, hb9⟩ := r_by_nat (hx (3 - w) (by omega))
    have hz9 : s * r_by x (3 - w) = 0 ↔ r_by x (3 - w) ≤ 0 := by rw [hs, hb9]; exact q_mul0 h1 h4 hj9
    rw [q_pc, q_cw] at ih2
    generalize q_pc s room k x w L0 = L' at hW hle hpos ih2
    generalize hy9 : r_by x (3 - w) = y at ih2 hz9
    obtain ⟨n, a, b, c, d⟩ := L'
    have hle2 : n ≤ L0.1 + w := hle
    refine g_iload hX dR_addParagraph_6 rfl 8 rfl ?_
    refine g_iconst hX dR_addParagraph_8 (v := 4) (by decide) 9 rfl ?_
    refine g_icmp_ge hX dR_addParagraph_9 67 12 (by decide) rfl (fun c9 => ?_) (fun c9 => ?_)
    · exact absurd c9 (nI_ge (a := w) (b := 4) (by omega) (by decide))
    · refine g_iload hX dR_addParagraph_12 rfl 14 rfl ?_
      refine g_iload_n hX dR_addParagraph_14 rfl rfl 15 rfl ?_
      refine g_iload hX dR_addParagraph_15 rfl 17 rfl ?_
      refine g_cSN2r (wt := 1) hX ((show g_Rd X.l mS_letters 0 0 [.int x, .int (nI w)] E h (some (.int y)) by have h8 := c_S_letters hX.tr E h x (n := w) (by omega); rw [hy9] at h8; exact h8)) dR_addParagraph_17 kR_49 (g_rm.of hR (by decide) (by decide)) (by first | exact Nat.zero_le _ | (rw [hR]; decide)) (by first | exact Nat.zero_le _ | (rw [hR]; decide)) (by first | decide | (simp [Value.category])) 20 rfl ?_
      refine g_imul hX dR_addParagraph_20 21 rfl ?_
      refine g_istore hX (L' := [_, _, _, _, _, _, _, _]) dR_addParagraph_21 (by decide) rfl 23 rfl ?_
      refine g_iload hX dR_addParagraph_23 rfl 25 rfl ?_
      refine g_if_ne hX dR_addParagraph_25 31 28 (by decide) rfl (fun c25 => ?_) (fun c25 => ?_)
      · refine g_iload hX dR_addParagraph_31 rfl 33 rfl ?_
        refine g_if_eq hX dR_addParagraph_33 49 36 (by decide) rfl (fun c33 => ?_) (fun c33 => ?_)
        · refine g_aload_n hX dR_addParagraph_49 rfl rfl (by first | rfl | exact g_rfr _) 50 rfl ?_
          refine g_iload_n hX dR_addParagraph_50 rfl rfl 51 rfl ?_
          refine g_iload hX dR_addParagraph_51 rfl 53 rfl ?_
          refine g_iload hX dR_addParagraph_53 rfl 55 rfl ?_
          refine g_cV3 (wt := 0) hX (c_R_begin (n := n) hX.tr hW (by omega)) dR_addParagraph_55 (w_c hW 24 0 (by decide) ⟨rfl, by decide⟩) kR_57 (g_rm.of hR (by decide) (by decide)) (by first | exact Nat.zero_le _ | (rw [hR]; decide)) (by first | exact Nat.zero_le _ | (rw [hR]; decide)) (by first | decide | (simp [Value.category])) (fun q => by cases q) 58 rfl (fun v h hP => ?_) (fun k h hP => by cases hP.1)
          obtain ⟨hv, hW⟩ := hP
          cases hv
          show g_Go E X _ h false 0 0 58 _ []
          refine g_iinc hX (L' := [_, _, _, _, _, _, _, _]) dR_addParagraph_58 rfl (q_inc _) rfl 61 rfl ?_
          refine g_iinc hX (L' := [_, _, _, _, _, _, _, _]) dR_addParagraph_61 rfl (q_inc _) rfl 64 rfl ?_
          refine g_goto hX dR_addParagraph_64 6 (by decide) ?_
          have hy0 : ¬ y ≤ 0 := fun q => c25 (hz9.mpr q)
          rw [if_neg hy0, if_neg hy0] at ih2
          unfold q_wd at ih2
          rw [if_neg (fun q => absurd (q_inj (b := 0) (c33.trans nI_0.symm) (by omega) (by decide)) (Nat.pos_iff_ne_zero.mp q.1))] at ih2
          refine g_drop (L' := [_, _, _, _, _, _, _, none]) 7 rfl ?_
          exact ih2 h _ (by omega) hW
        · have hw0 : 0 < q_cw x w := Nat.pos_of_ne_zero (fun q => c33 (by rw [q]; rfl))
          obtain ⟨m, rfl⟩ : ∃ m, n = m + 1 := ⟨n - 1, by have := hpos hw0; omega⟩
          refine g_aload_n hX dR_addParagraph_36 rfl rfl rfl 37 rfl ?_
          refine g_iload hX dR_addParagraph_37 rfl 39 rfl ?_
          refine g_iload hX dR_addParagraph_39 rfl 41 rfl ?_
          refine g_iadd hX dR_addParagraph_41 42 rfl ?_
          refine g_iload_n hX dR_addParagraph_42 rfl rfl 43 rfl ?_
          by_cases hfit : d m + s + s * y ≤ room
          · refine g_cV2 (wt := 0) hX (c_R_ext_1 hX.tr hW (by omega) (by rw [← Int32.add_assoc]; exact hfit)) dR_addParagraph_43 (w_c hW 24 0 (by decide) ⟨rfl, by decide⟩) kR_53 (g_rm.of hR (by decide) (by decide)) (by first | exact Nat.zero_le _ | (rw [hR]; decide)) (by first | exact Nat.zero_le _ | (rw [hR]; decide)) (by first | decide | (simp [Value.category])) (fun q => by cases q) 46 rfl (fun v h hP => ?_) (fun k h hP => by cases hP.1)
            obtain ⟨hv, hW⟩ := hP
            cases hv
            show g_Go E X _ h false 0 0 46 _ [.int 1]
            rw [← Int32.add_assoc] at hW
            refine g_if_ne hX dR_addParagraph_46 58 49 (by decide) rfl (fun c46 => ?_) (fun c46 => ?_)
            · refine g_iinc hX (L' := [_, _, _, _, _, _, _, _]) dR_addParagraph_58 rfl (q_inc _) rfl 61 rfl ?_
              refine g_iinc hX (L' := [_, _, _, _, _, _, _, _]) dR_addParagraph_61 rfl (q_inc _) rfl 64 rfl ?_
              refine g_goto hX dR_addParagraph_64 6 (by decide) ?_
              have hy0 : ¬ y ≤ 0 := fun q => c25 (hz9.mpr q)
              rw [if_neg hy0, if_neg hy0] at ih2
              unfold q_wd at ih2
              rw [if_pos ⟨hw0, hfit⟩] at ih2
              refine g_drop (L' := [_, _, _, _, _, _, _, none]) 7 rfl ?_
              exact ih2 h _ (by omega) hW
            · exact absurd c46 (show ¬ (1 : Int32) = 0 by decide)
          · refine g_cV2r (wt := 0) hX (c_R_ext_0 hX.tr hW (by omega) (by rw [← Int32.add_assoc]; exact hfit)) dR_addParagraph_43 (w_c hW 24 0 (by decide) ⟨rfl, by decide⟩) kR_53 (g_rm.of hR (by decide) (by decide)) (by first | exact Nat.zero_le _ | (rw [hR]; decide)) (by first | exact Nat.zero_le _ | (rw [hR]; decide)) (by first | decide | (simp [Value.category])) 46 rfl ?_
            refine g_if_ne hX dR_addParagraph_46 58 49 (by decide) rfl (fun c46 => ?_) (fun c46 => ?_)
            · exact absurd rfl c46
            · refine g_aload_n hX dR_addParagraph_49 rfl rfl (by first | rfl | exact g_rfr _) 50 rfl ?_
              refine g_iload_n hX dR_addParagraph_50 rfl rfl 51 rfl ?_
              refine g_iload hX dR_addParagraph_51 rfl 53 rfl ?_
              refine g_iload hX dR_addParagraph_53 rfl 55 rfl ?_
              refine g_cV3 (wt := 0) hX (c_R_begin (n := (m + 1)) hX.tr hW (by omega)) dR_addParagraph_55 (w_c hW 24 0 (by decide) ⟨rfl, by decide⟩) kR_57 (g_rm.of hR (by decide) (by decide)) (by first | exact Nat.zero_le _ | (rw [hR]; decide)) (by first | exact Nat.zero_le _ | (rw [hR]; decide)) (by first | decide | (simp [Value.category])) (fun q => by cases q) 58 rfl (fun v h hP => ?_) (fun k h hP => by cases hP.1)
              obtain ⟨hv, hW⟩ := hP
              cases hv
              show g_Go E X _ h false 0 0 58 _ []
              refine g_iinc hX (L' := [_, _, _, _, _, _, _, _]) dR_addParagraph_58 rfl (q_inc _) rfl 61 rfl ?_
              refine g_iinc hX (L' := [_, _, _, _, _, _, _, _]) dR_addParagraph_61 rfl (q_inc _) rfl 64 rfl ?_
              refine g_goto hX dR_addParagraph_64 6 (by decide) ?_
              have hy0 : ¬ y ≤ 0 := fun q => c25 (hz9.mpr q)
              rw [if_neg hy0, if_neg hy0] at ih2
              unfold q_wd at ih2
              rw [if_neg (fun q => hfit q.2)] at ih2
              refine g_drop (L' := [_, _, _, _, _, _, _, none]) 7 rfl ?_
              exact ih2 h _ (by omega) hW
      · refine g_goto hX dR_addParagraph_28 61 (by decide) ?_
        refine g_iinc hX (L' := [_, _, _, _, _, _, _, _]) dR_addParagraph_61 rfl (q_inc _) rfl 64 rfl ?_
        refine g_goto hX dR_addParagraph_64 6 (by decide) ?_
        rw [if_pos (hz9.mp c25), if_pos (hz9.mp c25)] at ih2
        refine g_drop (L' := [_, _, _, _, _, _, _, none]) 7 rfl ?_
        exact ih2 h _ (by omega) hW
set_option maxRecDepth 100000 in
set_option maxHeartbeats 4000000 in
theorem c_R_addp {l : Launch} (hl : l.stackTraces = false) {E : g_E} {A : w_A} {S Sm : q_S} {h : g_H} {L0 : q_L} (hW : w_W E A (q_wL S 18 6 L0) Sm h) {s room x : Int32} {s0 k : Nat} (hs : s = nI s0) (h1 : 1 ≤ s0) (h4 : s0 ≤ 4) (hx : ∀ i, i < 4 → ¬ 15 < r_by x i) (hL0 : L0.1 ≤ 12) : g_Ct l mR_addParagraph 1 15 0 0 [.ref (A 24 0), .int (nI k), .int x, .int room, .int s] E h (false, fun r' h' => r' = .inr none ∧ w_W E A (q_wL S 18 6 (q_pc s room k x 4 L0)) Sm h') := by
  refine g_Ct.of hl (by decide) (by first | rfl | simp [g_rfc, Value.category]) (Nat.le_of_ble_eq_true rfl) ?_
  intro X hX hXl hR
  show g_Go E X _ h true 0 0 0 [some (.ref (A 24 0)), some (.int (nI k)), some (.int x), some (.int room), some (.int s), none, none, none] []
  refine g_iconst hX dR_addParagraph_0 (v := 0) (by decide) 1 rfl ?_
  refine g_istore hX (L' := [_, _, _, _, _, _, _, _]) dR_addParagraph_1 (by decide) rfl 3 rfl ?_
  refine g_iconst hX dR_addParagraph_3 (v := 0) (by decide) 4 rfl ?_
  refine g_istore hX (L' := [_, _, _, _, _, _, _, _]) dR_addParagraph_4 (by decide) rfl 6 rfl ?_
  exact lp_addp (S := S) hX hR hs h1 h4 hx hL0 4 0 h true rfl hW
theorem w_pars_get {S : q_S} {j k : Nat} (hk : k < S.1 3 j) : (w_pars S j)[k]? = some (4 * j + k) := by
  unfold w_pars
  rw [List.getElem?_map, List.getElem?_range hk]
  rfl
theorem w_pars_len (S : q_S) (j : Nat) : (w_pars S j).length = S.1 3 j := by
  unfold w_pars
  rw [List.length_map, List.length_range]
theorem c_gpar {l : Launch} (hl : l.stackTraces = false) {E : g_E} {A : w_A} {S Sm : q_S} {h : g_H} (hW : w_W E A S Sm h) (hB : w_B S) {j k : Nat} (hj : j < q_ns S) (hk : k < S.1 3 j) : g_Rd l mA_get 2 27 [.ref (A 10 j), .int (nI k)] E h (some (.ref (A 14 (4 * j + k)))) := by
  have h9 := c_A_get hl (w_l10 hW hB hj) (k := k) (by rw [w_pars_len]; exact hk)
  have e : ((w_pars S j)[k]?).map (A 14) = some (A 14 (4 * j + k)) := by rw [w_pars_get hk]; rfl
  simp only [e] at h9
  exact h9
theorem c_spar {l : Launch} (hl : l.stackTraces = false) {E : g_E} {A : w_A} {S Sm : q_S} {h : g_H} (hW : w_W E A S Sm h) (hB : w_B S) {j : Nat} (hj : j < q_ns S) : g_Rd l mA_size 0 0 [.ref (A 10 j)] E h (some (.int (nI (S.1 3 j)))) := by
  have h9 := c_size hl (w_l10 hW hB hj)
  rw [w_pars_len] at h9
  exact h9
theorem w_c14 {E : g_E} {A : w_A} {S Sm : q_S} {h : g_H} (hW : w_W E A S Sm h) {j k : Nat} (hj : j < q_ns S) (hk : k < S.1 3 j) (h4 : k < 4) : h (A 14 (4 * j + k)) = some (.inr (3, [.int (S.2 5 (4 * j + k)), .int (S.2 12 (4 * j + k))])) := w_c hW 14 (4 * j + k) (by decide) (by
    show (4 * j + k) / 4 < q_ns S ∧ (4 * j + k) % 4 < S.1 3 ((4 * j + k) / 4)
    rw [show (4 * j + k) / 4 = j by omega, show (4 * j + k) % 4 = k by omega]
    exact ⟨hj, hk⟩)
set_option maxRecDepth 100000 in
set_option maxHeartbeats 4000000 in
theorem lp_fill {E : g_E} {A : w_A} {S Sm : q_S} {X : g_X} (hX : g_ok E X mR_fill) (hR : X.R = { frames := 3, cells := 0, slots := 0, locals := 42 }) (hB : w_B S) (hT : w_T S) {j : Nat} (hj : j < q_ns S) {s : Int32} {s0 : Nat} (hs : s = nI s0) (h1 : 1 ≤ s0) (h4 : s0 ≤ 4) {L : q_L} (hT4 : ∀ t, S.1 4 t ≤ 4) :
    ∀ (r k : Nat) (h : g_H), k + r = S.1 3 j → w_W E A (q_wL S 18 6 (q_tx S j s k L)) Sm h → g_Go E X (false, fun r' h' => r' = .inr none ∧ w_W E A (q_wL S 18 6 (q_tx S j s (S.1 3 j) L)) Sm h') h false 0 0 8 [some (.ref (A 24 0)), some (.ref (A 10 j)), some (.int (q_value S j 2)), some (.int s), some (.int (nI k)), none] [] := by
  obtain ⟨hnp, hns, hne, hpar, hhome, hact⟩ := id hB
  have h34 : S.1 3 j ≤ 4 := (hhome j hj).2
  intro r
  induction r with
  | zero =>
    intro k h hk hW
    have hk2 : k = S.1 3 j := by omega
    subst hk2
    refine g_iload hX dR_fill_8 rfl 10 rfl ?_
    refine g_aload_n hX dR_fill_10 rfl rfl (by first | rfl | exact g_rfr _) 11 rfl ?_
    refine g_cF0r (wt := 1) hX ((show g_Rd X.l mA_size 0 0 [.ref (A 10 j)] E h (some (.int (nI (S.1 3 j)))) from c_spar (S := q_wL S 18 6 (q_tx S j s (S.1 3 j) L)) hX.tr hW hB hj)) dR_fill_11 (w_l10 (S := q_wL S 18 6 (q_tx S j s (S.1 3 j) L)) hW hB hj).1 kR_28 (g_rm.of hR (by decide) (by decide)) (by first | exact Nat.zero_le _ | (rw [hR]; decide)) (by first | exact Nat.zero_le _ | (rw [hR]; decide)) (by first | decide | (simp [Value.category])) 16 rfl ?_
    refine g_icmp_ge hX dR_fill_16 70 19 (by decide) rfl (fun c16 => ?_) (fun c16 => ?_)
    · exact g_vret hX rfl dR_fill_70 ⟨rfl, hW⟩ rfl (Nat.zero_le _) (Nat.zero_le _)
    · exact absurd (nI_le (Nat.le_refl _) (by omega)) c16
  | succ r ih =>
    intro k h hk hW
    have hk3 : k < S.1 3 j := by omega
    have htl := q_tx_le S j s L hT4 k
    have ht9 := hT (4 * j + k) (by rw [show (4 * j + k) / 4 = j by omega]; exact hj) (by rw [show (4 * j + k) / 4 = j by omega, show (4 * j + k) % 4 = k by omega]; exact hk3)
    have hst : q_tx S j s (k + 1) L = q_pc s (q_room S j s k) k (S.2 12 (4 * j + k)) 4 (q_tx S j s k L) := by
      rw [q_pc_pg (q_tx S j s k L) ht9.2.1 4 (Nat.le_refl _), ← ht9.1, q_tx]
    refine g_iload hX dR_fill_8 rfl 10 rfl ?_
    refine g_aload_n hX dR_fill_10 rfl rfl (by first | rfl | exact g_rfr _) 11 rfl ?_
    refine g_cF0r (wt := 1) hX ((show g_Rd X.l mA_size 0 0 [.ref (A 10 j)] E h (some (.int (nI (S.1 3 j)))) from c_spar (S := q_wL S 18 6 (q_tx S j s k L)) hX.tr hW hB hj)) dR_fill_11 (w_l10 (S := q_wL S 18 6 (q_tx S j s k L)) hW hB hj).1 kR_28 (g_rm.of hR (by decide) (by decide)) (by first | exact Nat.zero_le _ | (rw [hR]; decide)) (by first | exact Nat.zero_le _ | (rw [hR]; decide)) (by first | decide | (simp [Value.category])) 16 rfl ?_
    refine g_icmp_ge hX dR_fill_16 70 19 (by decide) rfl (fun c16 => ?_) (fun c16 => ?_)
    · exact absurd c16 (nI_ge hk3 (by omega))
    · refine g_iload_n hX dR_fill_19 rfl rfl 20 rfl ?_
      refine g_iconst hX dR_fill_20 (v := 2) (by decide) 21 rfl ?_
      refine g_iload_n hX dR_fill_21 rfl rfl 22 rfl ?_
      refine g_imul hX dR_fill_22 23 rfl ?_
      refine g_aload_n hX dR_fill_23 rfl rfl (by first | rfl | exact g_rfr _) 24 rfl ?_
      refine g_iload hX dR_fill_24 rfl 26 rfl ?_
      refine g_cF1r (wt := 2) hX ((show g_Rd X.l mA_get 2 27 [.ref (A 10 j), .int (nI k)] E h (some (.ref (A 14 (4 * j + k)))) from c_gpar (S := q_wL S 18 6 (q_tx S j s k L)) hX.tr hW hB hj hk3)) dR_fill_26 (w_l10 (S := q_wL S 18 6 (q_tx S j s k L)) hW hB hj).1 kR_34 (g_rm.of hR (by decide) (by decide)) (by first | exact Nat.zero_le _ | (rw [hR]; decide)) (by first | exact Nat.zero_le _ | (rw [hR]; decide)) (by first | decide | (simp [Value.category])) 31 rfl ?_
      refine g_cast (ci := 3) hX dR_fill_31 rfl cR_38 (w_c14 (S := q_wL S 18 6 (q_tx S j s k L)) hW hj hk3 (by omega)) 34 rfl ?_
      refine g_get (v := .int (S.2 5 (4 * j + k))) hX dR_fill_34 fR_40 (w_c14 (S := q_wL S 18 6 (q_tx S j s k L)) hW hj hk3 (by omega)) rfl 37 rfl ?_
      refine g_imul hX dR_fill_37 38 rfl ?_
      refine g_isub hX dR_fill_38 39 rfl ?_
      refine g_istore hX (L' := [_, _, _, _, _, _]) dR_fill_39 (by decide) rfl 41 rfl ?_
      refine g_aload_n hX dR_fill_41 rfl rfl (by first | rfl | exact g_rfr _) 42 rfl ?_
      refine g_iload hX dR_fill_42 rfl 44 rfl ?_
      refine g_aload_n hX dR_fill_44 rfl rfl (by first | rfl | exact g_rfr _) 45 rfl ?_
      refine g_iload hX dR_fill_45 rfl 47 rfl ?_
      refine g_cF1r (wt := 2) hX ((show g_Rd X.l mA_get 2 27 [.ref (A 10 j), .int (nI k)] E h (some (.ref (A 14 (4 * j + k)))) from c_gpar (S := q_wL S 18 6 (q_tx S j s k L)) hX.tr hW hB hj hk3)) dR_fill_47 (w_l10 (S := q_wL S 18 6 (q_tx S j s k L)) hW hB hj).1 kR_34 (g_rm.of hR (by decide) (by decide)) (by first | exact Nat.zero_le _ | (rw [hR]; decide)) (by first | exact Nat.zero_le _ | (rw [hR]; decide)) (by first | decide | (simp [Value.category])) 52 rfl ?_
      refine g_cast (ci := 3) hX dR_fill_52 rfl cR_38 (w_c14 (S := q_wL S 18 6 (q_tx S j s k L)) hW hj hk3 (by omega)) 55 rfl ?_
      refine g_get (v := .int (S.2 12 (4 * j + k))) hX dR_fill_55 fR_43 (w_c14 (S := q_wL S 18 6 (q_tx S j s k L)) hW hj hk3 (by omega)) rfl 58 rfl ?_
      refine g_iload hX dR_fill_58 rfl 60 rfl ?_
      refine g_iload_n hX dR_fill_60 rfl rfl 61 rfl ?_
      refine g_cV4 (wt := 0) hX (c_R_addp (S := S) (k := k) hX.tr hW hs h1 h4 ht9.2.2 (by omega)) dR_fill_61 (w_c hW 24 0 (by decide) ⟨rfl, by decide⟩) kR_45 (g_rm.of hR (by decide) (by decide)) (by first | exact Nat.zero_le _ | (rw [hR]; decide)) (by first | exact Nat.zero_le _ | (rw [hR]; decide)) (by first | decide | (simp [Value.category])) (fun q => by cases q) 64 rfl (fun v h hP => ?_) (fun k h hP => by cases hP.1)
      obtain ⟨hv, hW⟩ := hP
      cases hv
      show g_Go E X _ h false 0 0 64 _ []
      refine g_iinc hX (L' := [_, _, _, _, _, _]) dR_fill_64 rfl (q_inc _) rfl 67 rfl ?_
      refine g_goto hX dR_fill_67 8 (by decide) ?_
      refine g_drop (L' := [_, _, _, _, _, none]) 5 rfl ?_
      exact ih (k + 1) h (by omega) (by rw [hst]; exact hW)
set_option maxRecDepth 100000 in
set_option maxHeartbeats 4000000 in
theorem c_R_fill {l : Launch} (hl : l.stackTraces = false) {E : g_E} {A : w_A} {S Sm : q_S} {h : g_H} {L : q_L} (hW : w_W E A (q_wL S 18 6 L) Sm h) (hB : w_B S) (hT : w_T S) (hT4 : ∀ t, S.1 4 t ≤ 4) {j : Nat} (hj : j < q_ns S) {s : Int32} {s0 : Nat} (hs : s = nI s0) (h1 : 1 ≤ s0) (h4 : s0 ≤ 4) : g_Ct l mR_fill 3 42 0 0 [.ref (A 24 0), .ref (A 10 j), .int (q_value S j 2), .int s] E h (false, fun r' h' => r' = .inr none ∧ w_W E A (q_wL S 18 6 (q_tx S j s (S.1 3 j) L)) Sm h') := by
  refine g_Ct.of hl (by decide) (by first | rfl | simp [g_rfc, Value.category]) (Nat.le_of_ble_eq_true rfl) ?_
  intro X hX hXl hR
  obtain ⟨n, L⟩ := L
  show g_Go E X _ h true 0 0 0 [some (.ref (A 24 0)), some (.ref (A 10 j)), some (.int (q_value S j 2)), some (.int s), none, none] []
  refine g_aload_n hX dR_fill_0 rfl rfl (by first | rfl | exact g_rfr _) 1 rfl ?_
  refine g_iconst hX dR_fill_1 (v := 0) (by decide) 2 rfl ?_
  refine g_put0 hX dR_fill_2 fR_24 (w_c hW 24 0 (by decide) ⟨rfl, by decide⟩) (w_cb hW 24 0 (by decide) ⟨rfl, by decide⟩) rfl rfl (Nat.le_of_ble_eq_true rfl) 5 rfl ?_
  refine g_stepC hW 24 0 (q_wL S 18 6 (0, L)) (by decide) ⟨rfl, by decide⟩ ⟨rfl, rfl, rfl, rfl, rfl, rfl, rfl⟩ w_cLn rfl (fun h hW => ?_)
  refine g_iconst hX dR_fill_5 (v := 0) (by decide) 6 rfl ?_
  refine g_istore hX (L' := [_, _, _, _, _, _]) dR_fill_6 (by decide) rfl 8 rfl ?_
  exact lp_fill (L := (n, L)) hX hR hB hT hj hs h1 h4 hT4 (S.1 3 j) 0 h (by omega) hW
set_option maxRecDepth 100000 in
set_option maxHeartbeats 4000000 in
theorem lp_fitText {E : g_E} {A : w_A} {S Sm : q_S} {X : g_X} (hX : g_ok E X mS_fitText) (hR : X.R = { frames := 6, cells := 0, slots := 0, locals := 84 }) (hB : w_B S) (hC : w_C S) (hT : w_T S) (hT4 : ∀ t, S.1 4 t ≤ 4) {j : Nat} (hj : j < q_ns S) :
    ∀ (s : Nat) (L : q_L) (h : g_H) (z : Bool), s ≤ 4 → w_W E A (q_wL S 18 6 L) Sm h → g_Go E X (false, fun r' h' => r' = .inr (some (.int (q_fit S j s L).1)) ∧ w_W E A (q_wL S 18 6 (q_fit S j s L).2) Sm h') h z 0 0 23 [some (.ref (A 0 0)), some (.ref (A 7 j)), some (.int (q_value S j 2)), some (.int (q_value S j 3)), some (.int (nI s))] [] := by
  intro s
  induction s with
  | zero =>
    intro L h z hs hW
    refine g_iload hX dS_fitText_23 rfl 25 rfl ?_
    refine g_iconst hX dS_fitText_25 (v := 1) (by decide) 26 rfl ?_
    refine g_icmp_lt hX dS_fitText_26 66 29 (by decide) rfl (fun c26 => ?_) (fun c26 => ?_)
    · refine g_iconst hX dS_fitText_66 (v := 0) (by decide) 67 rfl ?_
      exact g_iret hX rfl rfl dS_fitText_67 ⟨rfl, hW⟩ rfl (Nat.zero_le _) (Nat.zero_le _)
    · exact absurd (show nI 0 < 1 by decide) c26
  | succ s ih =>
    intro L h z hs hW
    have hx : q_fit S j (s + 1) L = if nI (s + 1) * nI (q_tx S j (nI (s + 1)) (S.1 3 j) L).1 ≤ q_value S j 3 then (nI (s + 1), q_tx S j (nI (s + 1)) (S.1 3 j) L) else q_fit S j s (q_tx S j (nI (s + 1)) (S.1 3 j) L) := by rw [q_fit]
    rw [hx]
    clear hx
    refine g_iload hX dS_fitText_23 rfl 25 rfl ?_
    refine g_iconst hX dS_fitText_25 (v := 1) (by decide) 26 rfl ?_
    refine g_icmp_lt hX dS_fitText_26 66 29 (by decide) rfl (fun c26 => ?_) (fun c26 => ?_)
    · exact absurd c26 (nI_nlt (a := s + 1) (b := 1) (by omega) (by omega))
    · refine g_aload_n hX dS_fitText_29 rfl rfl (by first | rfl | exact g_rfr _) 30 rfl ?_
      refine g_get hX dS_fitText_30 fS_33 (w_s hW) rfl 33 rfl ?_
      refine g_aload_n hX dS_fitText_33 rfl rfl (by first | rfl | exact g_rfr _) 34 rfl ?_
      refine g_get hX dS_fitText_34 fS_168 (w_c hW 7 j (by decide) hj) rfl 37 rfl ?_
      refine g_iload_n hX dS_fitText_37 rfl rfl 38 rfl ?_
      refine g_iload hX dS_fitText_38 rfl 40 rfl ?_
      refine g_cV3 (wt := 0) hX (c_R_fill (S := S) hX.tr hW hB hT hT4 hj (s0 := s + 1) rfl (by omega) hs) dS_fitText_40 (w_c hW 24 0 (by decide) ⟨rfl, by decide⟩) kS_318 (g_rm.of hR (by decide) (by decide)) (by first | exact Nat.zero_le _ | (rw [hR]; decide)) (by first | exact Nat.zero_le _ | (rw [hR]; decide)) (by first | decide | (simp [Value.category])) (fun q => by cases q) 43 rfl (fun v h hP => ?_) (fun k h hP => by cases hP.1)
      obtain ⟨hv, hW⟩ := hP
      cases hv
      generalize hq : q_tx S j (nI (s + 1)) (S.1 3 j) L = L2 at hW ⊢
      show g_Go E X _ h false 0 0 43 _ []
      refine g_iload hX dS_fitText_43 rfl 45 rfl ?_
      refine g_aload_n hX dS_fitText_45 rfl rfl (by first | rfl | exact g_rfr _) 46 rfl ?_
      refine g_get hX dS_fitText_46 fS_33 (w_s hW) rfl 49 rfl ?_
      refine g_get (v := .int (nI L2.1)) hX dS_fitText_49 fS_180 (w_c hW 24 0 (by decide) ⟨rfl, by decide⟩) rfl 52 rfl ?_
      refine g_imul hX dS_fitText_52 53 rfl ?_
      refine g_iload_n hX dS_fitText_53 rfl rfl 54 rfl ?_
      refine g_icmp_gt hX dS_fitText_54 60 57 (by decide) rfl (fun c54 => ?_) (fun c54 => ?_)
      · refine g_iinc hX (L' := [_, _, _, _, _]) dS_fitText_60 rfl (q_dec s) rfl 63 rfl ?_
        refine g_goto hX dS_fitText_63 23 (by decide) ?_
        rw [if_neg (show ¬ nI (s + 1) * nI L2.1 ≤ q_value S j 3 from q_lt_nle c54)]
        exact ih L2 h false (by omega) hW
      · refine g_iload hX dS_fitText_57 rfl 59 rfl ?_
        rw [if_pos (show nI (s + 1) * nI L2.1 ≤ q_value S j 3 from q_nlt_le c54)]
        exact g_iret hX rfl rfl dS_fitText_59 ⟨rfl, hW⟩ rfl (Nat.zero_le _) (Nat.zero_le _)
set_option maxRecDepth 100000 in
set_option maxHeartbeats 4000000 in
theorem c_S_fitText {l : Launch} (hl : l.stackTraces = false) {E : g_E} {A : w_A} {S Sm : q_S} {h : g_H} {L : q_L} (hW : w_W E A (q_wL S 18 6 L) Sm h) (hB : w_B S) (hC : w_C S) (hT : w_T S) (hT4 : ∀ t, S.1 4 t ≤ 4) {j : Nat} (hj : j < q_ns S) {s : Nat} (hs : q_value S j 6 = nI s) (hs4 : s ≤ 4) : g_Ct l mS_fitText 6 84 0 0 [.ref (A 0 0), .ref (A 7 j)] E h (false, fun r' h' => r' = .inr (some (.int (q_fit S j s L).1)) ∧ w_W E A (q_wL S 18 6 (q_fit S j s L).2) Sm h') := by
  refine g_Ct.of hl (by decide) (by first | rfl | simp [g_rfc, Value.category]) (Nat.le_of_ble_eq_true rfl) ?_
  intro X hX hXl hR
  show g_Go E X _ h true 0 0 0 [some (.ref (A 0 0)), some (.ref (A 7 j)), none, none, none] []
  refine g_aload_n hX dS_fitText_0 rfl rfl (by first | rfl | exact g_rfr _) 1 rfl ?_
  refine g_aload_n hX dS_fitText_1 rfl rfl (by first | rfl | exact g_rfr _) 2 rfl ?_
  refine g_iconst hX dS_fitText_2 (v := 2) (by decide) 3 rfl ?_
  refine g_cV2r (wt := 0) hX ((show g_Rd X.l mS_resolve 5 69 [.ref (A 0 0), .ref (A 7 j), .int 2] E h (some (.int (q_value S j 2))) by rw [← q_value_va (S := q_wL S 18 6 L) (T := S) ⟨rfl, rfl, rfl, rfl, rfl, rfl, rfl⟩]; exact c_S_resolve (S := q_wL S 18 6 L) hX.tr hW hB hC (j := j) (pr := 2) hj (by decide))) dS_fitText_3 (w_s hW) kS_138 (g_rm.of hR (by decide) (by decide)) (by first | exact Nat.zero_le _ | (rw [hR]; decide)) (by first | exact Nat.zero_le _ | (rw [hR]; decide)) (by first | decide | (simp [Value.category])) 6 rfl ?_
  refine g_istore_n hX (L' := [_, _, _, _, _]) dS_fitText_6 rfl (by decide) rfl 7 rfl ?_
  refine g_aload_n hX dS_fitText_7 rfl rfl (by first | rfl | exact g_rfr _) 8 rfl ?_
  refine g_aload_n hX dS_fitText_8 rfl rfl (by first | rfl | exact g_rfr _) 9 rfl ?_
  refine g_iconst hX dS_fitText_9 (v := 3) (by decide) 10 rfl ?_
  refine g_cV2r (wt := 0) hX ((show g_Rd X.l mS_resolve 5 69 [.ref (A 0 0), .ref (A 7 j), .int 3] E h (some (.int (q_value S j 3))) by rw [← q_value_va (S := q_wL S 18 6 L) (T := S) ⟨rfl, rfl, rfl, rfl, rfl, rfl, rfl⟩]; exact c_S_resolve (S := q_wL S 18 6 L) hX.tr hW hB hC (j := j) (pr := 3) hj (by decide))) dS_fitText_10 (w_s hW) kS_138 (g_rm.of hR (by decide) (by decide)) (by first | exact Nat.zero_le _ | (rw [hR]; decide)) (by first | exact Nat.zero_le _ | (rw [hR]; decide)) (by first | decide | (simp [Value.category])) 13 rfl ?_
  refine g_istore_n hX (L' := [_, _, _, _, _]) dS_fitText_13 rfl (by decide) rfl 14 rfl ?_
  refine g_aload_n hX dS_fitText_14 rfl rfl (by first | rfl | exact g_rfr _) 15 rfl ?_
  refine g_aload_n hX dS_fitText_15 rfl rfl (by first | rfl | exact g_rfr _) 16 rfl ?_
  refine g_bipush hX dS_fitText_16 (v := 6) (by decide) 18 rfl ?_
  refine g_cV2r (wt := 0) hX ((show g_Rd X.l mS_resolve 5 69 [.ref (A 0 0), .ref (A 7 j), .int 6] E h (some (.int (q_value S j 6))) by rw [← q_value_va (S := q_wL S 18 6 L) (T := S) ⟨rfl, rfl, rfl, rfl, rfl, rfl, rfl⟩]; exact c_S_resolve (S := q_wL S 18 6 L) hX.tr hW hB hC (j := j) (pr := 6) hj (by decide))) dS_fitText_18 (w_s hW) kS_138 (g_rm.of hR (by decide) (by decide)) (by first | exact Nat.zero_le _ | (rw [hR]; decide)) (by first | exact Nat.zero_le _ | (rw [hR]; decide)) (by first | decide | (simp [Value.category])) 21 rfl ?_
  rw [hs]
  refine g_istore hX (L' := [_, _, _, _, _]) dS_fitText_21 (by decide) rfl 23 rfl ?_
  exact lp_fitText hX hR hB hC hT hT4 hj s L h true hs4 hW
