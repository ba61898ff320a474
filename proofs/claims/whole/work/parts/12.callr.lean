/-! packaged words of a call site; rows by the number of arguments -/
def g_kS (own : String) (idx : Nat) (M' : g_M) (n : Nat) : Prop := Cond.methodLink own idx M'.y ∈ g_wl ∧ Cond.static M'.y ∈ g_wl ∧ Cond.initialized M'.y.cls ∈ g_wl ∧ g_cw M' ∈ g_wl ∧ g_np M'.y n = true
def g_kV (own : String) (idx : Nat) (M' : g_M) (n ci : Nat) : Prop := ∃ (C : String) (T0 : u_T) (N : Nat), g_cl[ci]? = some (C, T0, N) ∧ Cond.methodLink own idx M'.y ∈ g_wl ∧ Cond.instanceMethod M'.y ∈ g_wl ∧ Cond.selects C M'.y M'.y ∈ g_wl ∧ Cond.initialized M'.y.cls ∈ g_wl ∧ g_cw M' ∈ g_wl ∧ g_np M'.y n = true
def g_kI (own : String) (idx : Nat) (M' : g_M) (n : Nat) : Prop := (M'.tb = [] ∧ M'.ret = none ∧ M'.y.name = "<init>") ∧ Cond.methodLink own idx M'.y ∈ g_wl ∧ Cond.instanceMethod M'.y ∈ g_wl ∧ Cond.initialized M'.y.cls ∈ g_wl ∧ g_cw M' ∈ g_wl ∧ g_np M'.y n = true
def g_kF (own : String) (idx : Nat) (x : MethodName) (M' : g_M) (n ci : Nat) : Prop := ∃ (C : String) (T0 : u_T) (N : Nat), g_cl[ci]? = some (C, T0, N) ∧ Cond.methodLink own idx x ∈ g_wl ∧ g_fw C x M'.y ∧ Cond.initialized M'.y.cls ∈ g_wl ∧ g_cw M' ∈ g_wl ∧ g_np x n = true
def g_rm (X : g_X) (fr lo nl wt : Nat) : Prop := fr + 1 ≤ X.R.frames ∧ wt + (nl + 11) + lo ≤ X.R.locals
theorem g_rm.of {X : g_X} {F G mc ms fr lo nl wt : Nat} (hR : X.R = { frames := F, cells := mc, slots := ms, locals := G }) (hd : fr + 1 ≤ F) (hn : wt + (nl + 11) + lo ≤ G) : g_rm X fr lo nl wt := by
  unfold g_rm
  rw [hR]
  exact ⟨hd, hn⟩
/-- it answers v, and changes and makes nothing -/
def g_Rd (l : Launch) (M : g_M) (fr lo : Nat) (as : List Value) (E : g_E) (h : g_H) (v : Option Value) : Prop := g_Ct l M fr lo 0 0 as E h (true, fun r h' => r = .inr v ∧ h' = h)
theorem g_Rd.of {l : Launch} {M : g_M} {fr lo : Nat} {as : List Value} {E : g_E} {h : g_H} {v : Option Value} (hl : l.stackTraces = false) (hy : plainName M.y.cls = true) (hv : as.all (fun v => v.category == 1) = true) (hn : as.length ≤ M.nl)
    (body : ∀ X : g_X, g_ok E X M → X.l = l → X.R = { frames := fr, cells := 0, slots := 0, locals := lo } → g_Go E X (true, fun r h' => r = .inr v ∧ h' = h) h true 0 0 0 (as.map some ++ List.replicate (M.nl - as.length) none) []) : g_Rd l M fr lo as E h v := g_Ct.of hl hy hv hn body
section GCALLR
variable {E : g_E} {X : g_X} {M M' : g_M} {P P' : g_P} {h : g_H} {z : Bool} {cs ss pc : Nat} {L : List (Option Value)} {rest : List Value} {fr lo mc ms index wt : Nat}
theorem g_cS0 (hX : g_ok E X M) (hct : g_Ct X.l M' fr lo mc ms [] E h P') (hdg : decode M.cc pc = .ok (.invokestatic index, 3)) (hk : g_kS M.y.cls index M' 0) (hrm : g_rm X fr lo M'.nl wt) (hc : cs + mc ≤ X.R.cells) (hs : ss + ms ≤ X.R.slots) (hW : (rest.map fun v => v.category).sum ≤ wt) (hmc : P'.1 = true → mc = 0 ∧ ms = 0) (pn : Nat) (hpn : pc + 3 = pn)
    (kr : ∀ (v : Option Value) (h' : g_H), P'.2 (.inr v) h' → g_Go E X P h' (P'.1 && z) (cs + mc) (ss + ms) pn L (v.toList ++ rest)) (kt : ∀ (k : Nat) (h' : g_H), P'.2 (.inl k) h' → g_Th E X P h' (cs + mc) (ss + ms) pc L k) : g_Go E X P h z cs ss pc L (rest) :=
  g_callS (as := []) hX hct hdg hk.1 hk.2.1 hk.2.2.1 hk.2.2.2.1 hk.2.2.2.2 hrm.1 hrm.2 hc hs hW hmc pn hpn kr kt
theorem g_cS0r (hX : g_ok E X M) {v : Value} (hct : g_Rd X.l M' fr lo [] E h (some v)) (hdg : decode M.cc pc = .ok (.invokestatic index, 3)) (hk : g_kS M.y.cls index M' 0) (hrm : g_rm X fr lo M'.nl wt) (hc : cs ≤ X.R.cells) (hs : ss ≤ X.R.slots) (hW : (rest.map fun v => v.category).sum ≤ wt) (pn : Nat) (hpn : pc + 3 = pn)
    (kr : g_Go E X P h z cs ss pn L (v :: rest)) : g_Go E X P h z cs ss pc L (rest) :=
  g_cS0 (mc := 0) (ms := 0) hX hct hdg hk hrm hc hs hW (fun _ => ⟨rfl, rfl⟩) pn hpn (fun v' h' q => by
    obtain ⟨q1, q2⟩ := q
    cases q1
    subst q2
    exact kr) (fun k h' q => by cases q.1)
theorem g_cS0v (hX : g_ok E X M) (hct : g_Rd X.l M' fr lo [] E h none) (hdg : decode M.cc pc = .ok (.invokestatic index, 3)) (hk : g_kS M.y.cls index M' 0) (hrm : g_rm X fr lo M'.nl wt) (hc : cs ≤ X.R.cells) (hs : ss ≤ X.R.slots) (hW : (rest.map fun v => v.category).sum ≤ wt) (pn : Nat) (hpn : pc + 3 = pn)
    (kr : g_Go E X P h z cs ss pn L (rest)) : g_Go E X P h z cs ss pc L (rest) :=
  g_cS0 (mc := 0) (ms := 0) hX hct hdg hk hrm hc hs hW (fun _ => ⟨rfl, rfl⟩) pn hpn (fun v' h' q => by
    obtain ⟨q1, q2⟩ := q
    cases q1
    subst q2
    exact kr) (fun k h' q => by cases q.1)
theorem g_cV0 (hX : g_ok E X M) {b ci : Nat} {fs : List Value} (hct : g_Ct X.l M' fr lo mc ms (.ref b :: []) E h P') (hdg : decode M.cc pc = .ok (.invokevirtual index, 3)) (hb : h b = some (.inr (ci, fs))) (hk : g_kV M.y.cls index M' 0 ci) (hrm : g_rm X fr lo M'.nl wt) (hc : cs + mc ≤ X.R.cells) (hs : ss + ms ≤ X.R.slots) (hW : (rest.map fun v => v.category).sum ≤ wt) (hmc : P'.1 = true → mc = 0 ∧ ms = 0) (pn : Nat) (hpn : pc + 3 = pn)
    (kr : ∀ (v : Option Value) (h' : g_H), P'.2 (.inr v) h' → g_Go E X P h' (P'.1 && z) (cs + mc) (ss + ms) pn L (v.toList ++ rest)) (kt : ∀ (k : Nat) (h' : g_H), P'.2 (.inl k) h' → g_Th E X P h' (cs + mc) (ss + ms) pc L k) : g_Go E X P h z cs ss pc L (.ref b :: rest) :=
  by
  obtain ⟨C, T0, N, k1, k2, k3, k4, k5, k6, k7⟩ := hk
  exact g_callV (as := []) hX hct hdg hb k1 k2 k3 k4 k5 k6 k7 hrm.1 hrm.2 hc hs hW hmc pn hpn kr kt
theorem g_cV0r (hX : g_ok E X M) {b ci : Nat} {fs : List Value} {v : Value} (hct : g_Rd X.l M' fr lo (.ref b :: []) E h (some v)) (hdg : decode M.cc pc = .ok (.invokevirtual index, 3)) (hb : h b = some (.inr (ci, fs))) (hk : g_kV M.y.cls index M' 0 ci) (hrm : g_rm X fr lo M'.nl wt) (hc : cs ≤ X.R.cells) (hs : ss ≤ X.R.slots) (hW : (rest.map fun v => v.category).sum ≤ wt) (pn : Nat) (hpn : pc + 3 = pn)
    (kr : g_Go E X P h z cs ss pn L (v :: rest)) : g_Go E X P h z cs ss pc L (.ref b :: rest) :=
  g_cV0 (mc := 0) (ms := 0) hX hct hdg hb hk hrm hc hs hW (fun _ => ⟨rfl, rfl⟩) pn hpn (fun v' h' q => by
    obtain ⟨q1, q2⟩ := q
    cases q1
    subst q2
    exact kr) (fun k h' q => by cases q.1)
theorem g_cV0v (hX : g_ok E X M) {b ci : Nat} {fs : List Value} (hct : g_Rd X.l M' fr lo (.ref b :: []) E h none) (hdg : decode M.cc pc = .ok (.invokevirtual index, 3)) (hb : h b = some (.inr (ci, fs))) (hk : g_kV M.y.cls index M' 0 ci) (hrm : g_rm X fr lo M'.nl wt) (hc : cs ≤ X.R.cells) (hs : ss ≤ X.R.slots) (hW : (rest.map fun v => v.category).sum ≤ wt) (pn : Nat) (hpn : pc + 3 = pn)
    (kr : g_Go E X P h z cs ss pn L (rest)) : g_Go E X P h z cs ss pc L (.ref b :: rest) :=
  g_cV0 (mc := 0) (ms := 0) hX hct hdg hb hk hrm hc hs hW (fun _ => ⟨rfl, rfl⟩) pn hpn (fun v' h' q => by
    obtain ⟨q1, q2⟩ := q
    cases q1
    subst q2
    exact kr) (fun k h' q => by cases q.1)
theorem g_cI0 (hX : g_ok E X M) {b : Nat} (hct : g_Ct X.l M' fr lo mc ms (.ref b :: []) E h P') (hdg : decode M.cc pc = .ok (.invokespecial index, 3)) (hk : g_kI M.y.cls index M' 0) (hrm : g_rm X fr lo M'.nl wt) (hc : cs + mc ≤ X.R.cells) (hs : ss + ms ≤ X.R.slots) (hW : (rest.map fun v => v.category).sum ≤ wt) (hmc : P'.1 = true → mc = 0 ∧ ms = 0) (pn : Nat) (hpn : pc + 3 = pn)
    (kr : ∀ (v : Option Value) (h' : g_H), P'.2 (.inr v) h' → g_Go E X P h' (P'.1 && z) (cs + mc) (ss + ms) pn L (v.toList ++ rest)) (kt : ∀ (k : Nat) (h' : g_H), P'.2 (.inl k) h' → g_Th E X P h' (cs + mc) (ss + ms) pc L k) : g_Go E X P h z cs ss pc L (.ref b :: rest) :=
  g_callI (as := []) hX hk.1.1 hk.1.2.1 hk.1.2.2 hct hdg hk.2.1 hk.2.2.1 hk.2.2.2.1 hk.2.2.2.2.1 hk.2.2.2.2.2 hrm.1 hrm.2 hc hs hW hmc pn hpn kr kt
theorem g_cI0r (hX : g_ok E X M) {b : Nat} {v : Value} (hct : g_Rd X.l M' fr lo (.ref b :: []) E h (some v)) (hdg : decode M.cc pc = .ok (.invokespecial index, 3)) (hk : g_kI M.y.cls index M' 0) (hrm : g_rm X fr lo M'.nl wt) (hc : cs ≤ X.R.cells) (hs : ss ≤ X.R.slots) (hW : (rest.map fun v => v.category).sum ≤ wt) (pn : Nat) (hpn : pc + 3 = pn)
    (kr : g_Go E X P h z cs ss pn L (v :: rest)) : g_Go E X P h z cs ss pc L (.ref b :: rest) :=
  g_cI0 (mc := 0) (ms := 0) hX hct hdg hk hrm hc hs hW (fun _ => ⟨rfl, rfl⟩) pn hpn (fun v' h' q => by
    obtain ⟨q1, q2⟩ := q
    cases q1
    subst q2
    exact kr) (fun k h' q => by cases q.1)
theorem g_cI0v (hX : g_ok E X M) {b : Nat} (hct : g_Rd X.l M' fr lo (.ref b :: []) E h none) (hdg : decode M.cc pc = .ok (.invokespecial index, 3)) (hk : g_kI M.y.cls index M' 0) (hrm : g_rm X fr lo M'.nl wt) (hc : cs ≤ X.R.cells) (hs : ss ≤ X.R.slots) (hW : (rest.map fun v => v.category).sum ≤ wt) (pn : Nat) (hpn : pc + 3 = pn)
    (kr : g_Go E X P h z cs ss pn L (rest)) : g_Go E X P h z cs ss pc L (.ref b :: rest) :=
  g_cI0 (mc := 0) (ms := 0) hX hct hdg hk hrm hc hs hW (fun _ => ⟨rfl, rfl⟩) pn hpn (fun v' h' q => by
    obtain ⟨q1, q2⟩ := q
    cases q1
    subst q2
    exact kr) (fun k h' q => by cases q.1)
theorem g_cF0 (hX : g_ok E X M) {b ci count : Nat} {x : MethodName} {fs : List Value} (hct : g_Ct X.l M' fr lo mc ms (.ref b :: []) E h P') (hdg : decode M.cc pc = .ok (.invokeinterface index count, 5)) (hb : h b = some (.inr (ci, fs))) (hk : g_kF M.y.cls index x M' 0 ci) (hrm : g_rm X fr lo M'.nl wt) (hc : cs + mc ≤ X.R.cells) (hs : ss + ms ≤ X.R.slots) (hW : (rest.map fun v => v.category).sum ≤ wt) (hmc : P'.1 = true → mc = 0 ∧ ms = 0) (pn : Nat) (hpn : pc + 5 = pn)
    (kr : ∀ (v : Option Value) (h' : g_H), P'.2 (.inr v) h' → g_Go E X P h' (P'.1 && z) (cs + mc) (ss + ms) pn L (v.toList ++ rest)) (kt : ∀ (k : Nat) (h' : g_H), P'.2 (.inl k) h' → g_Th E X P h' (cs + mc) (ss + ms) pc L k) : g_Go E X P h z cs ss pc L (.ref b :: rest) :=
  by
  obtain ⟨C, T0, N, k1, k2, k3, k4, k5, k6⟩ := hk
  exact g_callF (as := []) hX hct hdg hb k1 k2 k3 k4 k5 k6 hrm.1 hrm.2 hc hs hW hmc pn hpn kr kt
theorem g_cF0r (hX : g_ok E X M) {b ci count : Nat} {x : MethodName} {fs : List Value} {v : Value} (hct : g_Rd X.l M' fr lo (.ref b :: []) E h (some v)) (hdg : decode M.cc pc = .ok (.invokeinterface index count, 5)) (hb : h b = some (.inr (ci, fs))) (hk : g_kF M.y.cls index x M' 0 ci) (hrm : g_rm X fr lo M'.nl wt) (hc : cs ≤ X.R.cells) (hs : ss ≤ X.R.slots) (hW : (rest.map fun v => v.category).sum ≤ wt) (pn : Nat) (hpn : pc + 5 = pn)
    (kr : g_Go E X P h z cs ss pn L (v :: rest)) : g_Go E X P h z cs ss pc L (.ref b :: rest) :=
  g_cF0 (mc := 0) (ms := 0) hX hct hdg hb hk hrm hc hs hW (fun _ => ⟨rfl, rfl⟩) pn hpn (fun v' h' q => by
    obtain ⟨q1, q2⟩ := q
    cases q1
    subst q2
    exact kr) (fun k h' q => by cases q.1)
theorem g_cF0v (hX : g_ok E X M) {b ci count : Nat} {x : MethodName} {fs : List Value} (hct : g_Rd X.l M' fr lo (.ref b :: []) E h none) (hdg : decode M.cc pc = .ok (.invokeinterface index count, 5)) (hb : h b = some (.inr (ci, fs))) (hk : g_kF M.y.cls index x M' 0 ci) (hrm : g_rm X fr lo M'.nl wt) (hc : cs ≤ X.R.cells) (hs : ss ≤ X.R.slots) (hW : (rest.map fun v => v.category).sum ≤ wt) (pn : Nat) (hpn : pc + 5 = pn)
    (kr : g_Go E X P h z cs ss pn L (rest)) : g_Go E X P h z cs ss pc L (.ref b :: rest) :=
  g_cF0 (mc := 0) (ms := 0) hX hct hdg hb hk hrm hc hs hW (fun _ => ⟨rfl, rfl⟩) pn hpn (fun v' h' q => by
    obtain ⟨q1, q2⟩ := q
    cases q1
    subst q2
    exact kr) (fun k h' q => by cases q.1)
theorem g_cS1 (hX : g_ok E X M) {a1 : Value} (hct : g_Ct X.l M' fr lo mc ms [a1] E h P') (hdg : decode M.cc pc = .ok (.invokestatic index, 3)) (hk : g_kS M.y.cls index M' 1) (hrm : g_rm X fr lo M'.nl wt) (hc : cs + mc ≤ X.R.cells) (hs : ss + ms ≤ X.R.slots) (hW : (rest.map fun v => v.category).sum ≤ wt) (hmc : P'.1 = true → mc = 0 ∧ ms = 0) (pn : Nat) (hpn : pc + 3 = pn)
    (kr : ∀ (v : Option Value) (h' : g_H), P'.2 (.inr v) h' → g_Go E X P h' (P'.1 && z) (cs + mc) (ss + ms) pn L (v.toList ++ rest)) (kt : ∀ (k : Nat) (h' : g_H), P'.2 (.inl k) h' → g_Th E X P h' (cs + mc) (ss + ms) pc L k) : g_Go E X P h z cs ss pc L (a1 :: rest) :=
  g_callS (as := [a1]) hX hct hdg hk.1 hk.2.1 hk.2.2.1 hk.2.2.2.1 hk.2.2.2.2 hrm.1 hrm.2 hc hs hW hmc pn hpn kr kt
theorem g_cS1r (hX : g_ok E X M) {a1 : Value} {v : Value} (hct : g_Rd X.l M' fr lo [a1] E h (some v)) (hdg : decode M.cc pc = .ok (.invokestatic index, 3)) (hk : g_kS M.y.cls index M' 1) (hrm : g_rm X fr lo M'.nl wt) (hc : cs ≤ X.R.cells) (hs : ss ≤ X.R.slots) (hW : (rest.map fun v => v.category).sum ≤ wt) (pn : Nat) (hpn : pc + 3 = pn)
    (kr : g_Go E X P h z cs ss pn L (v :: rest)) : g_Go E X P h z cs ss pc L (a1 :: rest) :=
  g_cS1 (mc := 0) (ms := 0) hX hct hdg hk hrm hc hs hW (fun _ => ⟨rfl, rfl⟩) pn hpn (fun v' h' q => by
    obtain ⟨q1, q2⟩ := q
    cases q1
    subst q2
    exact kr) (fun k h' q => by cases q.1)
theorem g_cS1v (hX : g_ok E X M) {a1 : Value} (hct : g_Rd X.l M' fr lo [a1] E h none) (hdg : decode M.cc pc = .ok (.invokestatic index, 3)) (hk : g_kS M.y.cls index M' 1) (hrm : g_rm X fr lo M'.nl wt) (hc : cs ≤ X.R.cells) (hs : ss ≤ X.R.slots) (hW : (rest.map fun v => v.category).sum ≤ wt) (pn : Nat) (hpn : pc + 3 = pn)
    (kr : g_Go E X P h z cs ss pn L (rest)) : g_Go E X P h z cs ss pc L (a1 :: rest) :=
  g_cS1 (mc := 0) (ms := 0) hX hct hdg hk hrm hc hs hW (fun _ => ⟨rfl, rfl⟩) pn hpn (fun v' h' q => by
    obtain ⟨q1, q2⟩ := q
    cases q1
    subst q2
    exact kr) (fun k h' q => by cases q.1)
theorem g_cV1 (hX : g_ok E X M) {a1 : Value} {b ci : Nat} {fs : List Value} (hct : g_Ct X.l M' fr lo mc ms (.ref b :: [a1]) E h P') (hdg : decode M.cc pc = .ok (.invokevirtual index, 3)) (hb : h b = some (.inr (ci, fs))) (hk : g_kV M.y.cls index M' 1 ci) (hrm : g_rm X fr lo M'.nl wt) (hc : cs + mc ≤ X.R.cells) (hs : ss + ms ≤ X.R.slots) (hW : (rest.map fun v => v.category).sum ≤ wt) (hmc : P'.1 = true → mc = 0 ∧ ms = 0) (pn : Nat) (hpn : pc + 3 = pn)
    (kr : ∀ (v : Option Value) (h' : g_H), P'.2 (.inr v) h' → g_Go E X P h' (P'.1 && z) (cs + mc) (ss + ms) pn L (v.toList ++ rest)) (kt : ∀ (k : Nat) (h' : g_H), P'.2 (.inl k) h' → g_Th E X P h' (cs + mc) (ss + ms) pc L k) : g_Go E X P h z cs ss pc L (a1 :: .ref b :: rest) :=
  by
  obtain ⟨C, T0, N, k1, k2, k3, k4, k5, k6, k7⟩ := hk
  exact g_callV (as := [a1]) hX hct hdg hb k1 k2 k3 k4 k5 k6 k7 hrm.1 hrm.2 hc hs hW hmc pn hpn kr kt
theorem g_cV1r (hX : g_ok E X M) {a1 : Value} {b ci : Nat} {fs : List Value} {v : Value} (hct : g_Rd X.l M' fr lo (.ref b :: [a1]) E h (some v)) (hdg : decode M.cc pc = .ok (.invokevirtual index, 3)) (hb : h b = some (.inr (ci, fs))) (hk : g_kV M.y.cls index M' 1 ci) (hrm : g_rm X fr lo M'.nl wt) (hc : cs ≤ X.R.cells) (hs : ss ≤ X.R.slots) (hW : (rest.map fun v => v.category).sum ≤ wt) (pn : Nat) (hpn : pc + 3 = pn)
    (kr : g_Go E X P h z cs ss pn L (v :: rest)) : g_Go E X P h z cs ss pc L (a1 :: .ref b :: rest) :=
  g_cV1 (mc := 0) (ms := 0) hX hct hdg hb hk hrm hc hs hW (fun _ => ⟨rfl, rfl⟩) pn hpn (fun v' h' q => by
    obtain ⟨q1, q2⟩ := q
    cases q1
    subst q2
    exact kr) (fun k h' q => by cases q.1)
theorem g_cV1v (hX : g_ok E X M) {a1 : Value} {b ci : Nat} {fs : List Value} (hct : g_Rd X.l M' fr lo (.ref b :: [a1]) E h none) (hdg : decode M.cc pc = .ok (.invokevirtual index, 3)) (hb : h b = some (.inr (ci, fs))) (hk : g_kV M.y.cls index M' 1 ci) (hrm : g_rm X fr lo M'.nl wt) (hc : cs ≤ X.R.cells) (hs : ss ≤ X.R.slots) (hW : (rest.map fun v => v.category).sum ≤ wt) (pn : Nat) (hpn : pc + 3 = pn)
    (kr : g_Go E X P h z cs ss pn L (rest)) : g_Go E X P h z cs ss pc L (a1 :: .ref b :: rest) :=
  g_cV1 (mc := 0) (ms := 0) hX hct hdg hb hk hrm hc hs hW (fun _ => ⟨rfl, rfl⟩) pn hpn (fun v' h' q => by
    obtain ⟨q1, q2⟩ := q
    cases q1
    subst q2
    exact kr) (fun k h' q => by cases q.1)
theorem g_cI1 (hX : g_ok E X M) {a1 : Value} {b : Nat} (hct : g_Ct X.l M' fr lo mc ms (.ref b :: [a1]) E h P') (hdg : decode M.cc pc = .ok (.invokespecial index, 3)) (hk : g_kI M.y.cls index M' 1) (hrm : g_rm X fr lo M'.nl wt) (hc : cs + mc ≤ X.R.cells) (hs : ss + ms ≤ X.R.slots) (hW : (rest.map fun v => v.category).sum ≤ wt) (hmc : P'.1 = true → mc = 0 ∧ ms = 0) (pn : Nat) (hpn : pc + 3 = pn)
    (kr : ∀ (v : Option Value) (h' : g_H), P'.2 (.inr v) h' → g_Go E X P h' (P'.1 && z) (cs + mc) (ss + ms) pn L (v.toList ++ rest)) (kt : ∀ (k : Nat) (h' : g_H), P'.2 (.inl k) h' → g_Th E X P h' (cs + mc) (ss + ms) pc L k) : g_Go E X P h z cs ss pc L (a1 :: .ref b :: rest) :=
  g_callI (as := [a1]) hX hk.1.1 hk.1.2.1 hk.1.2.2 hct hdg hk.2.1 hk.2.2.1 hk.2.2.2.1 hk.2.2.2.2.1 hk.2.2.2.2.2 hrm.1 hrm.2 hc hs hW hmc pn hpn kr kt
theorem g_cI1r (hX : g_ok E X M) {a1 : Value} {b : Nat} {v : Value} (hct : g_Rd X.l M' fr lo (.ref b :: [a1]) E h (some v)) (hdg : decode M.cc pc = .ok (.invokespecial index, 3)) (hk : g_kI M.y.cls index M' 1) (hrm : g_rm X fr lo M'.nl wt) (hc : cs ≤ X.R.cells) (hs : ss ≤ X.R.slots) (hW : (rest.map fun v => v.category).sum ≤ wt) (pn : Nat) (hpn : pc + 3 = pn)
    (kr : g_Go E X P h z cs ss pn L (v :: rest)) : g_Go E X P h z cs ss pc L (a1 :: .ref b :: rest) :=
  g_cI1 (mc := 0) (ms := 0) hX hct hdg hk hrm hc hs hW (fun _ => ⟨rfl, rfl⟩) pn hpn (fun v' h' q => by
    obtain ⟨q1, q2⟩ := q
    cases q1
    subst q2
    exact kr) (fun k h' q => by cases q.1)
theorem g_cI1v (hX : g_ok E X M) {a1 : Value} {b : Nat} (hct : g_Rd X.l M' fr lo (.ref b :: [a1]) E h none) (hdg : decode M.cc pc = .ok (.invokespecial index, 3)) (hk : g_kI M.y.cls index M' 1) (hrm : g_rm X fr lo M'.nl wt) (hc : cs ≤ X.R.cells) (hs : ss ≤ X.R.slots) (hW : (rest.map fun v => v.category).sum ≤ wt) (pn : Nat) (hpn : pc + 3 = pn)
    (kr : g_Go E X P h z cs ss pn L (rest)) : g_Go E X P h z cs ss pc L (a1 :: .ref b :: rest) :=
  g_cI1 (mc := 0) (ms := 0) hX hct hdg hk hrm hc hs hW (fun _ => ⟨rfl, rfl⟩) pn hpn (fun v' h' q => by
    obtain ⟨q1, q2⟩ := q
    cases q1
    subst q2
    exact kr) (fun k h' q => by cases q.1)
theorem g_cF1 (hX : g_ok E X M) {a1 : Value} {b ci count : Nat} {x : MethodName} {fs : List Value} (hct : g_Ct X.l M' fr lo mc ms (.ref b :: [a1]) E h P') (hdg : decode M.cc pc = .ok (.invokeinterface index count, 5)) (hb : h b = some (.inr (ci, fs))) (hk : g_kF M.y.cls index x M' 1 ci) (hrm : g_rm X fr lo M'.nl wt) (hc : cs + mc ≤ X.R.cells) (hs : ss + ms ≤ X.R.slots) (hW : (rest.map fun v => v.category).sum ≤ wt) (hmc : P'.1 = true → mc = 0 ∧ ms = 0) (pn : Nat) (hpn : pc + 5 = pn)
    (kr : ∀ (v : Option Value) (h' : g_H), P'.2 (.inr v) h' → g_Go E X P h' (P'.1 && z) (cs + mc) (ss + ms) pn L (v.toList ++ rest)) (kt : ∀ (k : Nat) (h' : g_H), P'.2 (.inl k) h' → g_Th E X P h' (cs + mc) (ss + ms) pc L k) : g_Go E X P h z cs ss pc L (a1 :: .ref b :: rest) :=
  by
  obtain ⟨C, T0, N, k1, k2, k3, k4, k5, k6⟩ := hk
  exact g_callF (as := [a1]) hX hct hdg hb k1 k2 k3 k4 k5 k6 hrm.1 hrm.2 hc hs hW hmc pn hpn kr kt
theorem g_cF1r (hX : g_ok E X M) {a1 : Value} {b ci count : Nat} {x : MethodName} {fs : List Value} {v : Value} (hct : g_Rd X.l M' fr lo (.ref b :: [a1]) E h (some v)) (hdg : decode M.cc pc = .ok (.invokeinterface index count, 5)) (hb : h b = some (.inr (ci, fs))) (hk : g_kF M.y.cls index x M' 1 ci) (hrm : g_rm X fr lo M'.nl wt) (hc : cs ≤ X.R.cells) (hs : ss ≤ X.R.slots) (hW : (rest.map fun v => v.category).sum ≤ wt) (pn : Nat) (hpn : pc + 5 = pn)
    (kr : g_Go E X P h z cs ss pn L (v :: rest)) : g_Go E X P h z cs ss pc L (a1 :: .ref b :: rest) :=
  g_cF1 (mc := 0) (ms := 0) hX hct hdg hb hk hrm hc hs hW (fun _ => ⟨rfl, rfl⟩) pn hpn (fun v' h' q => by
    obtain ⟨q1, q2⟩ := q
    cases q1
    subst q2
    exact kr) (fun k h' q => by cases q.1)
theorem g_cF1v (hX : g_ok E X M) {a1 : Value} {b ci count : Nat} {x : MethodName} {fs : List Value} (hct : g_Rd X.l M' fr lo (.ref b :: [a1]) E h none) (hdg : decode M.cc pc = .ok (.invokeinterface index count, 5)) (hb : h b = some (.inr (ci, fs))) (hk : g_kF M.y.cls index x M' 1 ci) (hrm : g_rm X fr lo M'.nl wt) (hc : cs ≤ X.R.cells) (hs : ss ≤ X.R.slots) (hW : (rest.map fun v => v.category).sum ≤ wt) (pn : Nat) (hpn : pc + 5 = pn)
    (kr : g_Go E X P h z cs ss pn L (rest)) : g_Go E X P h z cs ss pc L (a1 :: .ref b :: rest) :=
  g_cF1 (mc := 0) (ms := 0) hX hct hdg hb hk hrm hc hs hW (fun _ => ⟨rfl, rfl⟩) pn hpn (fun v' h' q => by
    obtain ⟨q1, q2⟩ := q
    cases q1
    subst q2
    exact kr) (fun k h' q => by cases q.1)
theorem g_cS2 (hX : g_ok E X M) {a1 a2 : Value} (hct : g_Ct X.l M' fr lo mc ms [a1, a2] E h P') (hdg : decode M.cc pc = .ok (.invokestatic index, 3)) (hk : g_kS M.y.cls index M' 2) (hrm : g_rm X fr lo M'.nl wt) (hc : cs + mc ≤ X.R.cells) (hs : ss + ms ≤ X.R.slots) (hW : (rest.map fun v => v.category).sum ≤ wt) (hmc : P'.1 = true → mc = 0 ∧ ms = 0) (pn : Nat) (hpn : pc + 3 = pn)
    (kr : ∀ (v : Option Value) (h' : g_H), P'.2 (.inr v) h' → g_Go E X P h' (P'.1 && z) (cs + mc) (ss + ms) pn L (v.toList ++ rest)) (kt : ∀ (k : Nat) (h' : g_H), P'.2 (.inl k) h' → g_Th E X P h' (cs + mc) (ss + ms) pc L k) : g_Go E X P h z cs ss pc L (a2 :: a1 :: rest) :=
  g_callS (as := [a1, a2]) hX hct hdg hk.1 hk.2.1 hk.2.2.1 hk.2.2.2.1 hk.2.2.2.2 hrm.1 hrm.2 hc hs hW hmc pn hpn kr kt
theorem g_cS2r (hX : g_ok E X M) {a1 a2 : Value} {v : Value} (hct : g_Rd X.l M' fr lo [a1, a2] E h (some v)) (hdg : decode M.cc pc = .ok (.invokestatic index, 3)) (hk : g_kS M.y.cls index M' 2) (hrm : g_rm X fr lo M'.nl wt) (hc : cs ≤ X.R.cells) (hs : ss ≤ X.R.slots) (hW : (rest.map fun v => v.category).sum ≤ wt) (pn : Nat) (hpn : pc + 3 = pn)
    (kr : g_Go E X P h z cs ss pn L (v :: rest)) : g_Go E X P h z cs ss pc L (a2 :: a1 :: rest) :=
  g_cS2 (mc := 0) (ms := 0) hX hct hdg hk hrm hc hs hW (fun _ => ⟨rfl, rfl⟩) pn hpn (fun v' h' q => by
    obtain ⟨q1, q2⟩ := q
    cases q1
    subst q2
    exact kr) (fun k h' q => by cases q.1)
theorem g_cS2v (hX : g_ok E X M) {a1 a2 : Value} (hct : g_Rd X.l M' fr lo [a1, a2] E h none) (hdg : decode M.cc pc = .ok (.invokestatic index, 3)) (hk : g_kS M.y.cls index M' 2) (hrm : g_rm X fr lo M'.nl wt) (hc : cs ≤ X.R.cells) (hs : ss ≤ X.R.slots) (hW : (rest.map fun v => v.category).sum ≤ wt) (pn : Nat) (hpn : pc + 3 = pn)
    (kr : g_Go E X P h z cs ss pn L (rest)) : g_Go E X P h z cs ss pc L (a2 :: a1 :: rest) :=
  g_cS2 (mc := 0) (ms := 0) hX hct hdg hk hrm hc hs hW (fun _ => ⟨rfl, rfl⟩) pn hpn (fun v' h' q => by
    obtain ⟨q1, q2⟩ := q
    cases q1
    subst q2
    exact kr) (fun k h' q => by cases q.1)
theorem g_cV2 (hX : g_ok E X M) {a1 a2 : Value} {b ci : Nat} {fs : List Value} (hct : g_Ct X.l M' fr lo mc ms (.ref b :: [a1, a2]) E h P') (hdg : decode M.cc pc = .ok (.invokevirtual index, 3)) (hb : h b = some (.inr (ci, fs))) (hk : g_kV M.y.cls index M' 2 ci) (hrm : g_rm X fr lo M'.nl wt) (hc : cs + mc ≤ X.R.cells) (hs : ss + ms ≤ X.R.slots) (hW : (rest.map fun v => v.category).sum ≤ wt) (hmc : P'.1 = true → mc = 0 ∧ ms = 0) (pn : Nat) (hpn : pc + 3 = pn)
    (kr : ∀ (v : Option Value) (h' : g_H), P'.2 (.inr v) h' → g_Go E X P h' (P'.1 && z) (cs + mc) (ss + ms) pn L (v.toList ++ rest)) (kt : ∀ (k : Nat) (h' : g_H), P'.2 (.inl k) h' → g_Th E X P h' (cs + mc) (ss + ms) pc L k) : g_Go E X P h z cs ss pc L (a2 :: a1 :: .ref b :: rest) :=
  by
  obtain ⟨C, T0, N, k1, k2, k3, k4, k5, k6, k7⟩ := hk
  exact g_callV (as := [a1, a2]) hX hct hdg hb k1 k2 k3 k4 k5 k6 k7 hrm.1 hrm.2 hc hs hW hmc pn hpn kr kt
theorem g_cV2r (hX : g_ok E X M) {a1 a2 : Value} {b ci : Nat} {fs : List Value} {v : Value} (hct : g_Rd X.l M' fr lo (.ref b :: [a1, a2]) E h (some v)) (hdg : decode M.cc pc = .ok (.invokevirtual index, 3)) (hb : h b = some (.inr (ci, fs))) (hk : g_kV M.y.cls index M' 2 ci) (hrm : g_rm X fr lo M'.nl wt) (hc : cs ≤ X.R.cells) (hs : ss ≤ X.R.slots) (hW : (rest.map fun v => v.category).sum ≤ wt) (pn : Nat) (hpn : pc + 3 = pn)
    (kr : g_Go E X P h z cs ss pn L (v :: rest)) : g_Go E X P h z cs ss pc L (a2 :: a1 :: .ref b :: rest) :=
  g_cV2 (mc := 0) (ms := 0) hX hct hdg hb hk hrm hc hs hW (fun _ => ⟨rfl, rfl⟩) pn hpn (fun v' h' q => by
    obtain ⟨q1, q2⟩ := q
    cases q1
    subst q2
    exact kr) (fun k h' q => by cases q.1)
theorem g_cV2v (hX : g_ok E X M) {a1 a2 : Value} {b ci : Nat} {fs : List Value} (hct : g_Rd X.l M' fr lo (.ref b :: [a1, a2]) E h none) (hdg : decode M.cc pc = .ok (.invokevirtual index, 3)) (hb : h b = some (.inr (ci, fs))) (hk : g_kV M.y.cls index M' 2 ci) (hrm : g_rm X fr lo M'.nl wt) (hc : cs ≤ X.R.cells) (hs : ss ≤ X.R.slots) (hW : (rest.map fun v => v.category).sum ≤ wt) (pn : Nat) (hpn : pc + 3 = pn)
    (kr : g_Go E X P h z cs ss pn L (rest)) : g_Go E X P h z cs ss pc L (a2 :: a1 :: .ref b :: rest) :=
  g_cV2 (mc := 0) (ms := 0) hX hct hdg hb hk hrm hc hs hW (fun _ => ⟨rfl, rfl⟩) pn hpn (fun v' h' q => by
    obtain ⟨q1, q2⟩ := q
    cases q1
    subst q2
    exact kr) (fun k h' q => by cases q.1)
theorem g_cI2 (hX : g_ok E X M) {a1 a2 : Value} {b : Nat} (hct : g_Ct X.l M' fr lo mc ms (.ref b :: [a1, a2]) E h P') (hdg : decode M.cc pc = .ok (.invokespecial index, 3)) (hk : g_kI M.y.cls index M' 2) (hrm : g_rm X fr lo M'.nl wt) (hc : cs + mc ≤ X.R.cells) (hs : ss + ms ≤ X.R.slots) (hW : (rest.map fun v => v.category).sum ≤ wt) (hmc : P'.1 = true → mc = 0 ∧ ms = 0) (pn : Nat) (hpn : pc + 3 = pn)
    (kr : ∀ (v : Option Value) (h' : g_H), P'.2 (.inr v) h' → g_Go E X P h' (P'.1 && z) (cs + mc) (ss + ms) pn L (v.toList ++ rest)) (kt : ∀ (k : Nat) (h' : g_H), P'.2 (.inl k) h' → g_Th E X P h' (cs + mc) (ss + ms) pc L k) : g_Go E X P h z cs ss pc L (a2 :: a1 :: .ref b :: rest) :=
  g_callI (as := [a1, a2]) hX hk.1.1 hk.1.2.1 hk.1.2.2 hct hdg hk.2.1 hk.2.2.1 hk.2.2.2.1 hk.2.2.2.2.1 hk.2.2.2.2.2 hrm.1 hrm.2 hc hs hW hmc pn hpn kr kt
theorem g_cI2r (hX : g_ok E X M) {a1 a2 : Value} {b : Nat} {v : Value} (hct : g_Rd X.l M' fr lo (.ref b :: [a1, a2]) E h (some v)) (hdg : decode M.cc pc = .ok (.invokespecial index, 3)) (hk : g_kI M.y.cls index M' 2) (hrm : g_rm X fr lo M'.nl wt) (hc : cs ≤ X.R.cells) (hs : ss ≤ X.R.slots) (hW : (rest.map fun v => v.category).sum ≤ wt) (pn : Nat) (hpn : pc + 3 = pn)
    (kr : g_Go E X P h z cs ss pn L (v :: rest)) : g_Go E X P h z cs ss pc L (a2 :: a1 :: .ref b :: rest) :=
  g_cI2 (mc := 0) (ms := 0) hX hct hdg hk hrm hc hs hW (fun _ => ⟨rfl, rfl⟩) pn hpn (fun v' h' q => by
    obtain ⟨q1, q2⟩ := q
    cases q1
    subst q2
    exact kr) (fun k h' q => by cases q.1)
theorem g_cI2v (hX : g_ok E X M) {a1 a2 : Value} {b : Nat} (hct : g_Rd X.l M' fr lo (.ref b :: [a1, a2]) E h none) (hdg : decode M.cc pc = .ok (.invokespecial index, 3)) (hk : g_kI M.y.cls index M' 2) (hrm : g_rm X fr lo M'.nl wt) (hc : cs ≤ X.R.cells) (hs : ss ≤ X.R.slots) (hW : (rest.map fun v => v.category).sum ≤ wt) (pn : Nat) (hpn : pc + 3 = pn)
    (kr : g_Go E X P h z cs ss pn L (rest)) : g_Go E X P h z cs ss pc L (a2 :: a1 :: .ref b :: rest) :=
  g_cI2 (mc := 0) (ms := 0) hX hct hdg hk hrm hc hs hW (fun _ => ⟨rfl, rfl⟩) pn hpn (fun v' h' q => by
    obtain ⟨q1, q2⟩ := q
    cases q1
    subst q2
    exact kr) (fun k h' q => by cases q.1)
theorem g_cF2 (hX : g_ok E X M) {a1 a2 : Value} {b ci count : Nat} {x : MethodName} {fs : List Value} (hct : g_Ct X.l M' fr lo mc ms (.ref b :: [a1, a2]) E h P') (hdg : decode M.cc pc = .ok (.invokeinterface index count, 5)) (hb : h b = some (.inr (ci, fs))) (hk : g_kF M.y.cls index x M' 2 ci) (hrm : g_rm X fr lo M'.nl wt) (hc : cs + mc ≤ X.R.cells) (hs : ss + ms ≤ X.R.slots) (hW : (rest.map fun v => v.category).sum ≤ wt) (hmc : P'.1 = true → mc = 0 ∧ ms = 0) (pn : Nat) (hpn : pc + 5 = pn)
    (kr : ∀ (v : Option Value) (h' : g_H), P'.2 (.inr v) h' → g_Go E X P h' (P'.1 && z) (cs + mc) (ss + ms) pn L (v.toList ++ rest)) (kt : ∀ (k : Nat) (h' : g_H), P'.2 (.inl k) h' → g_Th E X P h' (cs + mc) (ss + ms) pc L k) : g_Go E X P h z cs ss pc L (a2 :: a1 :: .ref b :: rest) :=
  by
  obtain ⟨C, T0, N, k1, k2, k3, k4, k5, k6⟩ := hk
  exact g_callF (as := [a1, a2]) hX hct hdg hb k1 k2 k3 k4 k5 k6 hrm.1 hrm.2 hc hs hW hmc pn hpn kr kt
theorem g_cF2r (hX : g_ok E X M) {a1 a2 : Value} {b ci count : Nat} {x : MethodName} {fs : List Value} {v : Value} (hct : g_Rd X.l M' fr lo (.ref b :: [a1, a2]) E h (some v)) (hdg : decode M.cc pc = .ok (.invokeinterface index count, 5)) (hb : h b = some (.inr (ci, fs))) (hk : g_kF M.y.cls index x M' 2 ci) (hrm : g_rm X fr lo M'.nl wt) (hc : cs ≤ X.R.cells) (hs : ss ≤ X.R.slots) (hW : (rest.map fun v => v.category).sum ≤ wt) (pn : Nat) (hpn : pc + 5 = pn)
    (kr : g_Go E X P h z cs ss pn L (v :: rest)) : g_Go E X P h z cs ss pc L (a2 :: a1 :: .ref b :: rest) :=
  g_cF2 (mc := 0) (ms := 0) hX hct hdg hb hk hrm hc hs hW (fun _ => ⟨rfl, rfl⟩) pn hpn (fun v' h' q => by
    obtain ⟨q1, q2⟩ := q
    cases q1
    subst q2
    exact kr) (fun k h' q => by cases q.1)
theorem g_cF2v (hX : g_ok E X M) {a1 a2 : Value} {b ci count : Nat} {x : MethodName} {fs : List Value} (hct : g_Rd X.l M' fr lo (.ref b :: [a1, a2]) E h none) (hdg : decode M.cc pc = .ok (.invokeinterface index count, 5)) (hb : h b = some (.inr (ci, fs))) (hk : g_kF M.y.cls index x M' 2 ci) (hrm : g_rm X fr lo M'.nl wt) (hc : cs ≤ X.R.cells) (hs : ss ≤ X.R.slots) (hW : (rest.map fun v => v.category).sum ≤ wt) (pn : Nat) (hpn : pc + 5 = pn)
    (kr : g_Go E X P h z cs ss pn L (rest)) : g_Go E X P h z cs ss pc L (a2 :: a1 :: .ref b :: rest) :=
  g_cF2 (mc := 0) (ms := 0) hX hct hdg hb hk hrm hc hs hW (fun _ => ⟨rfl, rfl⟩) pn hpn (fun v' h' q => by
    obtain ⟨q1, q2⟩ := q
    cases q1
    subst q2
    exact kr) (fun k h' q => by cases q.1)
theorem g_cS3 (hX : g_ok E X M) {a1 a2 a3 : Value} (hct : g_Ct X.l M' fr lo mc ms [a1, a2, a3] E h P') (hdg : decode M.cc pc = .ok (.invokestatic index, 3)) (hk : g_kS M.y.cls index M' 3) (hrm : g_rm X fr lo M'.nl wt) (hc : cs + mc ≤ X.R.cells) (hs : ss + ms ≤ X.R.slots) (hW : (rest.map fun v => v.category).sum ≤ wt) (hmc : P'.1 = true → mc = 0 ∧ ms = 0) (pn : Nat) (hpn : pc + 3 = pn)
    (kr : ∀ (v : Option Value) (h' : g_H), P'.2 (.inr v) h' → g_Go E X P h' (P'.1 && z) (cs + mc) (ss + ms) pn L (v.toList ++ rest)) (kt : ∀ (k : Nat) (h' : g_H), P'.2 (.inl k) h' → g_Th E X P h' (cs + mc) (ss + ms) pc L k) : g_Go E X P h z cs ss pc L (a3 :: a2 :: a1 :: rest) :=
  g_callS (as := [a1, a2, a3]) hX hct hdg hk.1 hk.2.1 hk.2.2.1 hk.2.2.2.1 hk.2.2.2.2 hrm.1 hrm.2 hc hs hW hmc pn hpn kr kt
theorem g_cS3r (hX : g_ok E X M) {a1 a2 a3 : Value} {v : Value} (hct : g_Rd X.l M' fr lo [a1, a2, a3] E h (some v)) (hdg : decode M.cc pc = .ok (.invokestatic index, 3)) (hk : g_kS M.y.cls index M' 3) (hrm : g_rm X fr lo M'.nl wt) (hc : cs ≤ X.R.cells) (hs : ss ≤ X.R.slots) (hW : (rest.map fun v => v.category).sum ≤ wt) (pn : Nat) (hpn : pc + 3 = pn)
    (kr : g_Go E X P h z cs ss pn L (v :: rest)) : g_Go E X P h z cs ss pc L (a3 :: a2 :: a1 :: rest) :=
  g_cS3 (mc := 0) (ms := 0) hX hct hdg hk hrm hc hs hW (fun _ => ⟨rfl, rfl⟩) pn hpn (fun v' h' q => by
    obtain ⟨q1, q2⟩ := q
    cases q1
    subst q2
    exact kr) (fun k h' q => by cases q.1)
theorem g_cS3v (hX : g_ok E X M) {a1 a2 a3 : Value} (hct : g_Rd X.l M' fr lo [a1, a2, a3] E h none) (hdg : decode M.cc pc = .ok (.invokestatic index, 3)) (hk : g_kS M.y.cls index M' 3) (hrm : g_rm X fr lo M'.nl wt) (hc : cs ≤ X.R.cells) (hs : ss ≤ X.R.slots) (hW : (rest.map fun v => v.category).sum ≤ wt) (pn : Nat) (hpn : pc + 3 = pn)
    (kr : g_Go E X P h z cs ss pn L (rest)) : g_Go E X P h z cs ss pc L (a3 :: a2 :: a1 :: rest) :=
  g_cS3 (mc := 0) (ms := 0) hX hct hdg hk hrm hc hs hW (fun _ => ⟨rfl, rfl⟩) pn hpn (fun v' h' q => by
    obtain ⟨q1, q2⟩ := q
    cases q1
    subst q2
    exact kr) (fun k h' q => by cases q.1)
theorem g_cV3 (hX : g_ok E X M) {a1 a2 a3 : Value} {b ci : Nat} {fs : List Value} (hct : g_Ct X.l M' fr lo mc ms (.ref b :: [a1, a2, a3]) E h P') (hdg : decode M.cc pc = .ok (.invokevirtual index, 3)) (hb : h b = some (.inr (ci, fs))) (hk : g_kV M.y.cls index M' 3 ci) (hrm : g_rm X fr lo M'.nl wt) (hc : cs + mc ≤ X.R.cells) (hs : ss + ms ≤ X.R.slots) (hW : (rest.map fun v => v.category).sum ≤ wt) (hmc : P'.1 = true → mc = 0 ∧ ms = 0) (pn : Nat) (hpn : pc + 3 = pn)
    (kr : ∀ (v : Option Value) (h' : g_H), P'.2 (.inr v) h' → g_Go E X P h' (P'.1 && z) (cs + mc) (ss + ms) pn L (v.toList ++ rest)) (kt : ∀ (k : Nat) (h' : g_H), P'.2 (.inl k) h' → g_Th E X P h' (cs + mc) (ss + ms) pc L k) : g_Go E X P h z cs ss pc L (a3 :: a2 :: a1 :: .ref b :: rest) :=
  by
  obtain ⟨C, T0, N, k1, k2, k3, k4, k5, k6, k7⟩ := hk
  exact g_callV (as := [a1, a2, a3]) hX hct hdg hb k1 k2 k3 k4 k5 k6 k7 hrm.1 hrm.2 hc hs hW hmc pn hpn kr kt
theorem g_cV3r (hX : g_ok E X M) {a1 a2 a3 : Value} {b ci : Nat} {fs : List Value} {v : Value} (hct : g_Rd X.l M' fr lo (.ref b :: [a1, a2, a3]) E h (some v)) (hdg : decode M.cc pc = .ok (.invokevirtual index, 3)) (hb : h b = some (.inr (ci, fs))) (hk : g_kV M.y.cls index M' 3 ci) (hrm : g_rm X fr lo M'.nl wt) (hc : cs ≤ X.R.cells) (hs : ss ≤ X.R.slots) (hW : (rest.map fun v => v.category).sum ≤ wt) (pn : Nat) (hpn : pc + 3 = pn)
    (kr : g_Go E X P h z cs ss pn L (v :: rest)) : g_Go E X P h z cs ss pc L (a3 :: a2 :: a1 :: .ref b :: rest) :=
  g_cV3 (mc := 0) (ms := 0) hX hct hdg hb hk hrm hc hs hW (fun _ => ⟨rfl, rfl⟩) pn hpn (fun v' h' q => by
    obtain ⟨q1, q2⟩ := q
    cases q1
    subst q2
    exact kr) (fun k h' q => by cases q.1)
theorem g_cV3v (hX : g_ok E X M) {a1 a2 a3 : Value} {b ci : Nat} {fs : List Value} (hct : g_Rd X.l M' fr lo (.ref b :: [a1, a2, a3]) E h none) (hdg : decode M.cc pc = .ok (.invokevirtual index, 3)) (hb : h b = some (.inr (ci, fs))) (hk : g_kV M.y.cls index M' 3 ci) (hrm : g_rm X fr lo M'.nl wt) (hc : cs ≤ X.R.cells) (hs : ss ≤ X.R.slots) (hW : (rest.map fun v => v.category).sum ≤ wt) (pn : Nat) (hpn : pc + 3 = pn)
    (kr : g_Go E X P h z cs ss pn L (rest)) : g_Go E X P h z cs ss pc L (a3 :: a2 :: a1 :: .ref b :: rest) :=
  g_cV3 (mc := 0) (ms := 0) hX hct hdg hb hk hrm hc hs hW (fun _ => ⟨rfl, rfl⟩) pn hpn (fun v' h' q => by
    obtain ⟨q1, q2⟩ := q
    cases q1
    subst q2
    exact kr) (fun k h' q => by cases q.1)
theorem g_cI3 (hX : g_ok E X M) {a1 a2 a3 : Value} {b : Nat} (hct : g_Ct X.l M' fr lo mc ms (.ref b :: [a1, a2, a3]) E h P') (hdg : decode M.cc pc = .ok (.invokespecial index, 3)) (hk : g_kI M.y.cls index M' 3) (hrm : g_rm X fr lo M'.nl wt) (hc : cs + mc ≤ X.R.cells) (hs : ss + ms ≤ X.R.slots) (hW : (rest.map fun v => v.category).sum ≤ wt) (hmc : P'.1 = true → mc = 0 ∧ ms = 0) (pn : Nat) (hpn : pc + 3 = pn)
    (kr : ∀ (v : Option Value) (h' : g_H), P'.2 (.inr v) h' → g_Go E X P h' (P'.1 && z) (cs + mc) (ss + ms) pn L (v.toList ++ rest)) (kt : ∀ (k : Nat) (h' : g_H), P'.2 (.inl k) h' → g_Th E X P h' (cs + mc) (ss + ms) pc L k) : g_Go E X P h z cs ss pc L (a3 :: a2 :: a1 :: .ref b :: rest) :=
  g_callI (as := [a1, a2, a3]) hX hk.1.1 hk.1.2.1 hk.1.2.2 hct hdg hk.2.1 hk.2.2.1 hk.2.2.2.1 hk.2.2.2.2.1 hk.2.2.2.2.2 hrm.1 hrm.2 hc hs hW hmc pn hpn kr kt
theorem g_cI3r (hX : g_ok E X M) {a1 a2 a3 : Value} {b : Nat} {v : Value} (hct : g_Rd X.l M' fr lo (.ref b :: [a1, a2, a3]) E h (some v)) (hdg : decode M.cc pc = .ok (.invokespecial index, 3)) (hk : g_kI M.y.cls index M' 3) (hrm : g_rm X fr lo M'.nl wt) (hc : cs ≤ X.R.cells) (hs : ss ≤ X.R.slots) (hW : (rest.map fun v => v.category).sum ≤ wt) (pn : Nat) (hpn : pc + 3 = pn)
    (kr : g_Go E X P h z cs ss pn L (v :: rest)) : g_Go E X P h z cs ss pc L (a3 :: a2 :: a1 :: .ref b :: rest) :=
  g_cI3 (mc := 0) (ms := 0) hX hct hdg hk hrm hc hs hW (fun _ => ⟨rfl, rfl⟩) pn hpn (fun v' h' q => by
    obtain ⟨q1, q2⟩ := q
    cases q1
    subst q2
    exact kr) (fun k h' q => by cases q.1)
theorem g_cI3v (hX : g_ok E X M) {a1 a2 a3 : Value} {b : Nat} (hct : g_Rd X.l M' fr lo (.ref b :: [a1, a2, a3]) E h none) (hdg : decode M.cc pc = .ok (.invokespecial index, 3)) (hk : g_kI M.y.cls index M' 3) (hrm : g_rm X fr lo M'.nl wt) (hc : cs ≤ X.R.cells) (hs : ss ≤ X.R.slots) (hW : (rest.map fun v => v.category).sum ≤ wt) (pn : Nat) (hpn : pc + 3 = pn)
    (kr : g_Go E X P h z cs ss pn L (rest)) : g_Go E X P h z cs ss pc L (a3 :: a2 :: a1 :: .ref b :: rest) :=
  g_cI3 (mc := 0) (ms := 0) hX hct hdg hk hrm hc hs hW (fun _ => ⟨rfl, rfl⟩) pn hpn (fun v' h' q => by
    obtain ⟨q1, q2⟩ := q
    cases q1
    subst q2
    exact kr) (fun k h' q => by cases q.1)
theorem g_cS4 (hX : g_ok E X M) {a1 a2 a3 a4 : Value} (hct : g_Ct X.l M' fr lo mc ms [a1, a2, a3, a4] E h P') (hdg : decode M.cc pc = .ok (.invokestatic index, 3)) (hk : g_kS M.y.cls index M' 4) (hrm : g_rm X fr lo M'.nl wt) (hc : cs + mc ≤ X.R.cells) (hs : ss + ms ≤ X.R.slots) (hW : (rest.map fun v => v.category).sum ≤ wt) (hmc : P'.1 = true → mc = 0 ∧ ms = 0) (pn : Nat) (hpn : pc + 3 = pn)
    (kr : ∀ (v : Option Value) (h' : g_H), P'.2 (.inr v) h' → g_Go E X P h' (P'.1 && z) (cs + mc) (ss + ms) pn L (v.toList ++ rest)) (kt : ∀ (k : Nat) (h' : g_H), P'.2 (.inl k) h' → g_Th E X P h' (cs + mc) (ss + ms) pc L k) : g_Go E X P h z cs ss pc L (a4 :: a3 :: a2 :: a1 :: rest) :=
  g_callS (as := [a1, a2, a3, a4]) hX hct hdg hk.1 hk.2.1 hk.2.2.1 hk.2.2.2.1 hk.2.2.2.2 hrm.1 hrm.2 hc hs hW hmc pn hpn kr kt
theorem g_cS4r (hX : g_ok E X M) {a1 a2 a3 a4 : Value} {v : Value} (hct : g_Rd X.l M' fr lo [a1, a2, a3, a4] E h (some v)) (hdg : decode M.cc pc = .ok (.invokestatic index, 3)) (hk : g_kS M.y.cls index M' 4) (hrm : g_rm X fr lo M'.nl wt) (hc : cs ≤ X.R.cells) (hs : ss ≤ X.R.slots) (hW : (rest.map fun v => v.category).sum ≤ wt) (pn : Nat) (hpn : pc + 3 = pn)
    (kr : g_Go E X P h z cs ss pn L (v :: rest)) : g_Go E X P h z cs ss pc L (a4 :: a3 :: a2 :: a1 :: rest) :=
  g_cS4 (mc := 0) (ms := 0) hX hct hdg hk hrm hc hs hW (fun _ => ⟨rfl, rfl⟩) pn hpn (fun v' h' q => by
    obtain ⟨q1, q2⟩ := q
    cases q1
    subst q2
    exact kr) (fun k h' q => by cases q.1)
theorem g_cS4v (hX : g_ok E X M) {a1 a2 a3 a4 : Value} (hct : g_Rd X.l M' fr lo [a1, a2, a3, a4] E h none) (hdg : decode M.cc pc = .ok (.invokestatic index, 3)) (hk : g_kS M.y.cls index M' 4) (hrm : g_rm X fr lo M'.nl wt) (hc : cs ≤ X.R.cells) (hs : ss ≤ X.R.slots) (hW : (rest.map fun v => v.category).sum ≤ wt) (pn : Nat) (hpn : pc + 3 = pn)
    (kr : g_Go E X P h z cs ss pn L (rest)) : g_Go E X P h z cs ss pc L (a4 :: a3 :: a2 :: a1 :: rest) :=
  g_cS4 (mc := 0) (ms := 0) hX hct hdg hk hrm hc hs hW (fun _ => ⟨rfl, rfl⟩) pn hpn (fun v' h' q => by
    obtain ⟨q1, q2⟩ := q
    cases q1
    subst q2
    exact kr) (fun k h' q => by cases q.1)
theorem g_cV4 (hX : g_ok E X M) {a1 a2 a3 a4 : Value} {b ci : Nat} {fs : List Value} (hct : g_Ct X.l M' fr lo mc ms (.ref b :: [a1, a2, a3, a4]) E h P') (hdg : decode M.cc pc = .ok (.invokevirtual index, 3)) (hb : h b = some (.inr (ci, fs))) (hk : g_kV M.y.cls index M' 4 ci) (hrm : g_rm X fr lo M'.nl wt) (hc : cs + mc ≤ X.R.cells) (hs : ss + ms ≤ X.R.slots) (hW : (rest.map fun v => v.category).sum ≤ wt) (hmc : P'.1 = true → mc = 0 ∧ ms = 0) (pn : Nat) (hpn : pc + 3 = pn)
    (kr : ∀ (v : Option Value) (h' : g_H), P'.2 (.inr v) h' → g_Go E X P h' (P'.1 && z) (cs + mc) (ss + ms) pn L (v.toList ++ rest)) (kt : ∀ (k : Nat) (h' : g_H), P'.2 (.inl k) h' → g_Th E X P h' (cs + mc) (ss + ms) pc L k) : g_Go E X P h z cs ss pc L (a4 :: a3 :: a2 :: a1 :: .ref b :: rest) :=
  by
  obtain ⟨C, T0, N, k1, k2, k3, k4, k5, k6, k7⟩ := hk
  exact g_callV (as := [a1, a2, a3, a4]) hX hct hdg hb k1 k2 k3 k4 k5 k6 k7 hrm.1 hrm.2 hc hs hW hmc pn hpn kr kt
theorem g_cV4r (hX : g_ok E X M) {a1 a2 a3 a4 : Value} {b ci : Nat} {fs : List Value} {v : Value} (hct : g_Rd X.l M' fr lo (.ref b :: [a1, a2, a3, a4]) E h (some v)) (hdg : decode M.cc pc = .ok (.invokevirtual index, 3)) (hb : h b = some (.inr (ci, fs))) (hk : g_kV M.y.cls index M' 4 ci) (hrm : g_rm X fr lo M'.nl wt) (hc : cs ≤ X.R.cells) (hs : ss ≤ X.R.slots) (hW : (rest.map fun v => v.category).sum ≤ wt) (pn : Nat) (hpn : pc + 3 = pn)
    (kr : g_Go E X P h z cs ss pn L (v :: rest)) : g_Go E X P h z cs ss pc L (a4 :: a3 :: a2 :: a1 :: .ref b :: rest) :=
  g_cV4 (mc := 0) (ms := 0) hX hct hdg hb hk hrm hc hs hW (fun _ => ⟨rfl, rfl⟩) pn hpn (fun v' h' q => by
    obtain ⟨q1, q2⟩ := q
    cases q1
    subst q2
    exact kr) (fun k h' q => by cases q.1)
theorem g_cV4v (hX : g_ok E X M) {a1 a2 a3 a4 : Value} {b ci : Nat} {fs : List Value} (hct : g_Rd X.l M' fr lo (.ref b :: [a1, a2, a3, a4]) E h none) (hdg : decode M.cc pc = .ok (.invokevirtual index, 3)) (hb : h b = some (.inr (ci, fs))) (hk : g_kV M.y.cls index M' 4 ci) (hrm : g_rm X fr lo M'.nl wt) (hc : cs ≤ X.R.cells) (hs : ss ≤ X.R.slots) (hW : (rest.map fun v => v.category).sum ≤ wt) (pn : Nat) (hpn : pc + 3 = pn)
    (kr : g_Go E X P h z cs ss pn L (rest)) : g_Go E X P h z cs ss pc L (a4 :: a3 :: a2 :: a1 :: .ref b :: rest) :=
  g_cV4 (mc := 0) (ms := 0) hX hct hdg hb hk hrm hc hs hW (fun _ => ⟨rfl, rfl⟩) pn hpn (fun v' h' q => by
    obtain ⟨q1, q2⟩ := q
    cases q1
    subst q2
    exact kr) (fun k h' q => by cases q.1)
theorem g_cI4 (hX : g_ok E X M) {a1 a2 a3 a4 : Value} {b : Nat} (hct : g_Ct X.l M' fr lo mc ms (.ref b :: [a1, a2, a3, a4]) E h P') (hdg : decode M.cc pc = .ok (.invokespecial index, 3)) (hk : g_kI M.y.cls index M' 4) (hrm : g_rm X fr lo M'.nl wt) (hc : cs + mc ≤ X.R.cells) (hs : ss + ms ≤ X.R.slots) (hW : (rest.map fun v => v.category).sum ≤ wt) (hmc : P'.1 = true → mc = 0 ∧ ms = 0) (pn : Nat) (hpn : pc + 3 = pn)
    (kr : ∀ (v : Option Value) (h' : g_H), P'.2 (.inr v) h' → g_Go E X P h' (P'.1 && z) (cs + mc) (ss + ms) pn L (v.toList ++ rest)) (kt : ∀ (k : Nat) (h' : g_H), P'.2 (.inl k) h' → g_Th E X P h' (cs + mc) (ss + ms) pc L k) : g_Go E X P h z cs ss pc L (a4 :: a3 :: a2 :: a1 :: .ref b :: rest) :=
  g_callI (as := [a1, a2, a3, a4]) hX hk.1.1 hk.1.2.1 hk.1.2.2 hct hdg hk.2.1 hk.2.2.1 hk.2.2.2.1 hk.2.2.2.2.1 hk.2.2.2.2.2 hrm.1 hrm.2 hc hs hW hmc pn hpn kr kt
theorem g_cI4r (hX : g_ok E X M) {a1 a2 a3 a4 : Value} {b : Nat} {v : Value} (hct : g_Rd X.l M' fr lo (.ref b :: [a1, a2, a3, a4]) E h (some v)) (hdg : decode M.cc pc = .ok (.invokespecial index, 3)) (hk : g_kI M.y.cls index M' 4) (hrm : g_rm X fr lo M'.nl wt) (hc : cs ≤ X.R.cells) (hs : ss ≤ X.R.slots) (hW : (rest.map fun v => v.category).sum ≤ wt) (pn : Nat) (hpn : pc + 3 = pn)
    (kr : g_Go E X P h z cs ss pn L (v :: rest)) : g_Go E X P h z cs ss pc L (a4 :: a3 :: a2 :: a1 :: .ref b :: rest) :=
  g_cI4 (mc := 0) (ms := 0) hX hct hdg hk hrm hc hs hW (fun _ => ⟨rfl, rfl⟩) pn hpn (fun v' h' q => by
    obtain ⟨q1, q2⟩ := q
    cases q1
    subst q2
    exact kr) (fun k h' q => by cases q.1)
theorem g_cI4v (hX : g_ok E X M) {a1 a2 a3 a4 : Value} {b : Nat} (hct : g_Rd X.l M' fr lo (.ref b :: [a1, a2, a3, a4]) E h none) (hdg : decode M.cc pc = .ok (.invokespecial index, 3)) (hk : g_kI M.y.cls index M' 4) (hrm : g_rm X fr lo M'.nl wt) (hc : cs ≤ X.R.cells) (hs : ss ≤ X.R.slots) (hW : (rest.map fun v => v.category).sum ≤ wt) (pn : Nat) (hpn : pc + 3 = pn)
    (kr : g_Go E X P h z cs ss pn L (rest)) : g_Go E X P h z cs ss pc L (a4 :: a3 :: a2 :: a1 :: .ref b :: rest) :=
  g_cI4 (mc := 0) (ms := 0) hX hct hdg hk hrm hc hs hW (fun _ => ⟨rfl, rfl⟩) pn hpn (fun v' h' q => by
    obtain ⟨q1, q2⟩ := q
    cases q1
    subst q2
    exact kr) (fun k h' q => by cases q.1)
theorem g_cS5 (hX : g_ok E X M) {a1 a2 a3 a4 a5 : Value} (hct : g_Ct X.l M' fr lo mc ms [a1, a2, a3, a4, a5] E h P') (hdg : decode M.cc pc = .ok (.invokestatic index, 3)) (hk : g_kS M.y.cls index M' 5) (hrm : g_rm X fr lo M'.nl wt) (hc : cs + mc ≤ X.R.cells) (hs : ss + ms ≤ X.R.slots) (hW : (rest.map fun v => v.category).sum ≤ wt) (hmc : P'.1 = true → mc = 0 ∧ ms = 0) (pn : Nat) (hpn : pc + 3 = pn)
    (kr : ∀ (v : Option Value) (h' : g_H), P'.2 (.inr v) h' → g_Go E X P h' (P'.1 && z) (cs + mc) (ss + ms) pn L (v.toList ++ rest)) (kt : ∀ (k : Nat) (h' : g_H), P'.2 (.inl k) h' → g_Th E X P h' (cs + mc) (ss + ms) pc L k) : g_Go E X P h z cs ss pc L (a5 :: a4 :: a3 :: a2 :: a1 :: rest) :=
  g_callS (as := [a1, a2, a3, a4, a5]) hX hct hdg hk.1 hk.2.1 hk.2.2.1 hk.2.2.2.1 hk.2.2.2.2 hrm.1 hrm.2 hc hs hW hmc pn hpn kr kt
theorem g_cS5r (hX : g_ok E X M) {a1 a2 a3 a4 a5 : Value} {v : Value} (hct : g_Rd X.l M' fr lo [a1, a2, a3, a4, a5] E h (some v)) (hdg : decode M.cc pc = .ok (.invokestatic index, 3)) (hk : g_kS M.y.cls index M' 5) (hrm : g_rm X fr lo M'.nl wt) (hc : cs ≤ X.R.cells) (hs : ss ≤ X.R.slots) (hW : (rest.map fun v => v.category).sum ≤ wt) (pn : Nat) (hpn : pc + 3 = pn)
    (kr : g_Go E X P h z cs ss pn L (v :: rest)) : g_Go E X P h z cs ss pc L (a5 :: a4 :: a3 :: a2 :: a1 :: rest) :=
  g_cS5 (mc := 0) (ms := 0) hX hct hdg hk hrm hc hs hW (fun _ => ⟨rfl, rfl⟩) pn hpn (fun v' h' q => by
    obtain ⟨q1, q2⟩ := q
    cases q1
    subst q2
    exact kr) (fun k h' q => by cases q.1)
theorem g_cS5v (hX : g_ok E X M) {a1 a2 a3 a4 a5 : Value} (hct : g_Rd X.l M' fr lo [a1, a2, a3, a4, a5] E h none) (hdg : decode M.cc pc = .ok (.invokestatic index, 3)) (hk : g_kS M.y.cls index M' 5) (hrm : g_rm X fr lo M'.nl wt) (hc : cs ≤ X.R.cells) (hs : ss ≤ X.R.slots) (hW : (rest.map fun v => v.category).sum ≤ wt) (pn : Nat) (hpn : pc + 3 = pn)
    (kr : g_Go E X P h z cs ss pn L (rest)) : g_Go E X P h z cs ss pc L (a5 :: a4 :: a3 :: a2 :: a1 :: rest) :=
  g_cS5 (mc := 0) (ms := 0) hX hct hdg hk hrm hc hs hW (fun _ => ⟨rfl, rfl⟩) pn hpn (fun v' h' q => by
    obtain ⟨q1, q2⟩ := q
    cases q1
    subst q2
    exact kr) (fun k h' q => by cases q.1)
theorem g_cV5 (hX : g_ok E X M) {a1 a2 a3 a4 a5 : Value} {b ci : Nat} {fs : List Value} (hct : g_Ct X.l M' fr lo mc ms (.ref b :: [a1, a2, a3, a4, a5]) E h P') (hdg : decode M.cc pc = .ok (.invokevirtual index, 3)) (hb : h b = some (.inr (ci, fs))) (hk : g_kV M.y.cls index M' 5 ci) (hrm : g_rm X fr lo M'.nl wt) (hc : cs + mc ≤ X.R.cells) (hs : ss + ms ≤ X.R.slots) (hW : (rest.map fun v => v.category).sum ≤ wt) (hmc : P'.1 = true → mc = 0 ∧ ms = 0) (pn : Nat) (hpn : pc + 3 = pn)
    (kr : ∀ (v : Option Value) (h' : g_H), P'.2 (.inr v) h' → g_Go E X P h' (P'.1 && z) (cs + mc) (ss + ms) pn L (v.toList ++ rest)) (kt : ∀ (k : Nat) (h' : g_H), P'.2 (.inl k) h' → g_Th E X P h' (cs + mc) (ss + ms) pc L k) : g_Go E X P h z cs ss pc L (a5 :: a4 :: a3 :: a2 :: a1 :: .ref b :: rest) :=
  by
  obtain ⟨C, T0, N, k1, k2, k3, k4, k5, k6, k7⟩ := hk
  exact g_callV (as := [a1, a2, a3, a4, a5]) hX hct hdg hb k1 k2 k3 k4 k5 k6 k7 hrm.1 hrm.2 hc hs hW hmc pn hpn kr kt
theorem g_cV5r (hX : g_ok E X M) {a1 a2 a3 a4 a5 : Value} {b ci : Nat} {fs : List Value} {v : Value} (hct : g_Rd X.l M' fr lo (.ref b :: [a1, a2, a3, a4, a5]) E h (some v)) (hdg : decode M.cc pc = .ok (.invokevirtual index, 3)) (hb : h b = some (.inr (ci, fs))) (hk : g_kV M.y.cls index M' 5 ci) (hrm : g_rm X fr lo M'.nl wt) (hc : cs ≤ X.R.cells) (hs : ss ≤ X.R.slots) (hW : (rest.map fun v => v.category).sum ≤ wt) (pn : Nat) (hpn : pc + 3 = pn)
    (kr : g_Go E X P h z cs ss pn L (v :: rest)) : g_Go E X P h z cs ss pc L (a5 :: a4 :: a3 :: a2 :: a1 :: .ref b :: rest) :=
  g_cV5 (mc := 0) (ms := 0) hX hct hdg hb hk hrm hc hs hW (fun _ => ⟨rfl, rfl⟩) pn hpn (fun v' h' q => by
    obtain ⟨q1, q2⟩ := q
    cases q1
    subst q2
    exact kr) (fun k h' q => by cases q.1)
theorem g_cV5v (hX : g_ok E X M) {a1 a2 a3 a4 a5 : Value} {b ci : Nat} {fs : List Value} (hct : g_Rd X.l M' fr lo (.ref b :: [a1, a2, a3, a4, a5]) E h none) (hdg : decode M.cc pc = .ok (.invokevirtual index, 3)) (hb : h b = some (.inr (ci, fs))) (hk : g_kV M.y.cls index M' 5 ci) (hrm : g_rm X fr lo M'.nl wt) (hc : cs ≤ X.R.cells) (hs : ss ≤ X.R.slots) (hW : (rest.map fun v => v.category).sum ≤ wt) (pn : Nat) (hpn : pc + 3 = pn)
    (kr : g_Go E X P h z cs ss pn L (rest)) : g_Go E X P h z cs ss pc L (a5 :: a4 :: a3 :: a2 :: a1 :: .ref b :: rest) :=
  g_cV5 (mc := 0) (ms := 0) hX hct hdg hb hk hrm hc hs hW (fun _ => ⟨rfl, rfl⟩) pn hpn (fun v' h' q => by
    obtain ⟨q1, q2⟩ := q
    cases q1
    subst q2
    exact kr) (fun k h' q => by cases q.1)
theorem g_cI5 (hX : g_ok E X M) {a1 a2 a3 a4 a5 : Value} {b : Nat} (hct : g_Ct X.l M' fr lo mc ms (.ref b :: [a1, a2, a3, a4, a5]) E h P') (hdg : decode M.cc pc = .ok (.invokespecial index, 3)) (hk : g_kI M.y.cls index M' 5) (hrm : g_rm X fr lo M'.nl wt) (hc : cs + mc ≤ X.R.cells) (hs : ss + ms ≤ X.R.slots) (hW : (rest.map fun v => v.category).sum ≤ wt) (hmc : P'.1 = true → mc = 0 ∧ ms = 0) (pn : Nat) (hpn : pc + 3 = pn)
    (kr : ∀ (v : Option Value) (h' : g_H), P'.2 (.inr v) h' → g_Go E X P h' (P'.1 && z) (cs + mc) (ss + ms) pn L (v.toList ++ rest)) (kt : ∀ (k : Nat) (h' : g_H), P'.2 (.inl k) h' → g_Th E X P h' (cs + mc) (ss + ms) pc L k) : g_Go E X P h z cs ss pc L (a5 :: a4 :: a3 :: a2 :: a1 :: .ref b :: rest) :=
  g_callI (as := [a1, a2, a3, a4, a5]) hX hk.1.1 hk.1.2.1 hk.1.2.2 hct hdg hk.2.1 hk.2.2.1 hk.2.2.2.1 hk.2.2.2.2.1 hk.2.2.2.2.2 hrm.1 hrm.2 hc hs hW hmc pn hpn kr kt
theorem g_cI5r (hX : g_ok E X M) {a1 a2 a3 a4 a5 : Value} {b : Nat} {v : Value} (hct : g_Rd X.l M' fr lo (.ref b :: [a1, a2, a3, a4, a5]) E h (some v)) (hdg : decode M.cc pc = .ok (.invokespecial index, 3)) (hk : g_kI M.y.cls index M' 5) (hrm : g_rm X fr lo M'.nl wt) (hc : cs ≤ X.R.cells) (hs : ss ≤ X.R.slots) (hW : (rest.map fun v => v.category).sum ≤ wt) (pn : Nat) (hpn : pc + 3 = pn)
    (kr : g_Go E X P h z cs ss pn L (v :: rest)) : g_Go E X P h z cs ss pc L (a5 :: a4 :: a3 :: a2 :: a1 :: .ref b :: rest) :=
  g_cI5 (mc := 0) (ms := 0) hX hct hdg hk hrm hc hs hW (fun _ => ⟨rfl, rfl⟩) pn hpn (fun v' h' q => by
    obtain ⟨q1, q2⟩ := q
    cases q1
    subst q2
    exact kr) (fun k h' q => by cases q.1)
theorem g_cI5v (hX : g_ok E X M) {a1 a2 a3 a4 a5 : Value} {b : Nat} (hct : g_Rd X.l M' fr lo (.ref b :: [a1, a2, a3, a4, a5]) E h none) (hdg : decode M.cc pc = .ok (.invokespecial index, 3)) (hk : g_kI M.y.cls index M' 5) (hrm : g_rm X fr lo M'.nl wt) (hc : cs ≤ X.R.cells) (hs : ss ≤ X.R.slots) (hW : (rest.map fun v => v.category).sum ≤ wt) (pn : Nat) (hpn : pc + 3 = pn)
    (kr : g_Go E X P h z cs ss pn L (rest)) : g_Go E X P h z cs ss pc L (a5 :: a4 :: a3 :: a2 :: a1 :: .ref b :: rest) :=
  g_cI5 (mc := 0) (ms := 0) hX hct hdg hk hrm hc hs hW (fun _ => ⟨rfl, rfl⟩) pn hpn (fun v' h' q => by
    obtain ⟨q1, q2⟩ := q
    cases q1
    subst q2
    exact kr) (fun k h' q => by cases q.1)
theorem g_cS6 (hX : g_ok E X M) {a1 a2 a3 a4 a5 a6 : Value} (hct : g_Ct X.l M' fr lo mc ms [a1, a2, a3, a4, a5, a6] E h P') (hdg : decode M.cc pc = .ok (.invokestatic index, 3)) (hk : g_kS M.y.cls index M' 6) (hrm : g_rm X fr lo M'.nl wt) (hc : cs + mc ≤ X.R.cells) (hs : ss + ms ≤ X.R.slots) (hW : (rest.map fun v => v.category).sum ≤ wt) (hmc : P'.1 = true → mc = 0 ∧ ms = 0) (pn : Nat) (hpn : pc + 3 = pn)
    (kr : ∀ (v : Option Value) (h' : g_H), P'.2 (.inr v) h' → g_Go E X P h' (P'.1 && z) (cs + mc) (ss + ms) pn L (v.toList ++ rest)) (kt : ∀ (k : Nat) (h' : g_H), P'.2 (.inl k) h' → g_Th E X P h' (cs + mc) (ss + ms) pc L k) : g_Go E X P h z cs ss pc L (a6 :: a5 :: a4 :: a3 :: a2 :: a1 :: rest) :=
  g_callS (as := [a1, a2, a3, a4, a5, a6]) hX hct hdg hk.1 hk.2.1 hk.2.2.1 hk.2.2.2.1 hk.2.2.2.2 hrm.1 hrm.2 hc hs hW hmc pn hpn kr kt
theorem g_cS6r (hX : g_ok E X M) {a1 a2 a3 a4 a5 a6 : Value} {v : Value} (hct : g_Rd X.l M' fr lo [a1, a2, a3, a4, a5, a6] E h (some v)) (hdg : decode M.cc pc = .ok (.invokestatic index, 3)) (hk : g_kS M.y.cls index M' 6) (hrm : g_rm X fr lo M'.nl wt) (hc : cs ≤ X.R.cells) (hs : ss ≤ X.R.slots) (hW : (rest.map fun v => v.category).sum ≤ wt) (pn : Nat) (hpn : pc + 3 = pn)
    (kr : g_Go E X P h z cs ss pn L (v :: rest)) : g_Go E X P h z cs ss pc L (a6 :: a5 :: a4 :: a3 :: a2 :: a1 :: rest) :=
  g_cS6 (mc := 0) (ms := 0) hX hct hdg hk hrm hc hs hW (fun _ => ⟨rfl, rfl⟩) pn hpn (fun v' h' q => by
    obtain ⟨q1, q2⟩ := q
    cases q1
    subst q2
    exact kr) (fun k h' q => by cases q.1)
theorem g_cS6v (hX : g_ok E X M) {a1 a2 a3 a4 a5 a6 : Value} (hct : g_Rd X.l M' fr lo [a1, a2, a3, a4, a5, a6] E h none) (hdg : decode M.cc pc = .ok (.invokestatic index, 3)) (hk : g_kS M.y.cls index M' 6) (hrm : g_rm X fr lo M'.nl wt) (hc : cs ≤ X.R.cells) (hs : ss ≤ X.R.slots) (hW : (rest.map fun v => v.category).sum ≤ wt) (pn : Nat) (hpn : pc + 3 = pn)
    (kr : g_Go E X P h z cs ss pn L (rest)) : g_Go E X P h z cs ss pc L (a6 :: a5 :: a4 :: a3 :: a2 :: a1 :: rest) :=
  g_cS6 (mc := 0) (ms := 0) hX hct hdg hk hrm hc hs hW (fun _ => ⟨rfl, rfl⟩) pn hpn (fun v' h' q => by
    obtain ⟨q1, q2⟩ := q
    cases q1
    subst q2
    exact kr) (fun k h' q => by cases q.1)
theorem g_cV6 (hX : g_ok E X M) {a1 a2 a3 a4 a5 a6 : Value} {b ci : Nat} {fs : List Value} (hct : g_Ct X.l M' fr lo mc ms (.ref b :: [a1, a2, a3, a4, a5, a6]) E h P') (hdg : decode M.cc pc = .ok (.invokevirtual index, 3)) (hb : h b = some (.inr (ci, fs))) (hk : g_kV M.y.cls index M' 6 ci) (hrm : g_rm X fr lo M'.nl wt) (hc : cs + mc ≤ X.R.cells) (hs : ss + ms ≤ X.R.slots) (hW : (rest.map fun v => v.category).sum ≤ wt) (hmc : P'.1 = true → mc = 0 ∧ ms = 0) (pn : Nat) (hpn : pc + 3 = pn)
    (kr : ∀ (v : Option Value) (h' : g_H), P'.2 (.inr v) h' → g_Go E X P h' (P'.1 && z) (cs + mc) (ss + ms) pn L (v.toList ++ rest)) (kt : ∀ (k : Nat) (h' : g_H), P'.2 (.inl k) h' → g_Th E X P h' (cs + mc) (ss + ms) pc L k) : g_Go E X P h z cs ss pc L (a6 :: a5 :: a4 :: a3 :: a2 :: a1 :: .ref b :: rest) :=
  by
  obtain ⟨C, T0, N, k1, k2, k3, k4, k5, k6, k7⟩ := hk
  exact g_callV (as := [a1, a2, a3, a4, a5, a6]) hX hct hdg hb k1 k2 k3 k4 k5 k6 k7 hrm.1 hrm.2 hc hs hW hmc pn hpn kr kt
theorem g_cV6r (hX : g_ok E X M) {a1 a2 a3 a4 a5 a6 : Value} {b ci : Nat} {fs : List Value} {v : Value} (hct : g_Rd X.l M' fr lo (.ref b :: [a1, a2, a3, a4, a5, a6]) E h (some v)) (hdg : decode M.cc pc = .ok (.invokevirtual index, 3)) (hb : h b = some (.inr (ci, fs))) (hk : g_kV M.y.cls index M' 6 ci) (hrm : g_rm X fr lo M'.nl wt) (hc : cs ≤ X.R.cells) (hs : ss ≤ X.R.slots) (hW : (rest.map fun v => v.category).sum ≤ wt) (pn : Nat) (hpn : pc + 3 = pn)
    (kr : g_Go E X P h z cs ss pn L (v :: rest)) : g_Go E X P h z cs ss pc L (a6 :: a5 :: a4 :: a3 :: a2 :: a1 :: .ref b :: rest) :=
  g_cV6 (mc := 0) (ms := 0) hX hct hdg hb hk hrm hc hs hW (fun _ => ⟨rfl, rfl⟩) pn hpn (fun v' h' q => by
    obtain ⟨q1, q2⟩ := q
    cases q1
    subst q2
    exact kr) (fun k h' q => by cases q.1)
theorem g_cV6v (hX : g_ok E X M) {a1 a2 a3 a4 a5 a6 : Value} {b ci : Nat} {fs : List Value} (hct : g_Rd X.l M' fr lo (.ref b :: [a1, a2, a3, a4, a5, a6]) E h none) (hdg : decode M.cc pc = .ok (.invokevirtual index, 3)) (hb : h b = some (.inr (ci, fs))) (hk : g_kV M.y.cls index M' 6 ci) (hrm : g_rm X fr lo M'.nl wt) (hc : cs ≤ X.R.cells) (hs : ss ≤ X.R.slots) (hW : (rest.map fun v => v.category).sum ≤ wt) (pn : Nat) (hpn : pc + 3 = pn)
    (kr : g_Go E X P h z cs ss pn L (rest)) : g_Go E X P h z cs ss pc L (a6 :: a5 :: a4 :: a3 :: a2 :: a1 :: .ref b :: rest) :=
  g_cV6 (mc := 0) (ms := 0) hX hct hdg hb hk hrm hc hs hW (fun _ => ⟨rfl, rfl⟩) pn hpn (fun v' h' q => by
    obtain ⟨q1, q2⟩ := q
    cases q1
    subst q2
    exact kr) (fun k h' q => by cases q.1)
theorem g_cI6 (hX : g_ok E X M) {a1 a2 a3 a4 a5 a6 : Value} {b : Nat} (hct : g_Ct X.l M' fr lo mc ms (.ref b :: [a1, a2, a3, a4, a5, a6]) E h P') (hdg : decode M.cc pc = .ok (.invokespecial index, 3)) (hk : g_kI M.y.cls index M' 6) (hrm : g_rm X fr lo M'.nl wt) (hc : cs + mc ≤ X.R.cells) (hs : ss + ms ≤ X.R.slots) (hW : (rest.map fun v => v.category).sum ≤ wt) (hmc : P'.1 = true → mc = 0 ∧ ms = 0) (pn : Nat) (hpn : pc + 3 = pn)
    (kr : ∀ (v : Option Value) (h' : g_H), P'.2 (.inr v) h' → g_Go E X P h' (P'.1 && z) (cs + mc) (ss + ms) pn L (v.toList ++ rest)) (kt : ∀ (k : Nat) (h' : g_H), P'.2 (.inl k) h' → g_Th E X P h' (cs + mc) (ss + ms) pc L k) : g_Go E X P h z cs ss pc L (a6 :: a5 :: a4 :: a3 :: a2 :: a1 :: .ref b :: rest) :=
  g_callI (as := [a1, a2, a3, a4, a5, a6]) hX hk.1.1 hk.1.2.1 hk.1.2.2 hct hdg hk.2.1 hk.2.2.1 hk.2.2.2.1 hk.2.2.2.2.1 hk.2.2.2.2.2 hrm.1 hrm.2 hc hs hW hmc pn hpn kr kt
theorem g_cI6r (hX : g_ok E X M) {a1 a2 a3 a4 a5 a6 : Value} {b : Nat} {v : Value} (hct : g_Rd X.l M' fr lo (.ref b :: [a1, a2, a3, a4, a5, a6]) E h (some v)) (hdg : decode M.cc pc = .ok (.invokespecial index, 3)) (hk : g_kI M.y.cls index M' 6) (hrm : g_rm X fr lo M'.nl wt) (hc : cs ≤ X.R.cells) (hs : ss ≤ X.R.slots) (hW : (rest.map fun v => v.category).sum ≤ wt) (pn : Nat) (hpn : pc + 3 = pn)
    (kr : g_Go E X P h z cs ss pn L (v :: rest)) : g_Go E X P h z cs ss pc L (a6 :: a5 :: a4 :: a3 :: a2 :: a1 :: .ref b :: rest) :=
  g_cI6 (mc := 0) (ms := 0) hX hct hdg hk hrm hc hs hW (fun _ => ⟨rfl, rfl⟩) pn hpn (fun v' h' q => by
    obtain ⟨q1, q2⟩ := q
    cases q1
    subst q2
    exact kr) (fun k h' q => by cases q.1)
theorem g_cI6v (hX : g_ok E X M) {a1 a2 a3 a4 a5 a6 : Value} {b : Nat} (hct : g_Rd X.l M' fr lo (.ref b :: [a1, a2, a3, a4, a5, a6]) E h none) (hdg : decode M.cc pc = .ok (.invokespecial index, 3)) (hk : g_kI M.y.cls index M' 6) (hrm : g_rm X fr lo M'.nl wt) (hc : cs ≤ X.R.cells) (hs : ss ≤ X.R.slots) (hW : (rest.map fun v => v.category).sum ≤ wt) (pn : Nat) (hpn : pc + 3 = pn)
    (kr : g_Go E X P h z cs ss pn L (rest)) : g_Go E X P h z cs ss pc L (a6 :: a5 :: a4 :: a3 :: a2 :: a1 :: .ref b :: rest) :=
  g_cI6 (mc := 0) (ms := 0) hX hct hdg hk hrm hc hs hW (fun _ => ⟨rfl, rfl⟩) pn hpn (fun v' h' q => by
    obtain ⟨q1, q2⟩ := q
    cases q1
    subst q2
    exact kr) (fun k h' q => by cases q.1)
end GCALLR
