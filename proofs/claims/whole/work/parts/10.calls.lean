/-! calls: the callee's contract, both ends -/
set_option maxHeartbeats 4000000 in
theorem g_enter {E : g_E} {l : Launch} {M' : g_M} {fr lo mc ms : Nat} {as : List Value} {h : g_H} {P' : g_P} (hct : g_Ct l M' fr lo mc ms as E h P')
    {p : Program} {e : Env} {R : Room} {s : State} {m : MethodId} {args : Array Value} {below : List Frame} {meth : Method} {c : Code} {U : State} {locs : List Loc} {cs ss : Nat} (X : Stand p l e R s m args below meth c U locs cs ss)
    (hfr : fr + 1 ≤ R.frames) {wt : Nat} (hlo : wt + (M'.nl + 11) + lo ≤ R.locals) (hc : cs + mc ≤ R.cells) (hs : ss + ms ≤ R.slots)
    (hK : g_K E U) (hcw : g_cw M' ∈ g_wl) (hini : Cond.initialized M'.y.cls ∈ g_wl) (hV : g_V E.D h U.heap) (hB : g_B E.H0 U.heap)
    {g : JFrame} (hg : g.method = m) (hsize : g.locals.size = c.maxLocals) {ig : Instr} {len : Nat} (hdg : decode c.code g.pc = .ok (ig, len)) (hW : 2 * g.monitorRoom + (g.stack.map fun v => v.category).sum ≤ wt) {mk : MethodId} (hn : U.methodNamed? M'.y = some mk) :
    ∃ (r : g_R) (h' : g_H) (T' : State) (L : List Loc), P'.2 r h' ∧ Stand p l e R s m args below meth c T' (locs ++ L) (cs + mc) (ss + ms) ∧ (∀ q ∈ L, E.H0.size ≤ q.base) ∧ (P'.1 = true → L = [] ∧ T'.heap = U.heap) ∧ g_V E.D h' T'.heap ∧ g_B E.H0 T'.heap ∧
      ((∃ v : Option Value, r = .inr v ∧ Steps p.tables e below (doInvoke e (U.setTop g) [] mk as.toArray).1 (T'.setTop { g with pc := g.pc + len, stack := v.toList ++ g.stack })) ∨
       (∃ (k : Nat) (a : Addr) (cell : Cell), r = .inl k ∧ T'.heap[a]? = some cell ∧ cell.vm = .none ∧ T'.vm.findClass (g_xn k) = some cell.cls ∧ Steps p.tables e below (doInvoke e (U.setTop g) [] mk as.toArray).1 ((T'.setTop g).pushFrame (.throwing a)))) := by
  have h2 : (g_cw M').before as.toArray U = true := hK.w hcw
  have h3 : (Cond.initialized M'.y.cls).before as.toArray U = true := hK.w hini
  obtain ⟨methY, cY, hmY, hcY, -, hlY, -, -, -, -⟩ := g_cw_spec hn h2
  obtain ⟨kY, hkY, -⟩ := className_of_methodNamed hn
  have hinitY : kY.init = .initialized := Cond.initialized_spec (findClass_of_methodNamed hn) hkY h3
  have hA : At U g.method c below := by rw [hg]; exact X.here
  have hpre : (headSpec [g_cw M'] { frames := fr, cells := mc, slots := ms, locals := lo }).pre.before as.toArray U = true := atoms_intro fun w hw => by
    rw [List.mem_singleton] at hw
    subst hw
    exact h2
  have happ : (headSpec [g_cw M'] { frames := fr, cells := mc, slots := ms, locals := lo }).appliesLoose M'.y e.platform (U.calling g mk as.toArray) = true :=
    Spec.appliesLoose_calling (g := g) hA hdg hn hkY hinitY
      (X.room_calling (g := g) (R' := { frames := fr, cells := mc, slots := ms, locals := lo }) hsize hmY hcY hfr (by rw [hlY]; show _ + _ + lo ≤ _; omega) hc hs) hpre
  obtain ⟨mid, hmid⟩ := hA.above
  have hfr2 : (U.setTop g).frames = (.java g :: mid) ++ below := by rw [State.frames_setTop' g hA.top, hmid]; rfl
  have hP : as.toArray = as.toArray ∧ g_K E (U.calling g mk as.toArray) ∧ g_V E.D h (U.calling g mk as.toArray).heap ∧ g_B E.H0 (U.calling g mk as.toArray).heap :=
    ⟨rfl, hK.warm (State.WarmedH.refl U), hV, hB⟩
  obtain ⟨o, s₂, hsteps, -, hend, hq⟩ := Steps.callFree hct p X.admits X.cas X.clock (acts := []) hfr2 happ hP trivial
  have hq' : g_Z E mc ms P' (U.calling g mk as.toArray) o s₂ := hq
  rw [State.frames_setTop' g hA.top] at hend
  obtain ⟨⟨r, h', hPr, ho, hV', hB'⟩, hW₂, L, ⟨e2, q2, q3, q4, q5, q6⟩, hL, hpu⟩ := hq'
  have e3 : s₂ = ({ (U.calling g mk as.toArray).setFrames s₂.frames with heap := s₂.heap, slotsUsed := s₂.slotsUsed } : State).setVm s₂.vm := by
    have : s₂ = ({ s₂ with vm := (U.calling g mk as.toArray).vm } : State).setVm s₂.vm := rfl
    rw [e2] at this
    exact this
  have hW' : U.WarmedH s₂.vm := hW₂
  obtain ⟨g₀, hg0⟩ := Option.isSome_iff_exists.mp hA.top
  obtain ⟨rr, hr⟩ := State.topJava?_eq_some.mp hg0
  have hsame : U.sameButNew ({ U with heap := s₂.heap, slotsUsed := s₂.slotsUsed } : State) L mc ms := by
    refine ⟨?_, q2, q3, q4, q5, q6⟩
    obtain ⟨t, ht, -⟩ := State.frames_cons hr
    show ({ U with heap := s₂.heap, slotsUsed := s₂.slotsUsed } : State) = { U.setFrames U.frames with heap := s₂.heap, slotsUsed := s₂.slotsUsed }
    rw [State.setFrames_self ht]
  have hst : Stand p l e R s m args below meth c (({ U with heap := s₂.heap, slotsUsed := s₂.slotsUsed } : State).setVm s₂.vm) (locs ++ L) (cs + mc) (ss + ms) :=
    ⟨X.admits, X.cas, X.clock, X.frames, X.room, X.hears, X.method, X.code, (X.here.setHeapUsed s₂.heap s₂.slotsUsed).setVm hW'.alike, X.tail, State.WarmedH.trans X.warmed hW', X.limits, X.bytes, X.same.trans (hsame.setVm s.vm)⟩
  have hr' : (({ U with heap := s₂.heap, slotsUsed := s₂.slotsUsed } : State).setVm s₂.vm).frames = .java g₀ :: rr := hr
  refine ⟨r, h', (({ U with heap := s₂.heap, slotsUsed := s₂.slotsUsed } : State).setVm s₂.vm), L, hPr, hst, hL, hpu, hV', hB', ?_⟩
  cases r with
  | inr v =>
    refine Or.inl ⟨v, rfl, ?_⟩
    have ho' : o = .returned v := ho
    subst ho'
    obtain ⟨c₂, i₂, len₂, hc₂, hd₂, hf₂⟩ := hend
    have hcc : c₂ = c := by
      have h1 : s₂.code? g.method = U.code? g.method := by
        rw [State.code?_eq, State.code?_eq, hW'.alike.method?]
      exact Option.some.inj (hc₂.symm.trans (h1.trans hA.code))
    subst hcc
    have hlen : len₂ = len := by rw [hdg] at hd₂; cases hd₂; rfl
    subst hlen
    have hs₂ : s₂ = (({ U with heap := s₂.heap, slotsUsed := s₂.slotsUsed } : State).setVm s₂.vm).setTop { g with pc := g.pc + len₂, stack := v.toList ++ g.stack } := by
      refine e3.trans ?_
      rw [hf₂, State.calling_eq hA.top, State.setFrames_setFrames, State.setTop_of_frames _ hr', hr]
      rfl
    rw [← hs₂]
    exact hsteps
  | inl k =>
    obtain ⟨a, cell, ho', hcell, hcv, hfc⟩ := ho
    subst ho'
    refine Or.inr ⟨k, a, cell, rfl, hcell, hcv, hfc, ?_⟩
    have hf₂ : s₂.frames = .throwing a :: .java g :: U.frames.tail := hend
    have hs₂ : s₂ = ((({ U with heap := s₂.heap, slotsUsed := s₂.slotsUsed } : State).setVm s₂.vm).setTop g).pushFrame (.throwing a) := by
      refine e3.trans ?_
      rw [hf₂, State.calling_eq hA.top, State.setFrames_setFrames, State.pushFrame, State.frames_setTop _ hr', State.setTop_of_frames _ hr', State.setFrames_setFrames, hr]
      rfl
    rw [← hs₂]
    exact hsteps
/-- an exception of number k is thrown at pc: what comes of it -/
def g_Th (E : g_E) (X : g_X) (P : g_P) (h : g_H) (cs ss pc : Nat) (L : List (Option Value)) (k : Nat) : Prop :=
  ∀ (T : State) (locs : List Loc) (ls : Array Slot) (st : List Value) (a : Addr) (cell : Cell), g_V E.D h T.heap → g_B E.H0 T.heap → (∀ q ∈ locs, E.H0.size ≤ q.base) → g_L ls X.c.maxLocals L → T.heap[a]? = some cell → cell.vm = .none → T.vm.findClass (g_xn k) = some cell.cls →
    Stand X.p X.l X.e X.R X.s X.m X.args X.below X.meth X.c T locs cs ss → ∃ t, Steps X.p.tables X.e X.below ((T.setTop (F0 X.m pc ls st)).pushFrame (.throwing a)) t ∧ g_Q E X P t
theorem g_Th.out {E : g_E} {X : g_X} {M : g_M} {P : g_P} {h : g_H} {cs ss pc : Nat} {L : List (Option Value)} {k : Nat} (hX : g_ok E X M) (hout : (tableOf M.tb).all (fun x => !covers x pc) = true) (hP : P.2 (.inl k) h) (hpu : P.1 = false) (hc : cs ≤ X.R.cells) (hs : ss ≤ X.R.slots) : g_Th E X P h cs ss pc L k := by
  intro T locs ls st a cell hV hB hlo hL hcell hcv hfc X'
  have X2 := stand_widen X' hc hs
  have hlocks : X.meth.locks = false := hX.locks
  obtain ⟨hst, hrun, hend, hW, hsame⟩ := X2.leaveThrown a (g := F0 X.m pc ls st) rfl rfl rfl (fun x hx => by
    rw [hX.tb] at hx
    have h9 := List.all_eq_true.mp hout x hx
    show covers x pc = false
    cases hq : covers x pc with
    | false => rfl
    | true => rw [hq] at h9; cases h9)
  exact ⟨_, hst, .threw a, hrun, hend, ⟨⟨.inl k, h, hP, ⟨a, cell, rfl, hcell, hcv, hfc⟩, hV, hB⟩, hW, locs, hsame, hlo, fun q => by rw [hpu] at q; cases q⟩⟩
theorem g_room {m : MethodId} {pc wt : Nat} {ls : Array Slot} {st : List Value} (h : (st.map fun v => v.category).sum ≤ wt) : 2 * (F0 m pc ls st).monitorRoom + (st.map fun v => v.category).sum ≤ wt := by
  have h0 : (F0 m pc ls st).monitorRoom = 0 := by first | rfl | simp [JFrame.monitorRoom]
  rw [h0]
  omega
section GCALL
variable {E : g_E} {X : g_X} {M M' : g_M} {P P' : g_P} {h : g_H} {z : Bool} {cs ss pc : Nat} {L : List (Option Value)} {rest : List Value} {fr lo mc ms index : Nat} {as : List Value}
theorem g_after {g : JFrame} {T U : State} {locs : List Loc} {ls : Array Slot} {len : Nat} {mk : MethodId} (hX : g_ok E X M) (hT : T.heap = U.heap)
    (kr : ∀ (v : Option Value) (h' : g_H), P'.2 (.inr v) h' → g_Go E X P h' (P'.1 && z) (cs + mc) (ss + ms) (pc + len) L (v.toList ++ rest)) (kt : ∀ (k : Nat) (h' : g_H), P'.2 (.inl k) h' → g_Th E X P h' (cs + mc) (ss + ms) pc L k)
    (hlo : ∀ q ∈ locs, E.H0.size ≤ q.base) (hL : g_L ls X.c.maxLocals L) (hz : z = true → locs = [] ∧ U.heap = X.s.heap ∧ cs = 0 ∧ ss = 0) (hmc : P'.1 = true → mc = 0 ∧ ms = 0)
    (hstep : ∀ target, (∀ acts, Steps X.p.tables X.e X.below (doInvoke X.e (U.setTop (F0 X.m pc ls rest)) acts mk as.toArray).1 target) → Steps X.p.tables X.e X.below (T.setTop g) target)
    (hen : ∃ (r : g_R) (h' : g_H) (T' : State) (L' : List Loc), P'.2 r h' ∧ Stand X.p X.l X.e X.R X.s X.m X.args X.below X.meth X.c T' (locs ++ L') (cs + mc) (ss + ms) ∧ (∀ q ∈ L', E.H0.size ≤ q.base) ∧ (P'.1 = true → L' = [] ∧ T'.heap = U.heap) ∧ g_V E.D h' T'.heap ∧ g_B E.H0 T'.heap ∧
      ((∃ v : Option Value, r = .inr v ∧ Steps X.p.tables X.e X.below (doInvoke X.e (U.setTop (F0 X.m pc ls rest)) [] mk as.toArray).1 (T'.setTop { F0 X.m pc ls rest with pc := pc + len, stack := v.toList ++ rest })) ∨
       (∃ (k : Nat) (a : Addr) (cell : Cell), r = .inl k ∧ T'.heap[a]? = some cell ∧ cell.vm = .none ∧ T'.vm.findClass (g_xn k) = some cell.cls ∧ Steps X.p.tables X.e X.below (doInvoke X.e (U.setTop (F0 X.m pc ls rest)) [] mk as.toArray).1 ((T'.setTop (F0 X.m pc ls rest)).pushFrame (.throwing a))))) :
    ∃ t, Steps X.p.tables X.e X.below (T.setTop g) t ∧ g_Q E X P t := by
  obtain ⟨r, h', T', L', hPr, hst, hL', hpu, hV', hB', hor⟩ := hen
  have hlo' : ∀ q ∈ locs ++ L', E.H0.size ≤ q.base := t_lL (free := fun q => E.H0.size ≤ q) hlo hL'
  rcases hor with ⟨v, rfl, hs⟩ | ⟨k, a, cell, rfl, hcell, hcv, hfc, hs⟩
  · obtain ⟨t, a1, b1⟩ := kr v h' hPr T'.heap (locs ++ L') ls hV' hB' hlo' hL (fun q => by
      rw [Bool.and_eq_true] at q
      obtain ⟨p1, p2⟩ := hpu q.1
      obtain ⟨z1, z2, z3, z4⟩ := hz q.2
      obtain ⟨m1, m2⟩ := hmc q.1
      exact ⟨by rw [z1, p1]; rfl, p2.trans z2, by omega, by omega⟩) T' rfl hst
    exact ⟨t, hstep _ fun acts => by rw [doInvoke_state]; exact hs.trans a1, b1⟩
  · obtain ⟨t, a1, b1⟩ := kt k h' hPr T' (locs ++ L') ls rest a cell hV' hB' hlo' hL hcell hcv hfc hst
    exact ⟨t, hstep _ fun acts => by rw [doInvoke_state]; exact hs.trans a1, b1⟩
def g_np (y : MethodName) (n : Nat) : Bool := y.cls != "java/lang/invoke/MethodHandle" && (y.cls != "java/lang/invoke/VarHandle" && decide ((parseMethodDescriptor y.desc).map (fun q => q.parameters.length) = some n))
theorem g_np_hy {y : MethodName} {n : Nat} (h : g_np y n = true) : y.cls ≠ "java/lang/invoke/MethodHandle" ∧ y.cls ≠ "java/lang/invoke/VarHandle" := by
  simp only [g_np, Bool.and_eq_true, bne_iff_ne] at h
  exact ⟨h.1, h.2.1⟩
theorem g_np_len {y : MethodName} {n : Nat} (h : g_np y n = true) (sig : MethodDescriptor) (hs : parseMethodDescriptor y.desc = some sig) : n = sig.parameters.length := by
  simp only [g_np, Bool.and_eq_true, decide_eq_true_eq] at h
  have h2 := h.2.2
  rw [hs] at h2
  exact (Option.some.inj h2).symm
theorem g_callS (hX : g_ok E X M) (hct : g_Ct X.l M' fr lo mc ms as E h P') (hdg : decode M.cc pc = .ok (.invokestatic index, 3)) (hlink : Cond.methodLink M.y.cls index M'.y ∈ g_wl) (hstat : Cond.static M'.y ∈ g_wl) (hini : Cond.initialized M'.y.cls ∈ g_wl) (hcw : g_cw M' ∈ g_wl) (hnp : g_np M'.y as.length = true)
    (hfr : fr + 1 ≤ X.R.frames) {wt : Nat} (hlo : wt + (M'.nl + 11) + lo ≤ X.R.locals) (hc : cs + mc ≤ X.R.cells) (hs : ss + ms ≤ X.R.slots) (hW : (rest.map fun v => v.category).sum ≤ wt) (hmc : P'.1 = true → mc = 0 ∧ ms = 0) (pn : Nat) (hpn : pc + 3 = pn)
    (kr : ∀ (v : Option Value) (h' : g_H), P'.2 (.inr v) h' → g_Go E X P h' (P'.1 && z) (cs + mc) (ss + ms) pn L (v.toList ++ rest)) (kt : ∀ (k : Nat) (h' : g_H), P'.2 (.inl k) h' → g_Th E X P h' (cs + mc) (ss + ms) pc L k) :
    g_Go E X P h z cs ss pc L (as.reverse ++ rest) := by
  subst hpn
  intro H locs ls hV hB hlc hL hz T hT X'
  have hcodeS : (g_cw M').before X.args X.s = true := hX.w hcw
  have hst0 : (Cond.static M'.y).before X.args X.s = true := hX.w hstat
  obtain ⟨mk, hnamed⟩ : ∃ mk, X.s.methodNamed? M'.y = some mk := by
    obtain ⟨y, cc, nl, rt, tb⟩ := M'
    cases tb with
    | nil => exact Cond.code_named (show (Cond.code y cc nl rt).before X.args X.s = true from hcodeS)
    | cons q r =>
      obtain ⟨m', meth, c, h0, -⟩ := Cond.codeWith_spec (show (Cond.codeWith y cc nl rt (q :: r)).before X.args X.s = true from hcodeS)
      exact ⟨m', h0⟩
  obtain ⟨methM, cM, hmethM, -, -, -, -, -, -, hsigM⟩ := g_cw_spec hnamed hcodeS
  have hstatic : methM.isStatic = true := Cond.static_spec hnamed hmethM hst0
  obtain ⟨kP, hkP, -⟩ := className_of_methodNamed hnamed
  have hinitP : kP.init = .initialized := Cond.initialized_spec (findClass_of_methodNamed hnamed) hkP (hX.w hini (A := X.args))
  obtain ⟨vm₁, X₁, hstep₁⟩ := X'.invokestatic hX.exec hX.own (hX.w hlink) hnamed hmethM hstatic hkP hinitP (g_np_hy hnp) (g := F0 X.m pc ls (as.reverse ++ rest)) rfl (argsL := as) (rest := rest) (g_np_len hnp _ hsigM) rfl (by rw [hX.code]; exact hdg)
  have hT1 : (T.setVm vm₁).heap = H := hT
  exact g_after (P' := P') (as := as) (mc := mc) (ms := ms) hX (U := T.setVm vm₁) rfl kr kt hlc hL (by rw [hT1]; exact hz) hmc hstep₁
    (g_enter hct X₁ hfr hlo hc hs (hX.K.warm X₁.warmed) hcw hini (by rw [hT1]; exact hV) (by rw [hT1]; exact hB) (g := F0 X.m pc ls rest) rfl hL.1 (by rw [hX.code]; exact hdg) (g_room hW) (X₁.named hnamed))
theorem g_callV (hX : g_ok E X M) {b ci N : Nat} {C : String} {T0 : u_T} {fs : List Value} (hct : g_Ct X.l M' fr lo mc ms (.ref b :: as) E h P') (hdg : decode M.cc pc = .ok (.invokevirtual index, 3)) (hb : h b = some (.inr (ci, fs))) (hcl : g_cl[ci]? = some (C, T0, N)) (hlink : Cond.methodLink M.y.cls index M'.y ∈ g_wl) (hinst : Cond.instanceMethod M'.y ∈ g_wl) (hsel : Cond.selects C M'.y M'.y ∈ g_wl) (hini : Cond.initialized M'.y.cls ∈ g_wl) (hcw : g_cw M' ∈ g_wl) (hnp : g_np M'.y as.length = true)
    (hfr : fr + 1 ≤ X.R.frames) {wt : Nat} (hlo : wt + (M'.nl + 11) + lo ≤ X.R.locals) (hc : cs + mc ≤ X.R.cells) (hs : ss + ms ≤ X.R.slots) (hW : (rest.map fun v => v.category).sum ≤ wt) (hmc : P'.1 = true → mc = 0 ∧ ms = 0) (pn : Nat) (hpn : pc + 3 = pn)
    (kr : ∀ (v : Option Value) (h' : g_H), P'.2 (.inr v) h' → g_Go E X P h' (P'.1 && z) (cs + mc) (ss + ms) pn L (v.toList ++ rest)) (kt : ∀ (k : Nat) (h' : g_H), P'.2 (.inl k) h' → g_Th E X P h' (cs + mc) (ss + ms) pc L k) :
    g_Go E X P h z cs ss pc L (as.reverse ++ .ref b :: rest) := by
  subst hpn
  intro H locs ls hV hB hlc hL hz T hT X'
  obtain ⟨cellB, hcell, hobj, hcls⟩ := g_recv hX.K.1 hV hcl hb
  obtain ⟨mk, methM, hnamed, hmethM, hstM, habM⟩ := Cond.instanceMethod_spec (hX.w hinst (A := X.args))
  obtain ⟨methM', cM, hmethM', -, -, -, -, -, -, hsigM⟩ := g_cw_spec hnamed (hX.w hcw (A := X.args))
  cases hmethM.symm.trans hmethM'
  obtain ⟨c2, r2, m2, q1, q2, q3, q4, kP, hkP, hkPi⟩ := Cond.selects_spec (hX.w hsel (A := X.args))
  cases hcls.symm.trans q1
  cases (State.methodFound?_of_named hnamed (g_np_hy hnp)).symm.trans q2
  cases hnamed.symm.trans q3
  have hselP : selectMethod X.e.platform X.s.vm cellB.cls mk = .method mk := by rw [Launch.admits_selectMethod X'.admits]; exact q4
  obtain ⟨vm₁, X₁, hstep₁⟩ := X'.invokevirtual hX.exec hX.own (hX.w hlink) hnamed hmethM hstM hkP hkPi (g_np_hy hnp) (a := b) (cell := cellB) (by rw [hT]; exact hcell)
    (fun z q => by rw [q] at hobj; cases hobj) hselP hmethM habM hkP hkPi (g := F0 X.m pc ls (as.reverse ++ .ref b :: rest)) rfl (argsL := as) (rest := rest) (g_np_len hnp _ hsigM) rfl (by rw [hX.code]; exact hdg)
  have hT1 : (T.setVm vm₁).heap = H := hT
  exact g_after (P' := P') (as := .ref b :: as) (mc := mc) (ms := ms) hX (U := T.setVm vm₁) rfl kr kt hlc hL (by rw [hT1]; exact hz) hmc hstep₁
    (g_enter hct X₁ hfr hlo hc hs (hX.K.warm X₁.warmed) hcw hini (by rw [hT1]; exact hV) (by rw [hT1]; exact hB) (g := F0 X.m pc ls rest) rfl hL.1 (by rw [hX.code]; exact hdg) (g_room hW) (X₁.named hnamed))
theorem g_callI (hX : g_ok E X M) {b : Nat} (htb : M'.tb = []) (hrn : M'.ret = none) (hy1 : M'.y.name = "<init>") (hct : g_Ct X.l M' fr lo mc ms (.ref b :: as) E h P') (hdg : decode M.cc pc = .ok (.invokespecial index, 3)) (hlink : Cond.methodLink M.y.cls index M'.y ∈ g_wl) (hinst : Cond.instanceMethod M'.y ∈ g_wl) (hini : Cond.initialized M'.y.cls ∈ g_wl) (hcw : g_cw M' ∈ g_wl) (hnp : g_np M'.y as.length = true)
    (hfr : fr + 1 ≤ X.R.frames) {wt : Nat} (hlo : wt + (M'.nl + 11) + lo ≤ X.R.locals) (hc : cs + mc ≤ X.R.cells) (hs : ss + ms ≤ X.R.slots) (hW : (rest.map fun v => v.category).sum ≤ wt) (hmc : P'.1 = true → mc = 0 ∧ ms = 0) (pn : Nat) (hpn : pc + 3 = pn)
    (kr : ∀ (v : Option Value) (h' : g_H), P'.2 (.inr v) h' → g_Go E X P h' (P'.1 && z) (cs + mc) (ss + ms) pn L (v.toList ++ rest)) (kt : ∀ (k : Nat) (h' : g_H), P'.2 (.inl k) h' → g_Th E X P h' (cs + mc) (ss + ms) pc L k) :
    g_Go E X P h z cs ss pc L (as.reverse ++ .ref b :: rest) := by
  subst hpn
  intro H locs ls hV hB hlc hL hz T hT X'
  have hpl : X.e.platform.magicAccessors = ({} : Platform).magicAccessors := by rw [X'.admits.platform]
  have hcode : (Cond.code M'.y M'.cc M'.nl none).before X.args X.s = true := by
    have h1 := hX.w hcw (A := X.args)
    obtain ⟨y, cc, nl, rt, tb⟩ := M'
    cases htb
    cases hrn
    exact h1
  obtain ⟨mk, methM, cM, kP, vm₁, hnamed, hmethM, hcodeM, -, hlocalsM, -, hkP, -, hW₁, hstep₁⟩ := Steps.initColdArgs (e := X.e) X'.here hX.exec X'.warmed hpl hX.own hy1 (g_np_hy hnp) (hX.w hlink (A := X.args)) (hX.w hinst (A := X.args)) hcode (f := F0 X.m pc ls (as.reverse ++ .ref b :: rest)) rfl (fun sig hsig => g_np_len hnp sig hsig) rfl (by rw [hX.code]; exact hdg)
  have X₁ := X'.noted hW₁
  have hT1 : (T.setVm vm₁).heap = H := hT
  exact g_after (P' := P') (as := .ref b :: as) (mc := mc) (ms := ms) hX (U := T.setVm vm₁) rfl kr kt hlc hL (by rw [hT1]; exact hz) hmc hstep₁
    (g_enter hct X₁ hfr hlo hc hs (hX.K.warm X₁.warmed) hcw hini (by rw [hT1]; exact hV) (by rw [hT1]; exact hB) (g := F0 X.m pc ls rest) rfl hL.1 (by rw [hX.code]; exact hdg) (g_room hW) (X₁.named hnamed))
/-- what an interface's call asks of the words -/
def g_fw (C : String) (x y : MethodName) : Prop := Cond.declares x ∈ g_wl ∧ Cond.interfaceMethod x.cls x.cls x.name x.desc ∈ g_wl ∧ Cond.publicMethod y ∈ g_wl ∧ Cond.unhidden C x.name x.desc ∈ g_wl ∧ Cond.castable C x.cls ∈ g_wl ∧ Cond.selects C x y ∈ g_wl ∧ Cond.instanceMethod y ∈ g_wl
theorem g_callF (hX : g_ok E X M) {x : MethodName} {b ci N count : Nat} {C : String} {T0 : u_T} {fs : List Value} (hct : g_Ct X.l M' fr lo mc ms (.ref b :: as) E h P') (hdg : decode M.cc pc = .ok (.invokeinterface index count, 5)) (hb : h b = some (.inr (ci, fs))) (hcl : g_cl[ci]? = some (C, T0, N)) (hlink : Cond.methodLink M.y.cls index x ∈ g_wl) (hfw : g_fw C x M'.y) (hini : Cond.initialized M'.y.cls ∈ g_wl) (hcw : g_cw M' ∈ g_wl) (hnp : g_np x as.length = true)
    (hfr : fr + 1 ≤ X.R.frames) {wt : Nat} (hlo : wt + (M'.nl + 11) + lo ≤ X.R.locals) (hc : cs + mc ≤ X.R.cells) (hs : ss + ms ≤ X.R.slots) (hW : (rest.map fun v => v.category).sum ≤ wt) (hmc : P'.1 = true → mc = 0 ∧ ms = 0) (pn : Nat) (hpn : pc + 5 = pn)
    (kr : ∀ (v : Option Value) (h' : g_H), P'.2 (.inr v) h' → g_Go E X P h' (P'.1 && z) (cs + mc) (ss + ms) pn L (v.toList ++ rest)) (kt : ∀ (k : Nat) (h' : g_H), P'.2 (.inl k) h' → g_Th E X P h' (cs + mc) (ss + ms) pc L k) :
    g_Go E X P h z cs ss pc L (as.reverse ++ .ref b :: rest) := by
  subst hpn
  intro H locs ls hV hB hlc hL hz T hT X'
  obtain ⟨w1, w2, w3, w4, w5, w6, w7⟩ := hfw
  obtain ⟨cellB, hcell, hobj, hcls⟩ := g_recv hX.K.1 hV hcl hb
  obtain ⟨-, -, kB, hkB, -⟩ := hX.K.1.1 ci _ hcl
  have hkB' : X.s.vm.classes[cellB.cls]? = some kB := by
    obtain ⟨-, hfc, -⟩ := hX.K.1.1 ci _ hcl
    have h9 : E.D.1 ci = cellB.cls := Option.some.inj (hfc.symm.trans hcls)
    rw [← h9]
    exact hkB
  obtain ⟨r0, r, hn, hrm, hstR, hsigR⟩ := Cond.declares_spec (hX.w w1 (A := X.args))
  have hface : (Cond.interfaceMethod x.cls x.cls x.name x.desc).before X.args X.s = true := hX.w w2
  obtain ⟨cL, kL, r1, hcL, hkL, hiL, hfoundL, hn1⟩ := Cond.interfaceMethod_spec hface
  cases hn.symm.trans hn1
  have hr0cls : r0.cls = cL := Option.some.inj ((findClass_of_methodNamed hn).symm.trans hcL)
  obtain ⟨hnameR, hdescR⟩ := name_of_methodNamed hn hrm
  obtain ⟨mk, methM, hnamed, hmethM, -, habM⟩ := Cond.instanceMethod_spec (hX.w w7 (A := X.args))
  obtain ⟨c2, r2, m2, q1, q2, q3, q4, -⟩ := Cond.selects_spec (hX.w w6 (A := X.args))
  cases hcls.symm.trans q1
  cases hfoundL.symm.trans q2
  cases hnamed.symm.trans q3
  have hselP : selectMethod X.e.platform X.s.vm cellB.cls r0 = .method mk := by rw [Launch.admits_selectMethod X'.admits]; exact q4
  have hpubM : hasFlag methM.accessFlags Acc.public_ = true := Cond.publicMethod_spec hnamed hmethM (hX.w w3 (A := X.args))
  have hway : ((cellB.cls :: X.s.vm.superclasses cellB.cls).any fun k => (declaredIn X.s.vm r.name r.desc k).any fun (_, z) => z.isPrivate || z.isStatic) = false := by
    rw [hnameR, hdescR]; exact Cond.unhidden_spec hcls (hX.w w4 (A := X.args))
  obtain ⟨c3, t3, u1, u2, u3⟩ := Cond.castable_spec (hX.w w5 (A := X.args))
  cases hcls.symm.trans u1
  cases hcL.symm.trans u2
  obtain ⟨vm₁, X₁, hstep₁⟩ := X'.invokeinterface hX.exec hX.own (hX.w hlink) hn hrm hstR (by rw [hr0cls]; exact hkL) hiL (g_np_hy hnp) (a := b) (cell := cellB) (kcell := kB) (by rw [hT]; exact hcell)
    (fun z q => by rw [q] at hobj; cases hobj) hkB' (by rw [hr0cls]; exact u3) hselP hmethM hway hpubM habM (g := F0 X.m pc ls (as.reverse ++ .ref b :: rest)) rfl (argsL := as) (rest := rest) (g_np_len hnp _ hsigR) rfl (by rw [hX.code]; exact hdg)
  have hT1 : (T.setVm vm₁).heap = H := hT
  exact g_after (P' := P') (as := .ref b :: as) (mc := mc) (ms := ms) hX (U := T.setVm vm₁) rfl kr kt hlc hL (by rw [hT1]; exact hz) hmc hstep₁
    (g_enter hct X₁ hfr hlo hc hs (hX.K.warm X₁.warmed) hcw hini (by rw [hT1]; exact hV) (by rw [hT1]; exact hB) (g := F0 X.m pc ls rest) rfl hL.1 (by rw [hX.code]; exact hdg) (g_room hW) (X₁.named hnamed))
end GCALL
