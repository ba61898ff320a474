/-! statics, strings, Object's constructor, nest mates, a throw, a catch -/
section GSPEC
variable {E : g_E} {X : g_X} {M M' : g_M} {P P' : g_P} {h : g_H} {z : Bool} {cs ss pc : Nat} {L : List (Option Value)} {rest : List Value} {fr lo mc ms index : Nat} {as : List Value}
theorem g_gets (hX : g_ok E X M) {C n d : String} {v : Value} (hdg : decode M.cc pc = .ok (.getstatic index, 3)) (hlink : Cond.fieldLink M.y.cls index C n d ∈ g_wl) (hsz : g_SZ C n d v E.H0 X.s) (pn : Nat) (hpn : pc + 3 = pn)
    (kk : g_Go E X P h z cs ss pn L (v :: rest)) : g_Go E X P h z cs ss pc L rest := by
  subst hpn
  intro H locs ls hV hB hlo hL hz
  obtain ⟨c, k, i, f, a, cell, h1, h2, h3, h4, h5, h6, h7, h8, h9, h10, h11⟩ := hsz
  exact W.gets hX.exec hX.code hX.own (hX.w hlink) h2 h3 h10 h4 (by rw [hB.2 a (Array.getElem?_eq_some_iff.mp h5).1]; exact h5) (fun q => by rw [q] at h6; cases h6) h11 rfl hdg (kk H locs ls hV hB hlo hL hz)
theorem g_ldcs (hX : g_ok E X M) (hcls : M.y.cls = "SlideStage") {tx : String} (hdg : decode M.cc pc = .ok (.ldc index, 2)) (hs : (index, tx) ∈ g_strs) (pn : Nat) (hpn : pc + 2 = pn)
    (kk : g_Go E X P h z cs ss pn L (.ref (E.ad (100 + index)) :: rest)) : g_Go E X P h z cs ss pc L rest := by
  subst hpn
  intro H locs ls hV hB hlo hL hz
  have hown := hX.own
  rw [hcls] at hown
  exact va_ldcS hX.exec hX.code hown (hX.K.2.2.2.2.2.2.2.2 _ hs) hdg (kk H locs ls hV hB hlo hL hz)
theorem g_ldcw (hX : g_ok E X M) {v : Int32} (hdg : decode M.cc pc = .ok (.ldc_w index, 3)) (hw : Cond.constant M.y.cls index v ∈ g_wl) (pn : Nat) (hpn : pc + 3 = pn)
    (kk : g_Go E X P h z cs ss pn L (.int v :: rest)) : g_Go E X P h z cs ss pc L rest := by
  subst hpn
  exact fun H locs ls hV hB hlo hL hz => lv_ldcw hX.exec hX.code hX.own (hX.w hw) hdg (kk H locs ls hV hB hlo hL hz)
def g_oi (own : String) (idx : Nat) : Prop := Cond.methodLink own idx Lib.objectInit ∈ g_wl ∧ Cond.instanceMethod Lib.objectInit ∈ g_wl ∧ Cond.code Lib.objectInit ⟨#[0xb1]⟩ 1 none ∈ g_wl
theorem g_objInit (hX : g_ok E X M) {a wt : Nat} (hdg : decode M.cc pc = .ok (.invokespecial index, 3)) (hk : g_oi M.y.cls index) (hW : (rest.map fun v => v.category).sum ≤ wt) (hfr : 1 ≤ X.R.frames) (hlc : wt + 12 ≤ X.R.locals) (pn : Nat) (hpn : pc + 3 = pn)
    (kk : g_Go E X P h z cs ss pn L rest) : g_Go E X P h z cs ss pc L (.ref a :: rest) := by
  subst hpn
  intro H locs ls hV hB hlo hL hz
  exact W.objInit hX.exec hX.code hX.own (hX.w hk.1) (hX.w hk.2.1) (hX.w hk.2.2) (g := F0 X.m pc ls (.ref a :: rest)) rfl hL.1 rfl hdg hfr (by
    have h9 := g_room (m := X.m) (pc := pc) (ls := ls) hW
    have h8 : (F0 X.m pc ls (.ref a :: rest)).monitorRoom = (F0 X.m pc ls rest).monitorRoom := by first | rfl | simp [JFrame.monitorRoom]
    rw [h8]
    omega) (kk H locs ls hV hB hlo hL hz)
theorem g_callSN (hX : g_ok E X M) {host : String} (hct : g_Ct X.l M' fr lo mc ms as E h P') (hdg : decode M.cc pc = .ok (.invokestatic index, 3)) (hlink : Cond.methodLinkNest M.y.cls index M'.y host ∈ g_wl) (hstat : Cond.static M'.y ∈ g_wl) (hini : Cond.initialized M'.y.cls ∈ g_wl) (hcw : g_cw M' ∈ g_wl) (hcn : ∃ mk, X.s.methodNamed? M'.y = some mk) (hnp : g_np M'.y as.length = true)
    (hfr : fr + 1 ≤ X.R.frames) {wt : Nat} (hlo : wt + (M'.nl + 11) + lo ≤ X.R.locals) (hc : cs + mc ≤ X.R.cells) (hs : ss + ms ≤ X.R.slots) (hW : (rest.map fun v => v.category).sum ≤ wt) (hmc : P'.1 = true → mc = 0 ∧ ms = 0) (pn : Nat) (hpn : pc + 3 = pn)
    (kr : ∀ (v : Option Value) (h' : g_H), P'.2 (.inr v) h' → g_Go E X P h' (P'.1 && z) (cs + mc) (ss + ms) pn L (v.toList ++ rest)) (kt : ∀ (k : Nat) (h' : g_H), P'.2 (.inl k) h' → g_Th E X P h' (cs + mc) (ss + ms) pc L k) :
    g_Go E X P h z cs ss pc L (as.reverse ++ rest) := by
  subst hpn
  intro H locs ls hV hB hlc hL hz T hT X'
  obtain ⟨mk, hnamed⟩ := hcn
  obtain ⟨methM, cM, hmethM, -, -, -, -, -, -, hsigM⟩ := g_cw_spec hnamed (hX.w hcw (A := X.args))
  have hstatic : methM.isStatic = true := Cond.static_spec hnamed hmethM (hX.w hstat (A := X.args))
  obtain ⟨kP, hkP, -⟩ := className_of_methodNamed hnamed
  have hinitP : kP.init = .initialized := Cond.initialized_spec (findClass_of_methodNamed hnamed) hkP (hX.w hini (A := X.args))
  obtain ⟨vm₁, X₁, hstep₁⟩ := X'.invokestaticNest hX.exec hX.own (hX.w hlink) hnamed hmethM hstatic hkP hinitP (g_np_hy hnp) (g := F0 X.m pc ls (as.reverse ++ rest)) rfl (argsL := as) (rest := rest) (g_np_len hnp _ hsigM) rfl (by rw [hX.code]; exact hdg)
  have hT1 : (T.setVm vm₁).heap = H := hT
  exact g_after (P' := P') (as := as) (mc := mc) (ms := ms) hX (U := T.setVm vm₁) rfl kr kt hlc hL (by rw [hT1]; exact hz) hmc hstep₁
    (g_enter hct X₁ hfr hlo hc hs (hX.K.warm X₁.warmed) hcw hini (by rw [hT1]; exact hV) (by rw [hT1]; exact hB) (g := F0 X.m pc ls rest) rfl hL.1 (by rw [hX.code]; exact hdg) (g_room hW) (X₁.named hnamed))
theorem g_callIN (hX : g_ok E X M) {b : Nat} {host : String} (htb : M'.tb = []) (hrn : M'.ret = none) (hy1 : M'.y.name = "<init>") (hct : g_Ct X.l M' fr lo mc ms (.ref b :: as) E h P') (hdg : decode M.cc pc = .ok (.invokespecial index, 3)) (hlink : Cond.methodLinkNest M.y.cls index M'.y host ∈ g_wl) (hinst : Cond.instanceMethod M'.y ∈ g_wl) (hini : Cond.initialized M'.y.cls ∈ g_wl) (hcw : g_cw M' ∈ g_wl) (hnp : g_np M'.y as.length = true)
    (hfr : fr + 1 ≤ X.R.frames) {wt : Nat} (hlo : wt + (M'.nl + 11) + lo ≤ X.R.locals) (hc : cs + mc ≤ X.R.cells) (hs : ss + ms ≤ X.R.slots) (hW : (rest.map fun v => v.category).sum ≤ wt) (hmc : P'.1 = true → mc = 0 ∧ ms = 0) (pn : Nat) (hpn : pc + 3 = pn)
    (kr : ∀ (v : Option Value) (h' : g_H), P'.2 (.inr v) h' → g_Go E X P h' (P'.1 && z) (cs + mc) (ss + ms) pn L (v.toList ++ rest)) (kt : ∀ (k : Nat) (h' : g_H), P'.2 (.inl k) h' → g_Th E X P h' (cs + mc) (ss + ms) pc L k) :
    g_Go E X P h z cs ss pc L (as.reverse ++ .ref b :: rest) := by
  subst hpn
  intro H locs ls hV hB hlc hL hz T hT X'
  have hpl : X.e.platform.magicAccessors = ({} : Platform).magicAccessors := by rw [X'.admits.platform]
  have hcode : (Cond.code M'.y M'.cc M'.nl none).before X.args X.s = true := by
    have h1 := hX.w hcw (A := X.args)
    obtain ⟨y, cc, nl, rt, tb⟩ := M'
    cases htb
    cases hrn
    exact h1
  obtain ⟨mk, methM, cM, kP, vm₁, hnamed, hmethM, hcodeM, -, hlocalsM, -, hkP, -, hW₁, hstep₁⟩ := Steps.initColdArgsNest (e := X.e) X'.here hX.exec X'.warmed hpl hX.own hy1 (g_np_hy hnp) (hX.w hlink (A := X.args)) (hX.w hinst (A := X.args)) hcode (f := F0 X.m pc ls (as.reverse ++ .ref b :: rest)) rfl (fun sig hsig => g_np_len hnp sig hsig) rfl (by rw [hX.code]; exact hdg)
  have X₁ := X'.noted hW₁
  have hT1 : (T.setVm vm₁).heap = H := hT
  exact g_after (P' := P') (as := .ref b :: as) (mc := mc) (ms := ms) hX (U := T.setVm vm₁) rfl kr kt hlc hL (by rw [hT1]; exact hz) hmc hstep₁
    (g_enter hct X₁ hfr hlo hc hs (hX.K.warm X₁.warmed) hcw hini (by rw [hT1]; exact hV) (by rw [hT1]; exact hB) (g := F0 X.m pc ls rest) rfl hL.1 (by rw [hX.code]; exact hdg) (g_room hW) (X₁.named hnamed))
end GSPEC
theorem g_SZ.cell {C n d : String} {v : Value} {H0 : Heap} {U : State} (h : g_SZ C n d v H0 U) (hB : g_B H0 U.heap) (A : Array Value) : (Cond.laysStatic C n d).before A U = true ∧ (v.isRef = true → (Cond.isRef (.static C n d)).before A U = true) := by
  obtain ⟨c, k, i, f, a, cell, h1, h2, h3, h4, h5, h6, h7, h8, h9, h10, h11⟩ := h
  have h5' : U.heap[a]? = some cell := by rw [hB.2 a (Array.getElem?_eq_some_iff.mp h5).1]; exact h5
  refine ⟨Cond.laysStatic_of h1 h2 h3 h4 h5' h6 h7 h8 h9, fun hv => ?_⟩
  have ev : (Term.static C n d).eval A U none [] U = some v := by
    simp [Term.eval, State.fieldNamed?, h2, h3, h4, h5', h6, h11]
  cases v <;> first | (simp [Cond.before, Cond.holds, Cond.value, ev]; done) | cases hv
theorem g_hw_ok {E : g_E} {U : State} (hK : g_K E U) (hB : g_B E.H0 U.heap) (A : Array Value) : ∀ w ∈ g_hw, w.before A U = true := by
  obtain ⟨-, -, -, -, -, ⟨v4, r4, h4⟩, ⟨v5, r5, h5⟩, -, -⟩ := hK
  intro w hw
  simp only [g_hw, List.mem_cons, List.not_mem_nil, or_false] at hw
  rcases hw with rfl | rfl | rfl | rfl
  · exact (h4.cell hB A).1
  · exact (h5.cell hB A).1
  · exact (h4.cell hB A).2 r4
  · exact (h5.cell hB A).2 r5
/-- what a throw of number k, by the constructor at the pool's entry ic, asks of the words -/
def g_tw (k i1 ic : Nat) : Prop := Cond.classLink "SlideStage" i1 (g_xn k) ∈ g_wl ∧ Cond.instantiable (g_xn k) 6 ∈ g_wl ∧ Cond.initialized (g_xn k) ∈ g_wl ∧ Jvm.Bundle.fit (g_xn k) = true ∧ ∀ w ∈ Jvm.Bundle.ownAtoms "SlideStage" ic (g_xn k) ["java/lang/RuntimeException", "java/lang/Exception"], w ∈ g_wl ∨ w ∈ g_hw
set_option maxHeartbeats 4000000 in
theorem g_throw {E : g_E} {X : g_X} {M : g_M} {P : g_P} {h : g_H} {pc p3 p4 p6 p9 : Nat} {L : List (Option Value)} {rest : List Value} (hX : g_ok E X M) (hcls : M.y.cls = "SlideStage") {k i1 i2 ic wt : Nat} {tx : String} (h0 : decode M.cc pc = .ok (.new i1, 3)) (h3 : decode M.cc p3 = .ok (.dup, 1)) (h4 : decode M.cc p4 = .ok (.ldc i2, 2)) (h6 : decode M.cc p6 = .ok (.invokespecial ic, 3)) (h9 : decode M.cc p9 = .ok (.athrow, 1))
    (e3 : pc + 3 = p3) (e4 : p3 + 1 = p4) (e6 : p4 + 2 = p6) (e9 : p6 + 3 = p9) (hs : (i2, tx) ∈ g_strs) (ht : g_tw k i1 ic) (hout : M.tb = []) (hP : P.2 (.inl k) h) (hpu : P.1 = false) (hc : 1 ≤ X.R.cells) (hss : 6 ≤ X.R.slots)
    (hRf : 5 < X.R.frames) (hW : (rest.map fun v => v.category).sum ≤ wt) (hRl : wt + 82 ≤ X.R.locals) : g_Go E X P h true 0 0 pc L rest := by
  subst e3
  subst e4
  subst e6
  subst e9
  intro H locs ls hV hB hlo hL hz
  obtain ⟨rfl, rfl, -, -⟩ := hz rfl
  obtain ⟨w1, w2, w3, w4, w5⟩ := ht
  have hown := hX.own
  rw [hcls] at hown
  obtain ⟨cX, kX, hfX, hkX, hordX, hszX⟩ : ∃ cX kX, X.s.vm.findClass (g_xn k) = some cX ∧ X.s.vm.classes[cX]? = some kX ∧ kX.kind = .ordinary ∧ kX.instanceTypes.size = 6 := by
    obtain ⟨c1, k1, q1, q2, q3, -, -, q6⟩ := Cond.instantiable_spec (hX.w w2 (A := X.args))
    exact ⟨c1, k1, q1, q2, q3, q6⟩
  refine W.newcK hX.exec hX.code hown (hX.w w1) (hX.w w2) (hX.w w3) rfl h0 (by omega) (by omega) hfX rfl fun H1 kC hkC c1 z1 o1 => ?_
  have hkk : kX = kC := Option.some.inj (hkX.symm.trans hkC)
  subst hkk
  refine lv_dup hX.exec hX.code h3 rfl ?_
  refine va_ldcS hX.exec hX.code hown (hX.K.2.2.2.2.2.2.2.2 _ hs) h4 ?_
  intro T hT X'
  have htr : X.e.platform.stackTraces = false := by rw [X'.admits.platform]; exact hX.tr
  have hlocks : X.meth.locks = false := hX.locks
  have hout2 : ∀ x ∈ X.c.exceptionTable.toList, covers x (pc + 3 + 1 + 2 + 3) = false := by
    rw [hX.tb, hout]
    intro x hx
    cases hx
  obtain ⟨U, hst, hrun, hend, hWU, hsame, ce, hce, hoc⟩ := X'.ctorThrowS hX.exec htr hown w4 (names := ["java/lang/RuntimeException", "java/lang/Exception"]) (ic := ic) (by
      intro n hn
      simp only [List.mem_cons, List.not_mem_nil, or_false] at hn
      rcases hn with rfl | rfl <;> decide +kernel)
    (fun w hw => (w5 w hw).elim (fun q => hX.w q) (fun q => g_hw_ok hX.K hX.base X.args w q)) (fun x hx => by cases hx) hfX hkX (a := X.s.heap.size) (by rw [hT]; exact c1) (Nat.le_refl _) (msg := .ref (E.ad (100 + i2))) rfl
    (g := F0 X.m (pc + 3 + 1 + 2) ls (.ref (E.ad (100 + i2)) :: .ref X.s.heap.size :: .ref X.s.heap.size :: rest)) rfl hL.1 rfl rfl rfl (by rw [hX.code]; exact h6) (by rw [hX.code]; exact h9) hout2 (by show 2 + 3 < _; omega)
    (by
      have h7 : (F0 X.m (pc + 3 + 1 + 2) ls (.ref (E.ad (100 + i2)) :: .ref X.s.heap.size :: .ref X.s.heap.size :: rest)).monitorRoom = 0 := by first | rfl | simp [JFrame.monitorRoom]
      rw [h7, List.map_cons, List.sum_cons]
      show 2 * 0 + (1 + _) + (13 * (2 + 1) + 42) ≤ _
      omega) hlocks
  have hold : ∀ q : Nat, q < X.s.heap.size → U.heap[q]? = X.s.heap[q]? := fun q hq => by
    have h1 : X.s.heap[q]? = some X.s.heap[q] := Array.getElem?_eq_getElem hq
    rw [h1]
    exact hsame.old_cell h1
  refine ⟨U, hst, .threw X.s.heap.size, hrun, hend, ⟨⟨.inl k, h, hP, ⟨_, ce, rfl, hce, hoc.vm, by rw [hWU.alike.findClass]; exact hoc.cls⟩, hV.grow hold, hB.grow hsame.2.1 hold⟩, hWU, [], hsame.mono (by omega) (by omega), (fun q hq => by cases hq), (fun q => by rw [hpu] at q; cases q)⟩⟩
/-- the search through a method's own table of handlers: the names of its types; it ends at hp -/
def g_tbw (own : String) (k pc : Nat) : List ExceptionTableEntry → List String → Nat → Prop
  | x :: t, nm :: r, hp => covers x pc = true ∧ ((g_hit own k x nm true ∧ hp = x.handlerPc) ∨ (g_hit own k x nm false ∧ g_tbw own k pc t r hp))
  | _, _, _ => False
theorem g_tbw.finds {E : g_E} {X : g_X} {M : g_M} (hX : g_ok E X M) {k hp : Nat} {g : JFrame} (hg : g.method = X.m) (hpl : X.e.platform.magicAccessors = ({} : Platform).magicAccessors) {a : Addr} {cell : Cell} (hcv : cell.vm = .none) : ∀ (tb : List ExceptionTableEntry) (nms : List String) (u : State), X.s.WarmedH u.vm → u.heap[a]? = some cell → u.vm.findClass (g_xn k) = some cell.cls → g_tbw M.y.cls k g.pc tb nms hp →
    ∃ vm' : Vm, X.s.WarmedH vm' ∧ ∀ (Q : Handler → Pre) (Z : CtlPost) (d : Bool) (acts : List Action), wp (findHandler.go g a tb) Q Z X.e d acts u ↔ Q (.found hp) d acts (u.setVm vm') := by
  intro tb
  induction tb with
  | nil => intro nms u _ _ _ h; cases h
  | cons x t ih =>
    intro nms u hW hcell hfc h
    cases nms with
    | nil => cases h
    | cons nm r =>
      obtain ⟨hx, hor⟩ := h
      rcases hor with ⟨hh, rfl⟩ | ⟨hh, h2⟩
      · obtain ⟨vm', hw', hs⟩ := g_Sr.step (t := t) hX hg hpl hW hx hh hcell hcv hfc
        exact ⟨vm', hw', fun Q Z d acts => by rw [hs]; rfl⟩
      · obtain ⟨vm', hw', hs⟩ := g_Sr.step (t := t) hX hg hpl hW hx hh hcell hcv hfc
        obtain ⟨vm2, hw2, hs2⟩ := ih r (u.setVm vm') hw' hcell (by
          show vm'.findClass (g_xn k) = some cell.cls
          rw [hw'.alike.findClass, ← hW.alike.findClass]
          exact hfc) h2
        exact ⟨vm2, hw2, fun Q Z d acts => by
          rw [hs]
          exact hs2 Q Z d acts⟩
theorem g_Th.caught {E : g_E} {X : g_X} {M : g_M} {P : g_P} {h : g_H} {cs ss pc hp : Nat} {L : List (Option Value)} {k : Nat} {nms : List String} (hX : g_ok E X M) (ht : g_tbw M.y.cls k pc (tableOf M.tb) nms hp) (kk : ∀ a : Nat, g_Go E X P h false cs ss hp L [.ref a]) : g_Th E X P h cs ss pc L k := by
  intro T locs ls st a cell hV hB hlo hL hcell hcv hfc X'
  have hpl : X.e.platform.magicAccessors = ({} : Platform).magicAccessors := by rw [X'.admits.platform]
  obtain ⟨vm', hw', hs⟩ := g_tbw.finds (M := M) (k := k) (hp := hp) (g := F0 X.m pc ls st) (a := a) (cell := cell) hX rfl hpl hcv (tableOf M.tb) nms ((T.setTop (F0 X.m pc ls st)).pushFrame (.throwing a))
    (by rw [Stand.throwing_vm]; exact X'.warmed) (by rw [Stand.throwing_heap]; exact hcell) (by rw [Stand.throwing_vm]; exact hfc) ht
  obtain ⟨t, a1, b1⟩ := kk a T.heap locs ls hV hB hlo hL (fun q => by cases q) (T.setVm vm') rfl (X'.noted hw')
  refine ⟨t, g_caught (g := F0 X.m pc ls st) (pc := hp) (vm' := vm') X'.here (fun Q Z d acts => ?_) a1, b1⟩
  rw [Jvm.W.findHandler_eq (meth := X.meth) (code := X.c) (by rw [Stand.throwing_vm]; exact X'.method') X'.code, hX.tb]
  exact hs Q Z d acts
