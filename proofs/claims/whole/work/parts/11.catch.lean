/-! a catch type that isn't resolved yet: the search resolves it, and goes on -/
def g_Sr (e : Env) (f : JFrame) (a : Addr) (tb : List ExceptionTableEntry) (r : Handler) (u u' : State) : Prop :=
  ∀ (Q : Handler → Pre) (Z : CtlPost) (d : Bool) (acts : List Action), wp (findHandler.go f a tb) Q Z e d acts u ↔ Q r d acts u'
theorem g_go_cold {e : Env} {s : State} {f : JFrame} {a : Addr} {Q : Handler → Pre} {Z : CtlPost} {d : Bool} {acts : List Action} {x : ExceptionTableEntry} {t : List ExceptionTableEntry} {c : ClassId} {cell : Cell} {vm' : Vm}
    (hx : covers x f.pc = true) (h0 : x.catchType ≠ 0) (hg : (Jvm.resolveClass f.method.cls x.catchType).Gives e.toSetting s.vm (.ok c) vm') (hcell : s.heap[a]? = some cell) (hobj : ∀ k, cell.vm ≠ .statics k)
    (hk : ∃ k, vm'.classes[cell.cls]? = some k) (hc : ∃ k, vm'.classes[c]? = some k) (hsz : vm'.classes.size ≤ s.vm.classes.size) :
    wp (findHandler.go f a (x :: t)) Q Z e d acts s ↔ if vm'.assignable cell.cls c = true then Q (.found x.handlerPc) d acts (s.setVm vm') else wp (findHandler.go f a t) Q Z e d acts (s.setVm vm') := by
  simp only [covers] at hx
  have hop : (VmOp.resolveClass f.method.cls x.catchType).answer e s.vm = .ok c ∧ (VmOp.resolveClass f.method.cls x.catchType).tables e s.vm = vm' := hg.op rfl
  have hla : (VmOp.resolveClass f.method.cls x.catchType).lands e s = .done (s.setVm vm') := VmOp.lands_eq hop.2 hsz
  cases hfit : vm'.assignable cell.cls c <;>
    simp [findHandler.go, hx, h0, hop, hla, hcell, hobj, hk, hc, hfit, VmOp.dirties, VmOp.acts]
theorem g_stepCatch {e : Env} {s : State} {a : Addr} {f : JFrame} {r : List Frame} {pc : Nat} {vm' : Vm} (hfind : ∀ (Q : Handler → Pre) (Z : CtlPost) (d : Bool) (acts : List Action), wp (findHandler f a) Q Z e d acts s ↔ Q (.found pc) d acts (s.setVm vm')) :
    (stepThrowing e s a (.java f :: r)).Is ((s.setVm vm').setFrames (.java { f with pc := pc, stack := [.ref a] } :: r)) [] := by
  simp only [stepThrowing, searchFrame, vmDo]
  generalize hr : Sem.go _ e false [] s = res
  obtain ⟨as, rfl, ha⟩ := Sem.eq_ok_of hr (a := Handler.found pc) (s' := s.setVm vm') (acts' := []) (by simp [hfind _ _ _ _])
  exact ⟨rfl, ha⟩
theorem g_caught {tb : Tables} {e : Env} {s target : State} {g : JFrame} {c : Code} {below : List Frame} {a : Addr} (h : At s g.method c below) {pc : Nat} {vm' : Vm}
    (hfind : ∀ (Q : Handler → Pre) (Z : CtlPost) (d : Bool) (acts : List Action), wp (findHandler g a) Q Z e d acts ((s.setTop g).pushFrame (.throwing a)) ↔ Q (.found pc) d acts (((s.setTop g).pushFrame (.throwing a)).setVm vm'))
    (hrest : Steps tb e below ((s.setVm vm').setTop { g with pc := pc, stack := [.ref a] }) target) :
    Steps tb e below ((s.setTop g).pushFrame (.throwing a)) target := by
  obtain ⟨hgo, hw⟩ := h.throwing a
  refine Steps.head hgo hw ?_
  rw [stepThread_throwing (frames_entered h.top _), (g_stepCatch (s := (s.setTop g).pushFrame (.throwing a)) hfind).1]
  obtain ⟨g₀, hg⟩ := Option.isSome_iff_exists.mp h.top
  obtain ⟨r, hr⟩ := State.topJava?_eq_some.mp hg
  have hr' : (s.setVm vm').frames = .java g₀ :: r := hr
  rw [State.setTop_of_frames _ hr'] at hrest
  rw [State.pushFrame, State.setTop_of_frames _ hr, State.setFrames_setFrames, hr]
  have he : ∀ fs fs' : List Frame, ((s.setFrames fs).setVm vm').setFrames fs' = (s.setVm vm').setFrames fs' := fun fs fs' => by
    show ((s.setVm vm').setFrames fs).setFrames fs' = _
    rw [State.setFrames_setFrames]
  rw [he]
  exact hrest
/-- how the search goes through a method's own table: the entries' names, and whether each takes the exception of number k -/
def g_hit (own : String) (k : Nat) (x : ExceptionTableEntry) (nm : String) (b : Bool) : Prop :=
  x.catchType ≠ 0 ∧ Cond.classLink own x.catchType nm ∈ g_wl ∧ ((b = true ∧ nm = g_xn k) ∨ (b = false ∧ Cond.not (.castable (g_xn k) nm) ∈ g_wl))
theorem g_Sr.step {E : g_E} {X : g_X} {M : g_M} (hX : g_ok E X M) {u : State} {g : JFrame} {a : Addr} {cell : Cell} {k : Nat} {x : ExceptionTableEntry} {t : List ExceptionTableEntry} {nm : String} {b : Bool} (hg : g.method = X.m) (hpl : X.e.platform.magicAccessors = ({} : Platform).magicAccessors) (hW : X.s.WarmedH u.vm)
    (hx : covers x g.pc = true) (hh : g_hit M.y.cls k x nm b) (hcell : u.heap[a]? = some cell) (hcv : cell.vm = .none) (hfc : u.vm.findClass (g_xn k) = some cell.cls) :
    ∃ vm' : Vm, X.s.WarmedH vm' ∧ ∀ (Q : Handler → Pre) (Z : CtlPost) (d : Bool) (acts : List Action), wp (findHandler.go g a (x :: t)) Q Z X.e d acts u ↔ if b = true then Q (.found x.handlerPc) d acts (u.setVm vm') else wp (findHandler.go g a t) Q Z X.e d acts (u.setVm vm') := by
  obtain ⟨h0, hlink, hb⟩ := hh
  obtain ⟨cC, hfcC, hcl⟩ := Cond.classLink_spec hX.own (hX.w hlink (A := X.args)) X.e.platform hpl
  obtain ⟨hg₁, hwarm₁, hready₁⟩ := State.classEntry (e := X.e) hW hcl
  have hal : u.vm.Alike (u.vm.noted X.m.cls x.catchType (.cls cC)) := hW.alike.symm.trans hwarm₁.alike
  have hfcC' : (u.vm.noted X.m.cls x.catchType (.cls cC)).findClass nm = some cC := by rw [hwarm₁.alike.findClass]; exact hfcC
  have hfc' : (u.vm.noted X.m.cls x.catchType (.cls cC)).findClass (g_xn k) = some cell.cls := by rw [hal.findClass]; exact hfc
  refine ⟨_, hwarm₁, fun Q Z d acts => ?_⟩
  rw [g_go_cold (vm' := u.vm.noted X.m.cls x.catchType (.cls cC)) hx h0 (by rw [hg]; exact hg₁) hcell (fun k q => by rw [hcv] at q; cases q) (Vm.classAt_of_findClass hfc') (Vm.classAt_of_findClass hfcC') (by no_record)]
  rcases hb with ⟨rfl, rfl⟩ | ⟨rfl, hno⟩
  · have : cell.cls = cC := Option.some.inj (hfc'.symm.trans hfcC')
    subst this
    rw [va_asg]
  · obtain ⟨c1, t1, e1, e2, e3⟩ := va_Nc.of (hX.w hno (A := X.args))
    have hfcs : X.s.vm.findClass (g_xn k) = some cell.cls := by rw [← hW.alike.findClass]; exact hfc
    cases hfcs.symm.trans e1
    cases hfcC.symm.trans e2
    have hno' : (u.vm.noted X.m.cls x.catchType (.cls cC)).assignable cell.cls cC = false := by rw [hwarm₁.alike.assignable]; exact e3
    rw [hno']
