/-! the light layer: a view of the heap (address to cell), a walk over views -/
abbrev g_H : Type := Nat → Option va_E
def g_set (h : g_H) (a : Nat) (e : va_E) : g_H := fun q => if q = a then some e else h q
theorem g_set_same (h : g_H) (a : Nat) (e : va_E) : g_set h a e a = some e := by simp [g_set]
theorem g_set_ne (h : g_H) {a b : Nat} (e : va_E) (hn : b ≠ a) : g_set h a e b = h b := by simp [g_set, hn]
/-- the tables' numbers, the heap at the law's start, places of constants in it -/
abbrev g_E : Type := va_G × Heap × (Nat → Nat)
abbrev g_E.D (E : g_E) : va_G := E.1
abbrev g_E.H0 (E : g_E) : Heap := E.2.1
abbrev g_E.ad (E : g_E) : Nat → Nat := E.2.2
abbrev g_X : Type := Program × Launch × Env × Room × State × MethodId × Array Value × List Frame × Method × Code
abbrev g_X.p (X : g_X) : Program := X.1
abbrev g_X.l (X : g_X) : Launch := X.2.1
abbrev g_X.e (X : g_X) : Env := X.2.2.1
abbrev g_X.R (X : g_X) : Room := X.2.2.2.1
abbrev g_X.s (X : g_X) : State := X.2.2.2.2.1
abbrev g_X.m (X : g_X) : MethodId := X.2.2.2.2.2.1
abbrev g_X.args (X : g_X) : Array Value := X.2.2.2.2.2.2.1
abbrev g_X.below (X : g_X) : List Frame := X.2.2.2.2.2.2.2.1
abbrev g_X.meth (X : g_X) : Method := X.2.2.2.2.2.2.2.2.1
abbrev g_X.c (X : g_X) : Code := X.2.2.2.2.2.2.2.2.2
/-- a method: its name, its bytes, its locals, what it returns, its handlers -/
abbrev g_M : Type := MethodName × ByteArray × Nat × Option FieldType × List (Nat × Nat × Nat × Nat)
abbrev g_M.y (M : g_M) : MethodName := M.1
abbrev g_M.cc (M : g_M) : ByteArray := M.2.1
abbrev g_M.nl (M : g_M) : Nat := M.2.2.1
abbrev g_M.ret (M : g_M) : Option FieldType := M.2.2.2.1
abbrev g_M.tb (M : g_M) : List (Nat × Nat × Nat × Nat) := M.2.2.2.2
def g_cw (M : g_M) : Cond := match M.tb with
  | [] => .code M.y M.cc M.nl M.ret
  | _ :: _ => .codeWith M.y M.cc M.nl M.ret M.tb
/-- threw an exception of this number; or returned -/
abbrev g_R : Type := Nat ⊕ Option Value
/-- what is promised: whether nothing at all is written or made; the outcome and the view -/
abbrev g_P : Type := Bool × (g_R → g_H → Prop)
def g_xn (k : Nat) : String := ["java/lang/IllegalArgumentException", "java/lang/IndexOutOfBoundsException", "java/lang/IllegalStateException", "java/lang/UnsupportedOperationException"].getD k ""
def g_tys (D : va_G) : List (ClassId × FieldType) := [(D.1 100, .int), (D.1 101, .boolean), (D.1 102, .long), (D.1 103, .object "java/lang/Object")]
def g_V (D : va_G) (h : g_H) (H : Heap) : Prop := ∀ (a : Nat) (e : va_E), h a = some e → va_at D g_cl (a, e) H
def g_B (H0 H : Heap) : Prop := H0.size ≤ H.size ∧ ∀ a : Nat, a < H0.size → H[a]? = H0[a]?
theorem g_V.lt {D : va_G} {h : g_H} {H : Heap} (hV : g_V D h H) {a : Nat} {e : va_E} (ha : h a = some e) : a < H.size := (hV a e ha).lt
theorem g_V.put {D : va_G} {h : g_H} {H H1 : Heap} {a : Nat} {e : va_E} (hV : g_V D h H) (he : va_at D g_cl (a, e) H1) (oq : ∀ q : Nat, q ≠ a → H1[q]? = H[q]?) : g_V D (g_set h a e) H1 := by
  intro b e' hb
  by_cases hba : b = a
  · subst hba
    rw [g_set_same] at hb
    cases hb
    exact he
  · rw [g_set_ne h e hba] at hb
    exact (hV b e' hb).kept (oq b hba)
theorem g_V.grow {D : va_G} {h : g_H} {H H1 : Heap} (hV : g_V D h H) (oq : ∀ q : Nat, q < H.size → H1[q]? = H[q]?) : g_V D h H1 := fun a e ha => (hV a e ha).kept (oq a (hV.lt ha))
theorem g_V.new {D : va_G} {h : g_H} {H H1 : Heap} {e : va_E} (hV : g_V D h H) (he : va_at D g_cl (H.size, e) H1) (oq : ∀ q : Nat, q < H.size → H1[q]? = H[q]?) : g_V D (g_set h H.size e) H1 := by
  intro b e' hb
  by_cases hba : b = H.size
  · subst hba
    rw [g_set_same] at hb
    cases hb
    exact he
  · rw [g_set_ne h e hba] at hb
    exact (hV b e' hb).kept (oq b (hV.lt hb))
theorem g_V.fresh {D : va_G} {h : g_H} {H : Heap} (hV : g_V D h H) : h H.size = none := by
  cases hq : h H.size with
  | none => rfl
  | some e => exact absurd (hV.lt hq) (Nat.lt_irrefl _)
theorem g_B.put {H0 H H1 : Heap} {a : Nat} (hB : g_B H0 H) (z : H1.size = H.size) (oq : ∀ q : Nat, q ≠ a → H1[q]? = H[q]?) (ha : H0.size ≤ a) : g_B H0 H1 :=
  ⟨by rw [z]; exact hB.1, fun b hb => (oq b (by omega)).trans (hB.2 b hb)⟩
theorem g_B.grow {H0 H H1 : Heap} (hB : g_B H0 H) (z : H.size ≤ H1.size) (oq : ∀ q : Nat, q < H.size → H1[q]? = H[q]?) : g_B H0 H1 :=
  ⟨Nat.le_trans hB.1 z, fun b hb => (oq b (Nat.lt_of_lt_of_le hb hB.1)).trans (hB.2 b hb)⟩
/-- what the tables say: the fields' slots, the arrays, the words of g_wl, and g_K3 (statics, strings) -/
def g_K (E : g_E) (U : State) : Prop := va_K E.D g_cl (g_tys E.D) U ∧ (∀ w ∈ g_wl, ∀ A : Array Value, w.before A U = true) ∧ g_K3 E.H0 E.ad U
theorem g_K.warm {E : g_E} {s U : State} (hW : s.WarmedH U.vm) (h : g_K E s) : g_K E U := ⟨h.1.moved hW.alike, fun w hw => g_wl_ok w hw hW (h.2.1 w hw), g_K3_warm hW h.2.2⟩
theorem g_K.w {E : g_E} {U : State} (h : g_K E U) {w : Cond} (hw : w ∈ g_wl) {A : Array Value} : w.before A U = true := h.2.1 w hw A
/-- locals: a list, none where nothing is known -/
def g_L (ls : Array Slot) (n : Nat) (L : List (Option Value)) : Prop := ls.size = n ∧ lv_wf ls ∧ ∀ (i : Nat) (v : Value), L[i]? = some (some v) → ls[i]? = some (.val v) ∧ v.category = 1
theorem g_L.store {ls : Array Slot} {n i : Nat} {L : List (Option Value)} {v : Value} (h : g_L ls n L) (hi : i < n) (hc : v.category = 1) : ∃ ls', storeLocals ls i v = some ls' ∧ g_L ls' n (L.set i (some v)) := by
  obtain ⟨h1, h2, h3⟩ := h
  obtain ⟨ls', e', hs, hw, hm⟩ := lv_store1 (l := []) (v := v) ⟨h1, h2, fun q hq => by cases hq⟩ hi hc
  refine ⟨ls', e', hs, hw, fun j w hj => ?_⟩
  by_cases hji : j = i
  · subst hji
    have hw2 : w = v := by
      by_cases hlt : j < L.length
      · rw [List.getElem?_set_self hlt] at hj
        exact (Option.some.inj (Option.some.inj hj)).symm
      · rw [List.getElem?_eq_none (by simpa using Nat.not_lt.mp hlt)] at hj
        cases hj
    subst hw2
    exact ⟨hm (j, w) List.mem_cons_self, hc⟩
  · have hj' : L[j]? = some (some w) := by
      rw [List.getElem?_set_ne (fun q => hji q.symm)] at hj
      exact hj
    obtain ⟨g1, g2⟩ := h3 j w hj'
    obtain ⟨ls2, e2, hs2, hw2, hm2⟩ := lv_store1 (l := [(j, w)]) (v := v) ⟨h1, h2, fun q hq => by
      rw [List.mem_singleton] at hq
      subst hq
      exact g1⟩ hi hc
    have he : ls2 = ls' := Option.some.inj (e2.symm.trans e')
    subst he
    refine ⟨hm2 (j, w) (List.mem_cons_of_mem _ (List.mem_filter.mpr ⟨List.mem_cons_self, ?_⟩)), g2⟩
    simp [hji, g2]
theorem g_L.get {ls : Array Slot} {n i : Nat} {L : List (Option Value)} {v : Value} (h : g_L ls n L) (hi : L[i]? = some (some v)) : ls[i]? = some (.val v) := (h.2.2 i v hi).1
theorem g_L.lt {ls : Array Slot} {n i : Nat} {L : List (Option Value)} {v : Value} (h : g_L ls n L) (hi : L[i]? = some (some v)) : i < n := by
  have h1 := h.get hi
  have h2 := (Array.getElem?_eq_some_iff.mp h1).1
  rw [h.1] at h2
  exact h2
/-- what came out, in the machine's words -/
def g_o (r : g_R) (o : Outcome) (t : State) : Prop := match r with
  | .inr v => o = .returned v
  | .inl k => ∃ (a : Addr) (cell : Cell), o = .threw a ∧ t.heap[a]? = some cell ∧ cell.vm = .none ∧ t.vm.findClass (g_xn k) = some cell.cls
def g_Z (E : g_E) (mc ms : Nat) (P : g_P) (s : State) (o : Outcome) (t : State) : Prop :=
  (∃ (r : g_R) (h' : g_H), P.2 r h' ∧ g_o r o t ∧ g_V E.D h' t.heap ∧ g_B E.H0 t.heap) ∧ s.WarmedH t.vm ∧ ∃ L : List Loc, s.sameButNew ({ t with vm := s.vm } : State) L mc ms ∧ (∀ q ∈ L, E.H0.size ≤ q.base) ∧ (P.1 = true → L = [] ∧ t.heap = s.heap)
def g_Q (E : g_E) (X : g_X) (P : g_P) : State → Prop := fun t => ∃ o, t.status = .running ∧ Ended t X.below o ∧ g_Z E X.R.cells X.R.slots P X.s o t
def g_Wk (X : g_X) (H : Heap) (locs : List Loc) (cs ss : Nat) (Q : State → Prop) (g : JFrame) : Prop := W X.p X.l X.e X.R X.s X.m X.args X.below X.meth X.c H locs cs ss Q g
/-- z: nothing has been written or made so far -/
def g_Go (E : g_E) (X : g_X) (P : g_P) (h : g_H) (z : Bool) (cs ss pc : Nat) (L : List (Option Value)) (st : List Value) : Prop :=
  ∀ (H : Heap) (locs : List Loc) (ls : Array Slot), g_V E.D h H → g_B E.H0 H → (∀ q ∈ locs, E.H0.size ≤ q.base) → g_L ls X.c.maxLocals L → (z = true → locs = [] ∧ H = X.s.heap ∧ cs = 0 ∧ ss = 0) →
    W X.p X.l X.e X.R X.s X.m X.args X.below X.meth X.c H locs cs ss (g_Q E X P) (F0 X.m pc ls st)
def g_ok (E : g_E) (X : g_X) (M : g_M) : Prop :=
  X.p.tables.exec = Jvm.exec ∧ X.c.code = M.cc ∧ X.meth.sig.returnType = M.ret ∧ X.c.maxLocals = M.nl ∧ X.s.vm.findClass M.y.cls = some X.m.cls ∧ g_K E X.s ∧ X.l.stackTraces = false ∧ X.meth.locks = false ∧
    g_B E.H0 X.s.heap ∧ X.meth.name = M.y.name ∧ X.c.exceptionTable.toList = tableOf M.tb
theorem g_ok.exec {E : g_E} {X : g_X} {M : g_M} (h : g_ok E X M) : X.p.tables.exec = Jvm.exec := h.1
theorem g_ok.code {E : g_E} {X : g_X} {M : g_M} (h : g_ok E X M) : X.c.code = M.cc := h.2.1
theorem g_ok.ret {E : g_E} {X : g_X} {M : g_M} (h : g_ok E X M) : X.meth.sig.returnType = M.ret := h.2.2.1
theorem g_ok.nl {E : g_E} {X : g_X} {M : g_M} (h : g_ok E X M) : X.c.maxLocals = M.nl := h.2.2.2.1
theorem g_ok.own {E : g_E} {X : g_X} {M : g_M} (h : g_ok E X M) : X.s.vm.findClass M.y.cls = some X.m.cls := h.2.2.2.2.1
theorem g_ok.K {E : g_E} {X : g_X} {M : g_M} (h : g_ok E X M) : g_K E X.s := h.2.2.2.2.2.1
theorem g_ok.tr {E : g_E} {X : g_X} {M : g_M} (h : g_ok E X M) : X.l.stackTraces = false := h.2.2.2.2.2.2.1
theorem g_ok.locks {E : g_E} {X : g_X} {M : g_M} (h : g_ok E X M) : X.meth.locks = false := h.2.2.2.2.2.2.2.1
theorem g_ok.base {E : g_E} {X : g_X} {M : g_M} (h : g_ok E X M) : g_B E.H0 X.s.heap := h.2.2.2.2.2.2.2.2.1
theorem g_ok.name {E : g_E} {X : g_X} {M : g_M} (h : g_ok E X M) : X.meth.name = M.y.name := h.2.2.2.2.2.2.2.2.2.1
theorem g_ok.tb {E : g_E} {X : g_X} {M : g_M} (h : g_ok E X M) : X.c.exceptionTable.toList = tableOf M.tb := h.2.2.2.2.2.2.2.2.2.2
theorem g_ok.w {E : g_E} {X : g_X} {M : g_M} (h : g_ok E X M) {w : Cond} (hw : w ∈ g_wl) {A : Array Value} : w.before A X.s = true := h.K.w hw
/-- a contract: from the view h with these arguments, the method ends as P says; it makes at most mc cells of ms slots; fr frames deep, of lo words -/
def g_Ct (l : Launch) (M : g_M) (fr lo mc ms : Nat) (as : List Value) (E : g_E) (h : g_H) (P : g_P) : Prop :=
  MetFree l M.y (headSpec [g_cw M] { frames := fr, cells := mc, slots := ms, locals := lo }) (fun a U => a = as.toArray ∧ g_K E U ∧ g_V E.D h U.heap ∧ g_B E.H0 U.heap) (fun _ _ _ _ _ => True) (fun _ st o t => g_Z E mc ms P st o t)
theorem g_cw_spec {M : g_M} {A : Array Value} {s : State} {m : MethodId} (hn : s.methodNamed? M.y = some m) (h : (g_cw M).before A s = true) :
    ∃ meth c, s.vm.method? m = some meth ∧ meth.code = some c ∧ c.code = M.cc ∧ c.maxLocals = M.nl ∧ meth.sig.returnType = M.ret ∧ meth.locks = false ∧ c.exceptionTable.toList = tableOf M.tb ∧ parseMethodDescriptor M.y.desc = some meth.sig := by
  obtain ⟨y, cc, nl, ret, tb⟩ := M
  cases tb with
  | nil =>
    obtain ⟨meth, c, h1, h2, h3, h4, h5, h6, h7, h8⟩ := Cond.code_spec hn (show (Cond.code y cc nl ret).before A s = true from h)
    have h0 : c.exceptionTable.size = 0 := by simpa [Array.isEmpty] using h7
    exact ⟨meth, c, h1, h2, h3, h4, h5, h6, List.eq_nil_of_length_eq_zero (by simpa using h0), h8⟩
  | cons q r =>
    obtain ⟨m', meth, c, h0, h1, h2, h3, h4, h7, h5, h6, h8⟩ := Cond.codeWith_spec (show (Cond.codeWith y cc nl ret (q :: r)).before A s = true from h)
    cases hn.symm.trans h0
    exact ⟨meth, c, h1, h2, h3, h4, h5, h6, by show c.exceptionTable.toList = tableOf (q :: r); rw [← h7, table_eq], h8⟩
theorem g_entry (m : MethodId) (vs : List Value) (n : Nat) (hv : ∀ v ∈ vs, v.category = 1) (hn : vs.length ≤ n) : ∃ ls, entryFrame m vs.toArray n = F0 m 0 ls [] ∧ g_L ls n (vs.map some ++ List.replicate (n - vs.length) none) := by
  have hsl : ∀ ws : List Value, (∀ v ∈ ws, v.category = 1) → lg_sl ws = ws.map Slot.val := by
    intro ws
    induction ws with
    | nil => intro _; rfl
    | cons a r ih =>
      intro h
      have ha : ¬ a.category = 2 := by rw [h a List.mem_cons_self]; decide
      show (if a.category = 2 then [Slot.val a, .second] else [.val a]) ++ lg_sl r = _
      rw [if_neg ha, ih fun v hv => h v (List.mem_cons_of_mem _ hv)]
      rfl
  have e1 := hsl vs hv
  have hl : (lg_sl vs).length ≤ n := by rw [e1, List.length_map]; exact hn
  have h2 := lv_entry vs hl
  refine ⟨_, lg_entry_eq m vs n, h2.1, h2.2.1, fun i v hi => ?_⟩
  have hlt : i < vs.length := by
    apply Classical.byContradiction
    intro hge
    rw [List.getElem?_append_right (by rw [List.length_map]; omega), List.getElem?_replicate] at hi
    split at hi
    · cases hi
    · cases hi
  rw [List.getElem?_append_left (by rw [List.length_map]; exact hlt), List.getElem?_map] at hi
  cases hq : vs[i]? with
  | none => rw [hq] at hi; cases hi
  | some w =>
    rw [hq] at hi
    have hw : w = v := Option.some.inj (Option.some.inj hi)
    subst hw
    refine ⟨?_, hv w (List.mem_of_getElem? hq)⟩
    rw [e1, List.getElem?_toArray, List.getElem?_append_left (by rw [List.length_map]; exact hlt), List.getElem?_map, hq]
    rfl
theorem g_Ct.of {l : Launch} {M : g_M} {fr lo mc ms : Nat} {as : List Value} {E : g_E} {h : g_H} {P : g_P} (hl : l.stackTraces = false) (hy : plainName M.y.cls = true) (hv0 : as.all (fun v => v.category == 1) = true) (hn : as.length ≤ M.nl)
    (body : ∀ X : g_X, g_ok E X M → X.l = l → X.R = { frames := fr, cells := mc, slots := ms, locals := lo } → g_Go E X P h true 0 0 0 (as.map some ++ List.replicate (M.nl - as.length) none) []) : g_Ct l M fr lo mc ms as E h P := by
  have hv : ∀ v ∈ as, v.category = 1 := fun v hv => by
    have h1 := List.all_eq_true.mp hv0 v hv
    simpa using h1
  refine MetFree.of_bodyS (code := M.cc) (maxLocals := M.nl) (ret := M.ret) hy ?_ ?_
  · intro args s m h hn
    obtain ⟨meth, c, h1, h2, h3, h4, h5, h6, -, -⟩ := g_cw_spec hn (atoms_spec (ws := [g_cw M]) h _ List.mem_cons_self)
    exact ⟨meth, c, h1, h2, h3, h4, h5, h6⟩
  · intro p e s m args below meth c s₁ B hml hP _
    obtain ⟨rfl, hK, hV, hB⟩ := hP
    have hpre := atoms_spec (ws := [g_cw M]) B.pre _ List.mem_cons_self
    obtain ⟨meth', c', h1, h2, h3, h4, h5, h6, h7, -⟩ := g_cw_spec B.named hpre
    have X₀ := Stand.of_body B
    cases B.method.symm.trans h1
    cases X₀.code.symm.trans h2
    have hown : s.vm.findClass M.y.cls = some m.cls := findClass_of_methodNamed B.named
    have hnm : meth.name = M.y.name := (name_of_methodNamed B.named B.method).1
    obtain ⟨ls, he, hL⟩ := g_entry m as M.nl hv hn
    have hok : g_ok E (p, l, e, { frames := fr, cells := mc, slots := ms, locals := lo }, s, m, as.toArray, below, meth, c) M :=
      ⟨B.exec, h3, h5, h4, hown, hK, hl, h6, hB, hnm, h7⟩
    have hgo := body (p, l, e, { frames := fr, cells := mc, slots := ms, locals := lo }, s, m, as.toArray, below, meth, c) hok rfl rfl
    have hh0 : s₁.heap = s.heap := by rw [B.state]; rfl
    rw [he]
    obtain ⟨t, a1, o, b1, b2, b3⟩ := hgo s₁.heap [] ls (by rw [hh0]; exact hV) (by rw [hh0]; exact hB) (fun q hq => by cases hq) (by show g_L ls c.maxLocals _; rw [h4]; exact hL) (fun _ => ⟨rfl, hh0, rfl, rfl⟩) s₁ rfl X₀
    exact ⟨t, o, a1, b1, b2, b3⟩
theorem g_pu {P : g_P} {z : Bool} {locs : List Loc} {H : Heap} {cs ss : Nat} {s T : State} (hpu : (!P.1 || z) = true) (h1 : P.1 = true) (hz : z = true → locs = [] ∧ H = s.heap ∧ cs = 0 ∧ ss = 0) (hT : T.heap = H) : locs = [] ∧ T.heap = s.heap := by
  rw [h1] at hpu
  have h2 : z = true := by simpa using hpu
  obtain ⟨q1, q2, -, -⟩ := hz h2
  exact ⟨q1, hT.trans q2⟩
theorem g_rfr (r : Option Nat) : (va_rf r).isRef = true := by cases r <;> rfl
theorem g_rfc (r : Option Nat) : ((va_rf r).category == 1) = true := by cases r <;> rfl
