/-- a table's row: the fields of the view's kind ci -/
def g_cf (ci : Nat) (C : String) (T : u_T) (N : Nat) (ty : Nat → FieldType) : Prop :=
  g_cl[ci]? = some (C, T, N) ∧ (∀ w ∈ u_ws C T N, w ∈ g_wl) ∧ (∀ k, k < N → parseFieldDescriptor (T k).2.2.1 = some (ty k)) ∧ ∀ a, a < N → ∀ b, b < N → a ≠ b → (T a).2.1 ≠ (T b).2.1
/-- the pool's entry 'index' of 'own' is field k of kind ci, of this type, final or not, declared by dc -/
def g_fd (own : String) (index ci k : Nat) (ty : FieldType) (fin : Bool) (dc : String) : Prop :=
  ∃ (C : String) (T : u_T) (N : Nat) (ty0 : Nat → FieldType) (ref : String), g_cf ci C T N ty0 ∧ k < N ∧ Cond.fieldLink own index ref (T k).2.1 (T k).2.2.1 ∈ g_wl ∧
    (ref = (T k).1 ∨ Cond.sameField ref (T k).1 (T k).2.1 (T k).2.2.1 ∈ g_wl) ∧ ty0 k = ty ∧ (T k).2.2.2 = fin ∧ (T k).1 = dc
def g_nw (own : String) (index ci N : Nat) (fs : List Value) : Prop :=
  ∃ (C : String) (T : u_T) (ty : Nat → FieldType), g_cf ci C T N ty ∧ Cond.classLink own index C ∈ g_wl ∧ Cond.instantiable C N ∈ g_wl ∧ Cond.initialized C ∈ g_wl ∧ ∀ j, j < N → defaultValue (ty j) = vp_V fs j
/-- an int that is the index k of an array of n -/
def g_ix (i : Int32) (k n : Nat) : Prop := vp_in i n ∧ i.toNatClampNeg = k
theorem g_ix.nat {k n : Nat} (h : k < n) (hn : n < 2 ^ 31) : g_ix (nI k) k n := ⟨nI_in h hn, nI_clamp (by omega)⟩
theorem g_ix.lt {i : Int32} {k n : Nat} (h : g_ix i k n) : k < n := by
  obtain ⟨h1, h2⟩ := h
  subst h2
  exact Nat.not_le.mp fun q => h1 (Or.inr q)
section GHEAP
variable {E : g_E} {X : g_X} {M : g_M} {P : g_P} {h : g_H} {z : Bool} {cs ss pc : Nat} {L : List (Option Value)} {rest : List Value}
theorem g_same {own ref dc n d : String} {s : State} (hw : ∀ w ∈ g_wl, ∀ A : Array Value, w.before A s = true) (hs : ref = dc ∨ Cond.sameField ref dc n d ∈ g_wl) : ∀ x, s.fieldFound? dc n d = some x → s.fieldFound? ref n d = some x := by
  intro x hx
  rcases hs with rfl | hs
  · exact hx
  · exact u_same (hw _ hs #[]) x hx
theorem g_get (hX : g_ok E X M) {index ci k : Nat} {ty : FieldType} {fin : Bool} {dc : String} {a : Nat} {fs : List Value} {v : Value} (hdg : decode M.cc pc = .ok (.getfield index, 3)) (hf : g_fd M.y.cls index ci k ty fin dc) (ha : h a = some (.inr (ci, fs))) (hv : fs[k]? = some v) (pn : Nat) (hpn : pc + 3 = pn)
    (kk : g_Go E X P h z cs ss pn L (v :: rest)) : g_Go E X P h z cs ss pc L (.ref a :: rest) := by
  subst hpn
  intro H locs ls hV hB hlo hL hz
  obtain ⟨C, T, N, ty0, ref, ⟨hc, hin, -, -⟩, hk, hlink, hsame, -, -, -⟩ := hf
  exact va_get (C := C) (T := T) (N := N) (ref := ref) (index := index) (ws := [(a, .inr (ci, fs))]) (Ts := u_ws C T N) hX.exec hX.code (fun w hw => hX.w (hin w hw)) (fun w hw => hw) hX.own hX.K.1
    (fun q e hq => by
      cases q with
      | zero => cases hq; exact hV a _ ha
      | succ q => cases hq) 0 rfl hc k hk (hX.w hlink) (g_same (own := M.y.cls) hX.K.2.1 hsame) hv hdg (kk H locs ls hV hB hlo hL hz)
theorem g_put0 (hX : g_ok E X M) {index ci k : Nat} {ty : FieldType} {dc : String} {a : Nat} {fs : List Value} {v : Value} (hdg : decode M.cc pc = .ok (.putfield index, 3)) (hf : g_fd M.y.cls index ci k ty false dc) (ha : h a = some (.inr (ci, fs))) (hb0 : E.H0.size ≤ a) (hn : narrow ty v = v) (hfit : fits ty v = true) (hl : k < fs.length) (pn : Nat) (hpn : pc + 3 = pn)
    (kk : g_Go E X P (g_set h a (.inr (ci, fs.set k v))) false cs ss pn L rest) : g_Go E X P h z cs ss pc L (v :: .ref a :: rest) := by
  subst hpn
  intro H locs ls hV hB hlo hL hz
  obtain ⟨C, T, N, ty0, ref, ⟨hc, hin, hty, hnm⟩, hk, hlink, hsame, rfl, hfin, -⟩ := hf
  have hts : ∀ w ∈ u_ws C T N, w.before X.args X.s = true := fun w hw => hX.w (hin w hw)
  have hap := va_apart (own := M.y.cls) hts (fun w hw => hw) ty0 hty hnm hX.K.1 hc
  obtain ⟨r, h1, cell, q1, q2, q3, q4⟩ := hV a _ ha
  have hr : r = (C, T, N) := Option.some.inj (h1.symm.trans hc)
  subst hr
  obtain ⟨hS, hfc, kC, hkC, hkind⟩ := hX.K.1.1 ci _ hc
  obtain ⟨cf, kf, fi, f, hi, hsl⟩ := hS k hk
  have hlay := hts _ (u_in_lay hk)
  unfold u_lay at hlay
  rw [if_neg (by rw [hfin]; decide)] at hlay
  have hst := (u_facts hfc hkC (u_lays hts (fun w hw => hw) hk) hi).1
  have h6 := u_store hfc hkC hkind hlay hi (hty k hk) hn hfit
  refine W.putK hX.exec hX.code (f := f) ⟨hX.own, hX.w hlink, ⟨_, _, _, g_same (own := M.y.cls) hX.K.2.1 hsame _ hi⟩, hst⟩ (by rw [q2]; exact h6) q1 q3 (by rw [hsl]; exact k2_hasslot (q4 k hk)) rfl rfl hdg fun H' e1 e2 e3 => ?_
  rw [hsl] at e1 ⊢
  refine kk H' _ ls (hV.put ⟨_, hc, t_OB.to (V := updV (vp_V fs) k v) ⟨_, e1, q2, q3, t_set q4 hap hk v⟩ (fun j _ => vp_updV_set hl v j)⟩ e3) (hB.put e2 e3 hb0) (t_lc (free := fun q => E.H0.size ≤ q) hlo hb0) hL (fun q => by cases q)
theorem g_putF0 (hX : g_ok E X M) {index ci k : Nat} {ty : FieldType} {a : Nat} {fs : List Value} {v : Value} (hdg : decode M.cc pc = .ok (.putfield index, 3)) (hf : g_fd M.y.cls index ci k ty true M.y.cls) (hin2 : M.y.name = "<init>") (ha : h a = some (.inr (ci, fs))) (hb0 : E.H0.size ≤ a) (hn : narrow ty v = v) (hfit : fits ty v = true) (hl : k < fs.length) (pn : Nat) (hpn : pc + 3 = pn)
    (kk : g_Go E X P (g_set h a (.inr (ci, fs.set k v))) false cs ss pn L rest) : g_Go E X P h z cs ss pc L (v :: .ref a :: rest) := by
  subst hpn
  intro H locs ls hV hB hlo hL hz
  obtain ⟨C, T, N, ty0, ref, ⟨hc, hin, hty, hnm⟩, hk, hlink, hsame, rfl, hfin, hdecl⟩ := hf
  have hts : ∀ w ∈ u_ws C T N, w.before X.args X.s = true := fun w hw => hX.w (hin w hw)
  have hap := va_apart (own := M.y.cls) hts (fun w hw => hw) ty0 hty hnm hX.K.1 hc
  obtain ⟨r, h1, cell, q1, q2, q3, q4⟩ := hV a _ ha
  have hr : r = (C, T, N) := Option.some.inj (h1.symm.trans hc)
  subst hr
  obtain ⟨hS, hfc, kC, hkC, hkind⟩ := hX.K.1.1 ci _ hc
  obtain ⟨cf, kf, fi, f, hi, hsl⟩ := hS k hk
  have hlay := hts _ (u_in_lay hk)
  unfold u_lay at hlay
  rw [if_pos hfin] at hlay
  have hst := (u_facts hfc hkC (u_lays hts (fun w hw => hw) hk) hi).1
  have hcf : X.m.cls = cf := by
    obtain ⟨_, _, c', _, _, _, -, -, hf', -, -, -, hown2, -⟩ := Cond.laysFinal_spec hlay
    have e1 : c' = cf := by have := hi.symm.trans hf'; simp at this; exact this.1.symm
    rw [hdecl] at hown2
    rw [← e1]; exact Option.some.inj (hX.own.symm.trans hown2)
  have h6 := u_fits hfc hkC hkind (Or.inr hlay) hi (hty k hk) hn hfit
  refine W.putFinK hX.exec hX.code hX.own (hX.w hlink) (g_same (own := M.y.cls) hX.K.2.1 hsame _ hi) hst hcf (hX.name.trans hin2) (by rw [q2]; exact h6) q1 q3 (by rw [hsl]; exact k2_hasslot (q4 k hk)) rfl rfl hdg fun H' e1 e2 e3 => ?_
  rw [hsl] at e1 ⊢
  refine kk H' _ ls (hV.put ⟨_, hc, t_OB.to (V := updV (vp_V fs) k v) ⟨_, e1, q2, q3, t_set q4 hap hk v⟩ (fun j _ => vp_updV_set hl v j)⟩ e3) (hB.put e2 e3 hb0) (t_lc (free := fun q => E.H0.size ≤ q) hlo hb0) hL (fun q => by cases q)
theorem g_iald (hX : g_ok E X M) {a k n : Nat} {f : Nat → Int32} {i : Int32} (hdg : decode M.cc pc = .ok (.iaload, 1)) (ha : h a = some (.inl (E.D.1 100, n, .inl f))) (hi : g_ix i k n) (pn : Nat) (hpn : pc + 1 = pn)
    (kk : g_Go E X P h z cs ss pn L (.int (f k) :: rest)) : g_Go E X P h z cs ss pc L (.int i :: .ref a :: rest) := by
  subst hpn
  intro H locs ls hV hB hlo hL hz
  obtain ⟨h1, rfl⟩ := hi
  exact va_iald (ws := [(a, .inl (E.D.1 100, n, .inl f))]) hX.exec hX.code hX.K.1 (fun q e hq => by
      cases q with
      | zero => cases hq; exact hV a _ ha
      | succ q => cases hq) 0 0 rfl rfl h1 hdg (kk H locs ls hV hB hlo hL hz)
theorem g_zald (hX : g_ok E X M) {a k n : Nat} {f : Nat → Int32} {i : Int32} (hdg : decode M.cc pc = .ok (.baload, 1)) (ha : h a = some (.inl (E.D.1 101, n, .inl f))) (hi : g_ix i k n) (pn : Nat) (hpn : pc + 1 = pn)
    (kk : g_Go E X P h z cs ss pn L (.int (f k) :: rest)) : g_Go E X P h z cs ss pc L (.int i :: .ref a :: rest) := by
  subst hpn
  intro H locs ls hV hB hlo hL hz
  obtain ⟨h1, rfl⟩ := hi
  exact va_zald (ws := [(a, .inl (E.D.1 101, n, .inl f))]) hX.exec hX.code hX.K.1 (fun q e hq => by
      cases q with
      | zero => cases hq; exact hV a _ ha
      | succ q => cases hq) 0 1 rfl rfl h1 hdg (kk H locs ls hV hB hlo hL hz)
theorem g_lald (hX : g_ok E X M) {a k n : Nat} {f : Nat → Int64} {i : Int32} (hdg : decode M.cc pc = .ok (.laload, 1)) (ha : h a = some (.inl (E.D.1 102, n, .inr (.inl f)))) (hi : g_ix i k n) (pn : Nat) (hpn : pc + 1 = pn)
    (kk : g_Go E X P h z cs ss pn L (.long (f k) :: rest)) : g_Go E X P h z cs ss pc L (.int i :: .ref a :: rest) := by
  subst hpn
  intro H locs ls hV hB hlo hL hz
  obtain ⟨h1, rfl⟩ := hi
  exact va_lald (ws := [(a, .inl (E.D.1 102, n, .inr (.inl f)))]) hX.exec hX.code hX.K.1 (fun q e hq => by
      cases q with
      | zero => cases hq; exact hV a _ ha
      | succ q => cases hq) 0 2 rfl rfl h1 hdg (kk H locs ls hV hB hlo hL hz)
theorem g_iast (hX : g_ok E X M) {a k n : Nat} {f : Nat → Int32} {i x : Int32} (hdg : decode M.cc pc = .ok (.iastore, 1)) (ha : h a = some (.inl (E.D.1 100, n, .inl f))) (hb0 : E.H0.size ≤ a) (hi : g_ix i k n) (pn : Nat) (hpn : pc + 1 = pn)
    (kk : g_Go E X P (g_set h a (.inl (E.D.1 100, n, .inl (upd f k x)))) false cs ss pn L rest) : g_Go E X P h z cs ss pc L (.int x :: .int i :: .ref a :: rest) := by
  subst hpn
  intro H locs ls hV hB hlo hL hz
  obtain ⟨h1, rfl⟩ := hi
  refine W.iast hX.exec hX.code (hV a _ ha) ((hX.K.1.2 0 _ rfl).1 n (fun j => .int (f j))) (fun q => by cases q) (by show ¬ (i < 0 ∨ (arrV _ _ _).slots.size ≤ _); rw [arrV_size]; exact h1) rfl rfl hdg fun H1 e z oq => ?_
  refine kk H1 _ ls (hV.put ?_ oq) (hB.put z oq hb0) (t_lc (free := fun q => E.H0.size ≤ q) hlo hb0) hL (fun q => by cases q)
  show H1[a]? = some (vp_cell _ _)
  rw [e]
  rw [vp_cell_i, vp_cell_i, arrV_store]
  congr 2
  funext q
  by_cases hq : q = i.toNatClampNeg
  · subst hq
    simp [updV, upd]
  · simp [updV, upd, hq]
theorem g_zast (hX : g_ok E X M) {a k n : Nat} {f : Nat → Int32} {i x : Int32} (hdg : decode M.cc pc = .ok (.bastore, 1)) (ha : h a = some (.inl (E.D.1 101, n, .inl f))) (hb0 : E.H0.size ≤ a) (hi : g_ix i k n) (hx : narrow .boolean (.int x) = .int x) (pn : Nat) (hpn : pc + 1 = pn)
    (kk : g_Go E X P (g_set h a (.inl (E.D.1 101, n, .inl (upd f k x)))) false cs ss pn L rest) : g_Go E X P h z cs ss pc L (.int x :: .int i :: .ref a :: rest) := by
  subst hpn
  intro H locs ls hV hB hlo hL hz
  obtain ⟨h1, rfl⟩ := hi
  refine W.zast hX.exec hX.code (hV a _ ha) ((hX.K.1.2 1 _ rfl).1 n (fun j => .int (f j))) (fun q => by cases q) (by show ¬ (i < 0 ∨ (arrV _ _ _).slots.size ≤ _); rw [arrV_size]; exact h1) rfl rfl hdg fun H1 e z oq => ?_
  refine kk H1 _ ls (hV.put ?_ oq) (hB.put z oq hb0) (t_lc (free := fun q => E.H0.size ≤ q) hlo hb0) hL (fun q => by cases q)
  show H1[a]? = some (vp_cell _ _)
  rw [e, hx]
  rw [vp_cell_i, vp_cell_i, arrV_store]
  congr 2
  funext q
  by_cases hq : q = i.toNatClampNeg
  · subst hq
    simp [updV, upd]
  · simp [updV, upd, hq]
theorem g_last (hX : g_ok E X M) {a k n : Nat} {f : Nat → Int64} {i : Int32} {x : Int64} (hdg : decode M.cc pc = .ok (.lastore, 1)) (ha : h a = some (.inl (E.D.1 102, n, .inr (.inl f)))) (hb0 : E.H0.size ≤ a) (hi : g_ix i k n) (pn : Nat) (hpn : pc + 1 = pn)
    (kk : g_Go E X P (g_set h a (.inl (E.D.1 102, n, .inr (.inl (fun j => if j = k then x else f j))))) false cs ss pn L rest) : g_Go E X P h z cs ss pc L (.long x :: .int i :: .ref a :: rest) := by
  subst hpn
  intro H locs ls hV hB hlo hL hz
  obtain ⟨h1, rfl⟩ := hi
  refine W.last hX.exec hX.code (hV a _ ha) ((hX.K.1.2 2 _ rfl).1 n (fun j => .long (f j))) (fun q => by cases q) (by show ¬ (i < 0 ∨ (arrV _ _ _).slots.size ≤ _); rw [arrV_size]; exact h1) rfl rfl hdg fun H1 e z oq => ?_
  refine kk H1 _ ls (hV.put ?_ oq) (hB.put z oq hb0) (t_lc (free := fun q => E.H0.size ≤ q) hlo hb0) hL (fun q => by cases q)
  show H1[a]? = some (vp_cell _ _)
  rw [e]
  show some ((arrV (E.D.1 102) n (fun j => .long (f j))).setSlot i.toNatClampNeg (.long x)) = some (arrV (E.D.1 102) n (fun j => .long (if j = i.toNatClampNeg then x else f j)))
  rw [arrV_store]
  congr 2
  funext q
  by_cases hq : q = i.toNatClampNeg
  · subst hq
    simp [updV]
  · simp [updV, hq]
theorem g_alen (hX : g_ok E X M) {a t n : Nat} {ty : FieldType} {x : vp_A} {cA : ClassId} (hdg : decode M.cc pc = .ok (.arraylength, 1)) (ha : h a = some (.inl (cA, x))) (ht : (g_tys E.D)[t]? = some (cA, ty)) (hn : x.1 = n) (pn : Nat) (hpn : pc + 1 = pn)
    (kk : g_Go E X P h z cs ss pn L (.int (nI n) :: rest)) : g_Go E X P h z cs ss pc L (.ref a :: rest) := by
  subst hpn
  intro H locs ls hV hB hlo hL hz
  subst hn
  exact va_alen (ws := [(a, .inl (cA, x))]) hX.exec hX.code hX.K.1 (fun q e hq => by
      cases q with
      | zero => cases hq; exact hV a _ ha
      | succ q => cases hq) 0 t rfl ht rfl hdg (kk H locs ls hV hB hlo hL hz)
theorem g_new (hX : g_ok E X M) {index ci N : Nat} {fs : List Value} (hdg : decode M.cc pc = .ok (.new index, 3)) (hn : g_nw M.y.cls index ci N fs) (hc1 : cs + 1 ≤ X.R.cells) (hs1 : ss + N ≤ X.R.slots) (pn : Nat) (hpn : pc + 3 = pn)
    (kk : ∀ q : Nat, h q = none → E.H0.size ≤ q → g_Go E X P (g_set h q (.inr (ci, fs))) false (cs + 1) (ss + N) pn L (.ref q :: rest)) : g_Go E X P h z cs ss pc L rest := by
  subst hpn
  intro H locs ls hV hB hlo hL hz
  obtain ⟨C, T, ty, ⟨hc, hin, hty, -⟩, hlink, hins, hini, hfs⟩ := hn
  have hts : ∀ w ∈ u_ws C T N, w.before X.args X.s = true := fun w hw => hX.w (hin w hw)
  have hKn := hX.K.1.1 ci _ hc
  refine W.newcK hX.exec hX.code hX.own (hX.w hlink) (hX.w hins) (hX.w hini) rfl hdg hc1 hs1 hKn.2.1 rfl fun H1 kC hkC e1 z1 o1 => ?_
  exact kk H.size hV.fresh hB.1 H1 locs ls (hV.new ⟨_, hc, (u_born ty hts (fun w hw => hw) hKn hkC e1 hty).to hfs⟩ o1) (hB.grow (by omega) o1) hlo hL (fun q => by cases q)
theorem g_newa (hX : g_ok E X M) {atype : ArrayType} {t : Nat} {ty : FieldType} {n : Int32} {N : Nat} {a0 : vp_A} (hdg : decode M.cc pc = .ok (.newarray atype, 2)) (hw : Cond.arrayClass (newarray.typeOf atype) ∈ g_wl) (hty : newarray.typeOf atype = ty) (ht : (g_tys E.D)[t]? = some (E.D.1 (100 + t), ty)) (hobj : ∀ C, ty ≠ .object C)
    (hcell : ∀ cA : ClassId, vp_cell cA a0 = arrV cA N (fun _ => defaultValue ty)) (hn : ¬ n < 0) (hN : n.toNatClampNeg = N) (hbytes : N * componentBytes ty ≤ 536870912) (hc1 : cs + 1 ≤ X.R.cells) (hs1 : ss + N ≤ X.R.slots) (pn : Nat) (hpn : pc + 2 = pn)
    (kk : ∀ q : Nat, h q = none → E.H0.size ≤ q → g_Go E X P (g_set h q (.inl (E.D.1 (100 + t), a0))) false (cs + 1) (ss + N) pn L (.ref q :: rest)) : g_Go E X P h z cs ss pc L (.int n :: rest) := by
  subst hpn
  intro H locs ls hV hB hlo hL hz
  subst hty
  refine va_newaK hX.exec hX.code (hX.w hw) rfl hdg rfl hn hN hbytes hc1 hs1 rfl fun H1 cA e1 z1 o1 hAr hNm => ?_
  have hRA := (hX.K.1.2 t _ ht).2
  have hcA : cA = E.D.1 (100 + t) := by
    have h2 : X.s.vm.findClass ("[" ++ (newarray.typeOf atype).toString) = some (E.D.1 (100 + t)) := by
      generalize newarray.typeOf atype = ty at hRA hobj
      cases ty with
      | object C => exact absurd rfl (hobj C)
      | _ => exact hRA
    exact Option.some.inj (hNm.symm.trans h2)
  subst hcA
  refine kk H.size hV.fresh hB.1 H1 locs ls (hV.new ?_ o1) (hB.grow (by omega) o1) hlo hL (fun q => by cases q)
  show H1[H.size]? = some (vp_cell _ _)
  rw [hcell]
  exact e1
theorem g_castN (hX : g_ok E X M) {index : Nat} (hdg : decode M.cc pc = .ok (.checkcast index, 3)) (pn : Nat) (hpn : pc + 3 = pn) (kk : g_Go E X P h z cs ss pn L (.null :: rest)) : g_Go E X P h z cs ss pc L (.null :: rest) := by
  subst hpn
  exact fun H locs ls hV hB hlo hL hz => lv_castN hX.exec hX.code hdg (kk H locs ls hV hB hlo hL hz)
theorem g_recv {D : va_G} {s : State} {H : Heap} {ci a : Nat} {C : String} {T : u_T} {N : Nat} {fs : List Value} (hK : va_K D g_cl (g_tys D) s) (hV : g_V D h H) (hc : g_cl[ci]? = some (C, T, N)) (ha : h a = some (.inr (ci, fs))) : ∃ cell : Cell, H[a]? = some cell ∧ cell.vm.isStatics = false ∧ s.vm.findClass C = some cell.cls := by
  obtain ⟨r, h1, cell, q1, q2, q3, q4⟩ := hV a _ ha
  obtain ⟨-, hfc, -⟩ := hK.1 ci _ hc
  exact ⟨cell, q1, by rw [q3]; rfl, by rw [q2]; exact hfc⟩
theorem g_cast (hX : g_ok E X M) {index ci a N : Nat} {C : String} {T : u_T} {fs : List Value} (hdg : decode M.cc pc = .ok (.checkcast index, 3)) (hc : g_cl[ci]? = some (C, T, N)) (hlink : Cond.classLink M.y.cls index C ∈ g_wl) (ha : h a = some (.inr (ci, fs))) (pn : Nat) (hpn : pc + 3 = pn)
    (kk : g_Go E X P h z cs ss pn L (.ref a :: rest)) : g_Go E X P h z cs ss pc L (.ref a :: rest) := by
  subst hpn
  intro H locs ls hV hB hlo hL hz
  exact va_castS hX.exec hX.code hX.own (hX.w hlink) (hX.K.1.1 ci _ hc).2 (g_recv hX.K.1 hV hc ha) hdg (kk H locs ls hV hB hlo hL hz)
end GHEAP
