/-! rows for arrays of references, static arrays -/
section GAL
variable {E : g_E} {X : g_X} {M : g_M} {P : g_P} {h : g_H} {z : Bool} {cs ss pc : Nat} {L : List (Option Value)} {rest : List Value}
abbrev g_refs (E : g_E) (n : Nat) (f : Nat → Option Nat) : va_E := .inl (E.D.1 103, n, .inr (.inr (.inr (.inr f))))
abbrev g_ints (E : g_E) (n : Nat) (f : Nat → Int32) : va_E := .inl (E.D.1 100, n, .inl f)
abbrev g_bools (E : g_E) (n : Nat) (f : Nat → Int32) : va_E := .inl (E.D.1 101, n, .inl f)
abbrev g_longs (E : g_E) (n : Nat) (f : Nat → Int64) : va_E := .inl (E.D.1 102, n, .inr (.inl f))
theorem g_aald (hX : g_ok E X M) {a k n : Nat} {f : Nat → Option Nat} {i : Int32} (hdg : decode M.cc pc = .ok (.aaload, 1)) (ha : h a = some (g_refs E n f)) (hi : g_ix i k n) (pn : Nat) (hpn : pc + 1 = pn)
    (kk : g_Go E X P h z cs ss pn L (va_rf (f k) :: rest)) : g_Go E X P h z cs ss pc L (.int i :: .ref a :: rest) := by
  subst hpn
  intro H locs ls hV hB hlo hL hz
  obtain ⟨h1, rfl⟩ := hi
  exact va_aldq (ws := [(a, g_refs E n f)]) hX.exec hX.code hX.K.1 (fun q e hq => by
      cases q with
      | zero => cases hq; exact hV a _ ha
      | succ q => cases hq) 0 3 rfl rfl h1 hdg (kk H locs ls hV hB hlo hL hz)
theorem g_aast (hX : g_ok E X M) {a b k n ci N : Nat} {C : String} {T0 : u_T} {fs : List Value} {f : Nat → Option Nat} {i : Int32} (hdg : decode M.cc pc = .ok (.aastore, 1)) (ha : h a = some (g_refs E n f)) (hb0 : E.H0.size ≤ a) (hi : g_ix i k n) (hb : h b = some (.inr (ci, fs))) (hcl : g_cl[ci]? = some (C, T0, N)) (hcast : Cond.castable C "java/lang/Object" ∈ g_wl) (pn : Nat) (hpn : pc + 1 = pn)
    (kk : g_Go E X P (g_set h a (g_refs E n (va_up f k (some b)))) false cs ss pn L rest) : g_Go E X P h z cs ss pc L (.ref b :: .int i :: .ref a :: rest) := by
  subst hpn
  intro H locs ls hV hB hlo hL hz
  obtain ⟨h1, rfl⟩ := hi
  have hlt : i.toNatClampNeg < n := Nat.not_le.mp fun q => h1 (Or.inr q)
  have h0 : ¬ i < 0 := fun q => h1 (Or.inl q)
  obtain ⟨cellV, g1, g3, g2⟩ := g_recv hX.K.1 hV hcl hb
  obtain ⟨kA, comp, k1, k2, k3, -⟩ := (hX.K.1.2 3 _ rfl).2
  obtain ⟨kE, hkE, -⟩ := Vm.findClass_spec k3
  obtain ⟨kC, hkC, -⟩ := Vm.findClass_spec g2
  have hasg : X.s.vm.assignable cellV.cls comp = true := by
    obtain ⟨c3, t3, u1, u2, u3⟩ := Cond.castable_spec (hX.w hcast (A := X.args))
    cases g2.symm.trans u1
    cases k3.symm.trans u2
    exact u3
  refine W.aast hX.exec hX.code (hV a _ ha) (fun q h => by cases h) (fun h => by cases h) k1 k2 rfl hkE ⟨h0, by show _ < (arrV _ _ _).slots.size; rw [arrV_size]; exact hlt⟩ g1 (fun q h => by rw [h] at g3; cases g3) hkC hasg rfl rfl hdg fun H1 e zz oq => ?_
  refine kk H1 _ ls (hV.put ?_ oq) (hB.put zz oq hb0) (t_lc (free := fun q => E.H0.size ≤ q) hlo hb0) hL (fun q => by cases q)
  show H1[a]? = some (vp_cell _ _)
  rw [e]
  rw [vp_cell_q, vp_cell_q, arrV_store]
  congr 2
  funext q
  by_cases hq : q = i.toNatClampNeg
  · subst hq
    simp [updV, va_up, va_rf]
  · simp [updV, va_up, hq]
theorem g_anew (hX : g_ok E X M) {index N : Nat} {n : Int32} (hdg : decode M.cc pc = .ok (.anewarray index, 3)) (hlink : Cond.classLink M.y.cls index "java/lang/Object" ∈ g_wl) (hn : ¬ n < 0) (hN : n.toNatClampNeg = N) (hbytes : N * 4 ≤ 536870912) (hc1 : cs + 1 ≤ X.R.cells) (hs1 : ss + N ≤ X.R.slots) (pn : Nat) (hpn : pc + 3 = pn)
    (kk : ∀ q : Nat, h q = none → E.H0.size ≤ q → g_Go E X P (g_set h q (g_refs E N (fun _ => none))) false (cs + 1) (ss + N) pn L (.ref q :: rest)) : g_Go E X P h z cs ss pc L (.int n :: rest) := by
  subst hpn
  subst hN
  intro H locs ls hV hB hlo hL hz
  have hover : va_AO "java/lang/Object" X.s := hX.K.2.2.2.2.2.2.2.1.2.2.2.2
  refine W.anew hX.exec hX.code hX.own (hX.w hlink) (va_AO.use hover) rfl hdg rfl hn hbytes hc1 hs1 fun cA kA comp f1 f2 f3 f4 => ?_
  generalize hH1 : H.push ({ cls := cA, slots := Array.replicate n.toNatClampNeg .null, vm := .none } : Cell) = H1
  have z1 : H1.size = H.size + 1 := by rw [← hH1, Array.size_push]
  have e1 : H1[H.size]? = some (arrV cA n.toNatClampNeg (fun _ => .null)) := by rw [← hH1, Array.getElem?_push_size, ← arrV_new]
  have o1 : ∀ q : Nat, q < H.size → H1[q]? = H[q]? := fun q hq => by rw [← hH1, Array.getElem?_push, if_neg (Nat.ne_of_lt hq)]
  have hcA : cA = E.D.1 103 := by
    obtain ⟨-, -, -, -, -, k4⟩ := (hX.K.1.2 3 _ rfl).2
    exact Option.some.inj (f1.symm.trans k4)
  subst hcA
  refine kk H.size hV.fresh hB.1 H1 locs ls (hV.new ?_ o1) (hB.grow (by omega) o1) hlo hL (fun q => by cases q)
  show H1[H.size]? = some (vp_cell _ _)
  rw [vp_cell_q]
  exact e1
theorem g_alenT (hX : g_ok E X M) {t n : Nat} {ty : FieldType} {F : Nat → Value} (hdg : decode M.cc pc = .ok (.arraylength, 1)) (ha : va_T ty t n F (fun q => E.H0.size ≤ q) X.s E.H0) (pn : Nat) (hpn : pc + 1 = pn)
    (kk : g_Go E X P h z cs ss pn L (.int (nI n) :: rest)) : g_Go E X P h z cs ss pc L (.ref t :: rest) := by
  subst hpn
  intro H locs ls hV hB hlo hL hz
  obtain ⟨cell, h1, h2, h3, h4, h5, h6, h7⟩ := ha
  exact W.alen hX.exec hX.code (by rw [hB.2 t (Array.getElem?_eq_some_iff.mp h1).1]; exact h1) h2 h5 rfl rfl hdg (kk H locs ls hV hB hlo hL hz)
theorem g_ialdT (hX : g_ok E X M) {t n k : Nat} {f : Nat → Int32} {i : Int32} (hdg : decode M.cc pc = .ok (.iaload, 1)) (ha : va_T .int t n (fun j => .int (f j)) (fun q => E.H0.size ≤ q) X.s E.H0) (hi : g_ix i k n) (pn : Nat) (hpn : pc + 1 = pn)
    (kk : g_Go E X P h z cs ss pn L (.int (f k) :: rest)) : g_Go E X P h z cs ss pc L (.int i :: .ref t :: rest) := by
  subst hpn
  intro H locs ls hV hB hlo hL hz
  obtain ⟨cell, h1, h2, h3, h4, h5, h6, h7⟩ := ha
  have hk := hi.lt
  obtain ⟨q1, rfl⟩ := hi
  refine W.iald hX.exec hX.code (by rw [hB.2 t (Array.getElem?_eq_some_iff.mp h1).1]; exact h1) h2 h3 (fun q => q1 (q.elim Or.inl fun w => Or.inr (Nat.le_trans h4 w))) (h6 _ hk) rfl rfl hdg (kk H locs ls hV hB hlo hL hz)
end GAL
