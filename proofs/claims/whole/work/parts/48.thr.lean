/-! a string by ldc_w; a throw with it -/
theorem g_ldcwS {p : Program} {l : Launch} {e : Env} {R : Room} {s : State} {m : MethodId} {args : Array Value} {below : List Frame} {meth : Method} {c : Code} {H : Heap} {locs : List Loc} {cells slots : Nat} {Q : State → Prop} {cc : ByteArray} {pc : Nat} {ls : Array Slot} {rest : List Value} (hexec : p.tables.exec = Jvm.exec) (hb : c.code = cc) {own tx : String} {index q : Nat} (hown : s.vm.findClass own = some m.cls) (hZ : vk_R own index tx q s) (hdg : decode cc pc = .ok (.ldc_w index, 3))
    (k : W p l e R s m args below meth c H locs cells slots Q (F0 m (pc + 3) ls (.ref q :: rest))) : W p l e R s m args below meth c H locs cells slots Q (F0 m pc ls rest) := by
  intro T hT X
  obtain ⟨t, a1, b1⟩ := k T hT X
  exact ⟨t, X.ldcStringW hexec hown (text := tx) (a := q) hZ.1 hZ.2 (g := F0 m pc ls rest) rfl (by rw [hb]; exact hdg) t a1, b1⟩
set_option maxHeartbeats 4000000 in
theorem g_throwW {E : g_E} {X : g_X} {M : g_M} {P : g_P} {h : g_H} {pc p3 p4 p6 p9 : Nat} {L : List (Option Value)} {rest : List Value} (hX : g_ok E X M) (hcls : M.y.cls = "SlideStage") {k i1 i2 ic wt : Nat} {tx : String} (h0 : decode M.cc pc = .ok (.new i1, 3)) (h3 : decode M.cc p3 = .ok (.dup, 1)) (h4 : decode M.cc p4 = .ok (.ldc_w i2, 3)) (h6 : decode M.cc p6 = .ok (.invokespecial ic, 3)) (h9 : decode M.cc p9 = .ok (.athrow, 1))
    (e3 : pc + 3 = p3) (e4 : p3 + 1 = p4) (e6 : p4 + 3 = p6) (e9 : p6 + 3 = p9) (hs : (i2, tx) ∈ g_strs) (ht : g_tw k i1 ic) (hout : M.tb = []) (hP : P.2 (.inl k) h) (hpu : P.1 = false) (hc : 1 ≤ X.R.cells) (hss : 6 ≤ X.R.slots)
    (hRf : 5 < X.R.frames) (hW : (rest.map fun v => v.category).sum ≤ wt) (hRl : wt + 82 ≤ X.R.locals) : g_Go E X P h true 0 0 pc L rest := by
  subst e3
  subst e4
  subst e6
  subst e9
  intro H locs ls hV hB hlo hL hz
  obtain ⟨rfl, rfl, -, -⟩ := hz rfl
  obtain ⟨w1, w2, w3, w4, w5⟩ := ht
  have hown := hX.own
  rw [hcls] at hown
  obtain ⟨cX, kX, hfX, hkX, hordX, hszX⟩ : ∃ cX kX, X.s.vm.findClass (g_xn k) = some cX ∧ X.s.vm.classes[cX]? = some kX ∧ kX.kind = .ordinary ∧ kX.instanceTypes.size = 6 := by
    obtain ⟨c1, k1, q1, q2, q3, -, -, q6⟩ := Cond.instantiable_spec (hX.w w2 (A := X.args))
    exact ⟨c1, k1, q1, q2, q3, q6⟩
  refine W.newcK hX.exec hX.code hown (hX.w w1) (hX.w w2) (hX.w w3) rfl h0 (by omega) (by omega) hfX rfl fun H1 kC hkC c1 z1 o1 => ?_
  have hkk : kX = kC := Option.some.inj (hkX.symm.trans hkC)
  subst hkk
  refine lv_dup hX.exec hX.code h3 rfl ?_
  refine g_ldcwS hX.exec hX.code hown (hX.K.2.2.2.2.2.2.2.2 _ hs) h4 ?_
  intro T hT X'
  have htr : X.e.platform.stackTraces = false := by rw [X'.admits.platform]; exact hX.tr
  have hlocks : X.meth.locks = false := hX.locks
  have hout2 : ∀ x ∈ X.c.exceptionTable.toList, covers x (pc + 3 + 1 + 3 + 3) = false := by
    rw [hX.tb, hout]
    intro x hx
    cases hx
  obtain ⟨U, hst, hrun, hend, hWU, hsame, ce, hce, hoc⟩ := X'.ctorThrowS hX.exec htr hown w4 (names := ["java/lang/RuntimeException", "java/lang/Exception"]) (ic := ic) (by
      intro n hn
      simp only [List.mem_cons, List.not_mem_nil, or_false] at hn
      rcases hn with rfl | rfl <;> decide +kernel)
    (fun w hw => (w5 w hw).elim (fun q => hX.w q) (fun q => g_hw_ok hX.K hX.base X.args w q)) (fun x hx => by cases hx) hfX hkX (a := X.s.heap.size) (by rw [hT]; exact c1) (Nat.le_refl _) (msg := .ref (E.ad (100 + i2))) rfl
    (g := F0 X.m (pc + 3 + 1 + 3) ls (.ref (E.ad (100 + i2)) :: .ref X.s.heap.size :: .ref X.s.heap.size :: rest)) rfl hL.1 rfl rfl rfl (by rw [hX.code]; exact h6) (by rw [hX.code]; exact h9) hout2 (by show 2 + 3 < _; omega)
    (by
      have h7 : (F0 X.m (pc + 3 + 1 + 3) ls (.ref (E.ad (100 + i2)) :: .ref X.s.heap.size :: .ref X.s.heap.size :: rest)).monitorRoom = 0 := by first | rfl | simp [JFrame.monitorRoom]
      rw [h7, List.map_cons, List.sum_cons]
      show 2 * 0 + (1 + _) + (13 * (2 + 1) + 42) ≤ _
      omega) hlocks
  have hold : ∀ q : Nat, q < X.s.heap.size → U.heap[q]? = X.s.heap[q]? := fun q hq => by
    have h1 : X.s.heap[q]? = some X.s.heap[q] := Array.getElem?_eq_getElem hq
    rw [h1]
    exact hsame.old_cell h1
  refine ⟨U, hst, .threw X.s.heap.size, hrun, hend, ⟨⟨.inl k, h, hP, ⟨_, ce, rfl, hce, hoc.vm, by rw [hWU.alike.findClass]; exact hoc.cls⟩, hV.grow hold, hB.grow hsame.2.1 hold⟩, hWU, [], hsame.mono (by omega) (by omega), (fun q hq => by cases hq), (fun q => by rw [hpu] at q; cases q)⟩⟩
