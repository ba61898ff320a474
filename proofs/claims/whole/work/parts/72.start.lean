/-! what the start gives: the tables' numbers, the statics' and the strings' places -/
theorem s_nc : (g_nc.all fun w => (flatC (Jvm.Cond.and given_1 narrow_1)).contains w) = true := by decide +kernel
theorem s_wl {b : Nat} {s : State} (hts : ∀ w ∈ lw_tbl, w.before #[Value.ref b] s = true) (hgv : (Jvm.Cond.and given_1 narrow_1).before #[Value.ref b] s = true) : ∀ w ∈ g_wl, ∀ A : Array Value, w.before A s = true := by
  intro w hw A
  have hg : g_good w = true := by
    rcases List.mem_append.mp hw with h1 | h1
    · exact (List.mem_filter.mp h1).2
    · exact List.all_eq_true.mp g_nc_ok w h1
  have h0 : w.before #[Value.ref b] s = true := by
    rcases List.mem_append.mp hw with h1 | h1
    · exact hts w (List.mem_filter.mp h1).1
    · exact flat_of_before _ hgv w (List.contains_iff_mem.mp (List.all_eq_true.mp s_nc w h1))
  unfold g_good at hg
  simp only [Bool.or_eq_true] at hg
  rcases hg with h | h | h | h
  · exact word_at (State.WarmedH.refl s) (good_of_word h) h0
  · have ho : w.onTables = true := by
      cases w <;> first | rfl | simp [Cond.faceAtom] at h
    exact va_any ho h0
  · match w, h with
    | .not (.castable a b), _ =>
      simp only [Cond.before, Cond.holds, Cond.value] at h0 ⊢
      exact h0
  · cases w with
    | methodLinkNest a i x hh => exact va_any rfl h0
    | _ => cases h
def s_D (cs as : List ClassId) (is : List (Nat → Nat)) : va_G := (fun k => if k < 100 then cs.getD k 0 else as.getD (k - 100) 0, fun k => is.getD k (fun _ => 0))
theorem s_K {s : State} (hw : ∀ w ∈ g_wl, ∀ A : Array Value, w.before A s = true) (hao : va_AO "java/lang/Object" s) : ∃ D : va_G, va_K D g_cl (g_tys D) s := by
  obtain ⟨c0, i0, k0⟩ := u_known (n := 9) (args := #[]) (fun w h => hw w h #[]) kc0.2.1 (hw _ (g_in 70 (by decide +kernel) (by decide +kernel)) #[])
  obtain ⟨c1, i1, k1⟩ := u_known (n := 4) (args := #[]) (fun w h => hw w h #[]) kc1.2.1 (hw _ (g_in 413 (by decide +kernel) (by decide +kernel)) #[])
  obtain ⟨c2, i2, k2⟩ := u_known (n := 7) (args := #[]) (fun w h => hw w h #[]) kc2.2.1 (hw _ (g_in 530 (by decide +kernel) (by decide +kernel)) #[])
  obtain ⟨c3, i3, k3⟩ := u_known (n := 2) (args := #[]) (fun w h => hw w h #[]) kc3.2.1 (hw _ (g_in 646 (by decide +kernel) (by decide +kernel)) #[])
  obtain ⟨c4, i4, k4⟩ := u_known (n := 8) (args := #[]) (fun w h => hw w h #[]) kc4.2.1 (hw _ (g_in 732 (by decide +kernel) (by decide +kernel)) #[])
  obtain ⟨c5, i5, k5⟩ := u_known (n := 5) (args := #[]) (fun w h => hw w h #[]) kc5.2.1 (hw _ (g_in 106 (by decide +kernel) (by decide +kernel)) #[])
  obtain ⟨c6, i6, k6⟩ := u_known (n := 3) (args := #[]) (fun w h => hw w h #[]) kc6.2.1 (hw _ (g_in 79 (by decide +kernel) (by decide +kernel)) #[])
  obtain ⟨c7, i7, k7⟩ := u_known (n := 29) (args := #[]) (fun w h => hw w h #[]) kc7.2.1 (hw _ (g_in 816 (by decide +kernel) (by decide +kernel)) #[])
  obtain ⟨a0, ka0, m0, x0, y0, z0⟩ := Cond.arrayClass_spec (hw _ a_int #[])
  obtain ⟨a1, ka1, m1, x1, y1, z1⟩ := Cond.arrayClass_spec (hw _ a_boolean #[])
  obtain ⟨a2, ka2, m2, x2, y2, z2⟩ := Cond.arrayClass_spec (hw _ a_long #[])
  obtain ⟨comp, a3, ka3, u1, -, u3, u4, u5⟩ := Cond.arrayOver_spec hao
  refine ⟨s_D [c0, c1, c2, c3, c4, c5, c6, c7] [a0, a1, a2, a3] [i0, i1, i2, i3, i4, i5, i6, i7], fun c q hq => ?_, fun k q hq => ?_⟩
  · have hc : c < 8 := (List.getElem?_eq_some_iff.mp hq).1
    have h8 : c = 0 ∨ c = 1 ∨ c = 2 ∨ c = 3 ∨ c = 4 ∨ c = 5 ∨ c = 6 ∨ c = 7 := by omega
    rcases h8 with rfl | rfl | rfl | rfl | rfl | rfl | rfl | rfl
    · cases hq
      exact k0
    · cases hq
      exact k1
    · cases hq
      exact k2
    · cases hq
      exact k3
    · cases hq
      exact k4
    · cases hq
      exact k5
    · cases hq
      exact k6
    · cases hq
      exact k7
  · have hc : k < 4 := (List.getElem?_eq_some_iff.mp hq).1
    have h4 : k = 0 ∨ k = 1 ∨ k = 2 ∨ k = 3 := by omega
    rcases h4 with rfl | rfl | rfl | rfl
    · cases hq
      exact ⟨fun n z => ⟨(fun _ h => by cases h), ka0, y0, m0, z0⟩, x0⟩
    · cases hq
      exact ⟨fun n z => ⟨(fun _ h => by cases h), ka1, y1, m1, z1⟩, x1⟩
    · cases hq
      exact ⟨fun n z => ⟨(fun _ h => by cases h), ka2, y2, m2, z2⟩, x2⟩
    · cases hq
      exact ⟨fun n z => ⟨(fun _ h => by cases h), ka3, u3, comp, u4⟩, ka3, comp, u3, u4, u1, u5⟩
theorem s_SZ {C n d : String} {A : Array Value} {s : State} {v : Value} (h1 : (Cond.laysStatic C n d).before A s = true) (h2 : (Cond.initialized C).before A s = true) (h3 : (Term.static C n d).eval A s none [] s = some v) : g_SZ C n d v s.heap s := by
  obtain ⟨c, k, i, f, a, cell, e1, e2, e3, e4, e5, e6, e7, e8, e9⟩ := Cond.laysStatic_spec h1
  obtain ⟨-, a', cell', f1, f2, -, f3⟩ := Term.static_spec e2 h3
  cases e4.symm.trans f1
  cases e5.symm.trans f2
  exact ⟨c, k, i, f, a, cell, e1, e2, e3, e4, e5, e6, e7, e8, e9, Cond.initialized_spec e1 (State.fieldFound?_class e2) h2, f3⟩
theorem s_least {b : Nat} {s : State} (hs : ∀ c ∈ flatC (Jvm.Cond.and given_1 narrow_1), c.before #[Value.ref b] s = true) : ∃ t : Nat, (Term.static "SlideStage" "LEAST" "[I").eval #[Value.ref b] s none [] s = some (.ref t) ∧ va_T .int t 7 (fun j => .int (g_least j)) (fun q => s.heap.size ≤ q) s s.heap := by
  refine va_Tof (tm := .static "SlideStage" "LEAST" "[I") (by decide) (hs (.arrayOf (.static "SlideStage" "LEAST" "[I") .int) (by decide +kernel)) (va_eqt (hs (.eq (.length (.static "SlideStage" "LEAST" "[I")) (.int 7)) (by decide +kernel))) (fun j hj => ?_) (fun a ha q => absurd ha (Nat.not_lt.mpr q))
  have h7 : j = 0 ∨ j = 1 ∨ j = 2 ∨ j = 3 ∨ j = 4 ∨ j = 5 ∨ j = 6 := by omega
  rcases h7 with rfl | rfl | rfl | rfl | rfl | rfl | rfl
  · exact va_eqt (hs (.eq (.elem (.static "SlideStage" "LEAST" "[I") (.int 0)) (.int (-40))) (by decide +kernel))
  · exact va_eqt (hs (.eq (.elem (.static "SlideStage" "LEAST" "[I") (.int 1)) (.int (-40))) (by decide +kernel))
  · exact va_eqt (hs (.eq (.elem (.static "SlideStage" "LEAST" "[I") (.int 2)) (.int (0))) (by decide +kernel))
  · exact va_eqt (hs (.eq (.elem (.static "SlideStage" "LEAST" "[I") (.int 3)) (.int (0))) (by decide +kernel))
  · exact va_eqt (hs (.eq (.elem (.static "SlideStage" "LEAST" "[I") (.int 4)) (.int (0))) (by decide +kernel))
  · exact va_eqt (hs (.eq (.elem (.static "SlideStage" "LEAST" "[I") (.int 5)) (.int (0))) (by decide +kernel))
  · exact va_eqt (hs (.eq (.elem (.static "SlideStage" "LEAST" "[I") (.int 6)) (.int (1))) (by decide +kernel))
theorem s_great {b : Nat} {s : State} (hs : ∀ c ∈ flatC (Jvm.Cond.and given_1 narrow_1), c.before #[Value.ref b] s = true) : ∃ t : Nat, (Term.static "SlideStage" "GREATEST" "[I").eval #[Value.ref b] s none [] s = some (.ref t) ∧ va_T .int t 7 (fun j => .int (g_great j)) (fun q => s.heap.size ≤ q) s s.heap := by
  refine va_Tof (tm := .static "SlideStage" "GREATEST" "[I") (by decide) (hs (.arrayOf (.static "SlideStage" "GREATEST" "[I") .int) (by decide +kernel)) (va_eqt (hs (.eq (.length (.static "SlideStage" "GREATEST" "[I")) (.int 7)) (by decide +kernel))) (fun j hj => ?_) (fun a ha q => absurd ha (Nat.not_lt.mpr q))
  have h7 : j = 0 ∨ j = 1 ∨ j = 2 ∨ j = 3 ∨ j = 4 ∨ j = 5 ∨ j = 6 := by omega
  rcases h7 with rfl | rfl | rfl | rfl | rfl | rfl | rfl
  · exact va_eqt (hs (.eq (.elem (.static "SlideStage" "GREATEST" "[I") (.int 0)) (.int (40))) (by decide +kernel))
  · exact va_eqt (hs (.eq (.elem (.static "SlideStage" "GREATEST" "[I") (.int 1)) (.int (40))) (by decide +kernel))
  · exact va_eqt (hs (.eq (.elem (.static "SlideStage" "GREATEST" "[I") (.int 2)) (.int (40))) (by decide +kernel))
  · exact va_eqt (hs (.eq (.elem (.static "SlideStage" "GREATEST" "[I") (.int 3)) (.int (40))) (by decide +kernel))
  · exact va_eqt (hs (.eq (.elem (.static "SlideStage" "GREATEST" "[I") (.int 4)) (.int (16777215))) (by decide +kernel))
  · exact va_eqt (hs (.eq (.elem (.static "SlideStage" "GREATEST" "[I") (.int 5)) (.int (255))) (by decide +kernel))
  · exact va_eqt (hs (.eq (.elem (.static "SlideStage" "GREATEST" "[I") (.int 6)) (.int (4))) (by decide +kernel))
theorem s_empty {b : Nat} {s : State} (hs : ∀ c ∈ flatC (Jvm.Cond.and given_1 narrow_1), c.before #[Value.ref b] s = true) : ∃ t : Nat, (Term.static "java/util/ArrayList" "DEFAULTCAPACITY_EMPTY_ELEMENTDATA" "[Ljava/lang/Object;").eval #[Value.ref b] s none [] s = some (.ref t) ∧ va_T (.object "java/lang/Object") t 0 (fun _ => .null) (fun q => s.heap.size ≤ q) s s.heap :=
  va_Tof (tm := .static "java/util/ArrayList" "DEFAULTCAPACITY_EMPTY_ELEMENTDATA" "[Ljava/lang/Object;") (by decide) (hs (.arrayOf (.static "java/util/ArrayList" "DEFAULTCAPACITY_EMPTY_ELEMENTDATA" "[Ljava/lang/Object;") (.object "java/lang/Object")) (by decide +kernel)) (va_eqt (hs (.eq (.length (.static "java/util/ArrayList" "DEFAULTCAPACITY_EMPTY_ELEMENTDATA" "[Ljava/lang/Object;")) (.int 0)) (by decide +kernel))) (fun j hj => absurd hj (Nat.not_lt_zero _)) (fun a ha q => absurd ha (Nat.not_lt.mpr q))
theorem s_strs {b : Nat} {s : State} (hts : ∀ w ∈ lw_tbl, w.before #[Value.ref b] s = true) (hs : ∀ c ∈ flatC (Jvm.Cond.and given_1 narrow_1), c.before #[Value.ref b] s = true) : ∀ q ∈ g_strs, ∃ a : Nat, vk_R "SlideStage" q.1 q.2 a s := by
  have key : ∀ (k : Nat) (tx : String), Cond.stringRef "SlideStage" k tx ∈ lw_tbl → Cond.exactly (.string "SlideStage" k) "java/lang/String" ∈ flatC (Jvm.Cond.and given_1 narrow_1) → ∃ a : Nat, vk_R "SlideStage" k tx a s := fun k tx h1 h2 => by
    obtain ⟨a, -, -, -, h3, -⟩ := Cond.exactly_spec (hs _ h2)
    exact ⟨a, vk_R.of (hts _ h1) h3⟩
  intro q hq
  simp only [g_strs, List.mem_cons, List.not_mem_nil, or_false] at hq
  rcases hq with rfl | rfl | rfl | rfl | rfl | rfl | rfl | rfl | rfl | rfl | rfl | rfl | rfl | rfl | rfl | rfl | rfl | rfl | rfl | rfl | rfl
  · exact key 53 "no such kind of page" (List.mem_of_getElem? (i := 347) (by decide +kernel)) (by decide +kernel)
  · exact key 68 "no such parent for this kind" (List.mem_of_getElem? (i := 390) (by decide +kernel)) (by decide +kernel)
  · exact key 79 "no more pages" (List.mem_of_getElem? (i := 406) (by decide +kernel)) (by decide +kernel)
  · exact key 95 "no such page" (List.mem_of_getElem? (i := 511) (by decide +kernel)) (by decide +kernel)
  · exact key 97 "no such slot" (List.mem_of_getElem? (i := 512) (by decide +kernel)) (by decide +kernel)
  · exact key 103 "the slot is taken" (List.mem_of_getElem? (i := 513) (by decide +kernel)) (by decide +kernel)
  · exact key 107 "no more shapes" (List.mem_of_getElem? (i := 523) (by decide +kernel)) (by decide +kernel)
  · exact key 301 "no such property" (List.mem_of_getElem? (i := 580) (by decide +kernel)) (by decide +kernel)
  · exact key 309 "no such value for the property" (List.mem_of_getElem? (i := 585) (by decide +kernel)) (by decide +kernel)
  · exact key 311 "no such shape" (List.mem_of_getElem? (i := 597) (by decide +kernel)) (by decide +kernel)
  · exact key 160 "no such level" (List.mem_of_getElem? (i := 636) (by decide +kernel)) (by decide +kernel)
  · exact key 166 "no such words" (List.mem_of_getElem? (i := 643) (by decide +kernel)) (by decide +kernel)
  · exact key 171 "no more paragraphs" (List.mem_of_getElem? (i := 644) (by decide +kernel)) (by decide +kernel)
  · exact key 202 "no such kind or trigger" (List.mem_of_getElem? (i := 722) (by decide +kernel)) (by decide +kernel)
  · exact key 204 "no such delay or duration" (List.mem_of_getElem? (i := 723) (by decide +kernel)) (by decide +kernel)
  · exact key 209 "the shape is on no slide" (List.mem_of_getElem? (i := 724) (by decide +kernel)) (by decide +kernel)
  · exact key 211 "no more effects" (List.mem_of_getElem? (i := 725) (by decide +kernel)) (by decide +kernel)
  · exact key 313 "no such effect" (List.mem_of_getElem? (i := 781) (by decide +kernel)) (by decide +kernel)
  · exact key 235 "no such amount" (List.mem_of_getElem? (i := 782) (by decide +kernel)) (by decide +kernel)
  · exact key 274 "no such slide" (List.mem_of_getElem? (i := 797) (by decide +kernel)) (by decide +kernel)
  · exact key 276 "no such time to pass" (List.mem_of_getElem? (i := 805) (by decide +kernel)) (by decide +kernel)
def s_ad (t0 t1 t2 mi : Nat) (f : Nat → Nat) : Nat → Nat := fun n => if n = 0 then t0 else if n = 1 then t1 else if n = 2 then t2 else if n = 3 then mi else f (n - 100)
theorem s_start {b : Nat} {s : State} (hts : ∀ w ∈ lw_tbl, w.before #[Value.ref b] s = true) (hgv : (Jvm.Cond.and given_1 narrow_1).before #[Value.ref b] s = true) : ∃ E : g_E, E.H0 = s.heap ∧ g_K E s := by
  have hs := flat_of_before _ hgv
  have hw := s_wl hts hgv
  have hao : va_AO "java/lang/Object" s := va_AO.of (hts (.arrayOver (.object "java/lang/Object")) (List.mem_of_getElem? (i := 489) (by decide +kernel)))
  obtain ⟨D, hD⟩ := s_K hw hao
  obtain ⟨t0, e0, v0⟩ := s_least hs
  obtain ⟨t1, e1, v1⟩ := s_great hs
  obtain ⟨t2, e2, v2⟩ := s_empty hs
  obtain ⟨mi, hmi⟩ := va_Mi.of (hs (.isRef (.mirror "[Ljava/lang/Object;")) (by decide +kernel))
  obtain ⟨v4, e4, r4⟩ := Cond.isRef_spec (hs (.isRef (.static "java/lang/Throwable" "UNASSIGNED_STACK" "[Ljava/lang/StackTraceElement;")) (by decide +kernel))
  obtain ⟨v5, e5, r5⟩ := Cond.isRef_spec (hs (.isRef (.static "java/lang/Throwable" "SUPPRESSED_SENTINEL" "Ljava/util/List;")) (by decide +kernel))
  have hst := s_strs hts hs
  refine ⟨(D, s.heap, s_ad t0 t1 t2 mi (fun k => Classical.epsilon (fun a : Nat => (Term.string "SlideStage" k).eval #[] s none [] s = some (.ref a)))), rfl, hD, hw, ?_⟩
  refine ⟨s_SZ (hts (.laysStatic "SlideStage" "LEAST" "[I") (List.mem_of_getElem? (i := 582) (by decide +kernel))) (hts (.initialized "SlideStage") (List.mem_of_getElem? (i := 46) (by decide +kernel))) e0, s_SZ (hts (.laysStatic "SlideStage" "GREATEST" "[I") (List.mem_of_getElem? (i := 584) (by decide +kernel))) (hts (.initialized "SlideStage") (List.mem_of_getElem? (i := 46) (by decide +kernel))) e1, s_SZ (hts (.laysStatic "java/util/ArrayList" "DEFAULTCAPACITY_EMPTY_ELEMENTDATA" "[Ljava/lang/Object;") (List.mem_of_getElem? (i := 91) (by decide +kernel))) (hts (.initialized "java/util/ArrayList") (List.mem_of_getElem? (i := 49) (by decide +kernel))) e2, ⟨v4, r4, s_SZ (hts (.laysStatic "java/lang/Throwable" "UNASSIGNED_STACK" "[Ljava/lang/StackTraceElement;") (List.mem_of_getElem? (i := 332) (by decide +kernel))) (hts (.initialized "java/lang/Throwable") (List.mem_of_getElem? (i := 52) (by decide +kernel))) e4⟩, ⟨v5, r5, s_SZ (hts (.laysStatic "java/lang/Throwable" "SUPPRESSED_SENTINEL" "Ljava/util/List;") (List.mem_of_getElem? (i := 334) (by decide +kernel))) (hts (.initialized "java/lang/Throwable") (List.mem_of_getElem? (i := 52) (by decide +kernel))) e5⟩, ⟨v0, v1, v2, hmi, hao⟩, fun q hq => ?_⟩
  obtain ⟨a, ha1, ha2⟩ := hst q hq
  refine ⟨ha1, ?_⟩
  show (Term.string "SlideStage" q.1).eval #[] s none [] s = some (.ref (s_ad t0 t1 t2 mi (fun k => Classical.epsilon (fun a : Nat => (Term.string "SlideStage" k).eval #[] s none [] s = some (.ref a))) (100 + q.1)))
  unfold s_ad
  rw [if_neg (by omega), if_neg (by omega), if_neg (by omega), if_neg (by omega), Nat.add_sub_cancel_left]
  exact Classical.epsilon_spec (p := fun a : Nat => (Term.string "SlideStage" q.1).eval #[] s none [] s = some (.ref a)) ⟨a, ha2⟩
