/-! rows: a class constant, getClass() of an array of references, System.arraycopy of such arrays -/
section GCP
variable {E : g_E} {X : g_X} {M : g_M} {P : g_P} {h : g_H} {z : Bool} {cs ss pc : Nat} {L : List (Option Value)} {rest : List Value} {index wt : Nat}
theorem g_mir (hX : g_ok E X M) : va_Mi "[Ljava/lang/Object;" (E.ad 3) X.s := hX.K.2.2.2.2.2.2.2.1.2.2.2.1
theorem g_ldcM (hX : g_ok E X M) (hdg : decode M.cc pc = .ok (.ldc index, 2)) (hlink : Cond.classLink M.y.cls index "[Ljava/lang/Object;" ∈ g_wl) (pn : Nat) (hpn : pc + 2 = pn)
    (kk : g_Go E X P h z cs ss pn L (.ref (E.ad 3) :: rest)) : g_Go E X P h z cs ss pc L rest := by
  subst hpn
  exact fun H locs ls hV hB hlo hL hz => va_ldcM hX.exec hX.code hX.own (hX.w hlink) (g_mir hX) hdg (kk H locs ls hV hB hlo hL hz)
theorem g_getC (hX : g_ok E X M) {a n : Nat} {f : Nat → Option Nat} (hdg : decode M.cc pc = .ok (.invokevirtual index, 3)) (hlink : Cond.methodLink M.y.cls index ⟨"java/lang/Object", "getClass", "()Ljava/lang/Class;"⟩ ∈ g_wl) (hdecl : Cond.declares ⟨"java/lang/Object", "getClass", "()Ljava/lang/Class;"⟩ ∈ g_wl) (hsel : Cond.selects "[Ljava/lang/Object;" ⟨"java/lang/Object", "getClass", "()Ljava/lang/Class;"⟩ ⟨"java/lang/Object", "getClass", "()Ljava/lang/Class;"⟩ ∈ g_wl) (hinst : Cond.instanceMethod ⟨"java/lang/Object", "getClass", "()Ljava/lang/Class;"⟩ ∈ g_wl) (hnat : Cond.native ⟨"java/lang/Object", "getClass", "()Ljava/lang/Class;"⟩ ∈ g_wl) (ha : h a = some (g_refs E n f)) (hfr : 1 ≤ X.R.frames) (hW : (rest.map fun v => v.category).sum ≤ wt) (hlo : wt + 14 ≤ X.R.locals) (pn : Nat) (hpn : pc + 3 = pn)
    (kk : g_Go E X P h z cs ss pn L (.ref (E.ad 3) :: rest)) : g_Go E X P h z cs ss pc L (.ref a :: rest) := by
  subst hpn
  intro H locs ls hV hB hlc hL hz
  obtain ⟨-, -, -, -, -, k4⟩ := (hX.K.1.2 3 _ rfl).2
  exact va_getC hX.exec hX.code hL.1.symm hX.own (hX.w hlink) (hX.w hdecl) (hX.w hsel) (hX.w hinst) (hX.w hnat) (g_mir hX) ⟨_, hV a _ ha, rfl, k4⟩ hfr (by omega) hdg (kk H locs ls hV hB hlc hL hz)
theorem g_copy0 (hX : g_ok E X M) {a a0 n0 n1 N ci NN : Nat} {f g : Nat → Option Nat} {C : String} {T0 : u_T} {n : Int32} (hdg : decode M.cc pc = .ok (.invokestatic index, 3)) (hlink : Cond.methodLink M.y.cls index arraycopyName ∈ g_wl) (hnat : Cond.native arraycopyName ∈ g_wl) (hstat : Cond.static arraycopyName ∈ g_wl) (hini : Cond.initialized "java/lang/System" ∈ g_wl) (ha0 : h a0 = some (g_refs E n0 f)) (ha1 : h a = some (g_refs E n1 g)) (hb0 : E.H0.size ≤ a) (h3 : ¬ n < 0) (hN : n.toNatClampNeg = N) (h4 : N ≤ n0) (h5 : N ≤ n1)
    (hel : ∀ i y, i < N → f i = some y → ∃ fs, h y = some (.inr (ci, fs))) (hcl : g_cl[ci]? = some (C, T0, NN)) (hcast : Cond.castable C "java/lang/Object" ∈ g_wl) (hfr : 1 ≤ X.R.frames) (hW : (rest.map fun v => v.category).sum ≤ wt) (hlo : wt + 30 ≤ X.R.locals) (pn : Nat) (hpn : pc + 3 = pn)
    (kk : g_Go E X P (g_set h a (g_refs E n1 (va_cpy f g 0 0 N))) false cs ss pn L rest) : g_Go E X P h z cs ss pc L (.int n :: .int 0 :: .ref a :: .int 0 :: .ref a0 :: rest) := by
  subst hpn
  subst hN
  intro H locs ls hV hB hlc hL hz T hT X'
  have nn : n.toInt = (n.toNatClampNeg : Int) := by
    have hz0 : (0 : Int) ≤ n.toInt := by
      have := Int32.not_lt.mp h3
      simpa using Int32.le_iff_toInt_le.mp this
    show n.toInt = ((n.toInt.toNat : Nat) : Int)
    omega
  have z0 : (0 : Int32).toNatClampNeg = 0 := by decide
  have zi : (0 : Int32).toInt = 0 := by decide
  have hc0 : H[a0]? = some (vp_cell (E.D.1 103) (n0, .inr (.inr (.inr (.inr f))))) := hV a0 _ ha0
  have hc1 : H[a]? = some (vp_cell (E.D.1 103) (n1, .inr (.inr (.inr (.inr g))))) := hV a _ ha1
  obtain ⟨-, k0, hk0, cm0, hkk0⟩ := (hX.K.1.2 3 _ rfl).1 n0 (fun j => va_rf (f j))
  obtain ⟨-, k1, hk1, cm1, hkk1⟩ := (hX.K.1.2 3 _ rfl).1 n1 (fun j => va_rf (g j))
  have hw30 : nativeFrameWords "java/lang/System" "arraycopy" 5 + 11 ≤ 30 := by decide
  obtain ⟨vm', X2, step⟩ := X'.arraycopy hX.exec hX.own (hX.w hlink) (hX.w hnat) (hX.w hstat) (hX.w hini) (src := a0) (dst := a) (cs := vp_cell (E.D.1 103) (n0, .inr (.inr (.inr (.inr f))))) (cd := vp_cell (E.D.1 103) (n1, .inr (.inr (.inr (.inr g))))) (srcPos := 0) (destPos := 0) (n := n) (by rw [hT]; exact hc0) (by rw [hT]; exact hc1)
    (fun _ h => by cases h) (fun _ h => by cases h) (fun h => by cases h) (fun h => by cases h) hk0 hk1 hkk0 hkk1 rfl (by decide) (by decide) h3
    (by rw [zi, nn]; show ¬ _ > ((arrV (E.D.1 103) n0 (fun j => va_rf (f j))).slots.size : Int); rw [arrV_size]; omega)
    (by rw [zi, nn]; show ¬ _ > ((arrV (E.D.1 103) n1 (fun j => va_rf (g j))).slots.size : Int); rw [arrV_size]; omega)
    (fun vm₁ hal i hi => by
      have e : (vp_cell (E.D.1 103) (n0, .inr (.inr (.inr (.inr f))))).slots.getD ((0 : Int32).toNatClampNeg + i) .null = va_rf (f i) := by
        rw [z0, Nat.zero_add]
        show (arrV (E.D.1 103) n0 (fun j => va_rf (f j))).slots.getD _ _ = _
        rw [Array.getD_eq_getD_getElem?, arrV_read _ _ (by omega)]
        rfl
      rw [e]
      cases hy : f i with
      | none => exact ⟨rfl, trivial⟩
      | some y =>
        obtain ⟨fs, hfs⟩ := hel i y hi hy
        obtain ⟨cellV, g1, g2, g3⟩ := g_recv hX.K.1 hV hcl hfs
        obtain ⟨kA, comp, r1, r2, r3, -⟩ := (hX.K.1.2 3 _ rfl).2
        cases hk1.symm.trans r1
        cases hkk1.symm.trans r2
        obtain ⟨kC, hkC, -⟩ := Vm.findClass_spec g3
        obtain ⟨kE, hkE, -⟩ := Vm.findClass_spec r3
        obtain ⟨kC', hkC', -⟩ := hal.2.2 _ _ hkC
        obtain ⟨kE', hkE', -⟩ := hal.2.2 _ _ hkE
        have hasg : X.s.vm.assignable cellV.cls cm1 = true := by
          obtain ⟨c3, t3, u1, u2, u3⟩ := Cond.castable_spec (hX.w hcast (A := X.args))
          cases g3.symm.trans u1
          cases r3.symm.trans u2
          exact u3
        refine ⟨rfl, cellV, (show T.heap[y]? = some cellV by rw [hT]; exact g1), (fun q h => by rw [h] at g2; cases g2), ⟨kC', hkC'⟩, ?_, ?_⟩
        · exact ⟨kE', hkE'⟩
        · show vm₁.assignable _ _ = true
          rw [hal.assignable]
          exact hasg)
    (g := F0 X.m pc ls (.int n :: .int 0 :: .ref a :: .int 0 :: .ref a0 :: rest)) rfl hL.1 (rest := rest) rfl (by rw [hX.code]; exact hdg) hfr (by show 2 * 0 + _ + _ ≤ _; omega)
  have e1 : copied (vp_cell (E.D.1 103) (n0, .inr (.inr (.inr (.inr f))))) (vp_cell (E.D.1 103) (n1, .inr (.inr (.inr (.inr g))))) 0 0 n = vp_cell (E.D.1 103) (n1, .inr (.inr (.inr (.inr (va_cpy f g 0 0 n.toNatClampNeg))))) := by
    rw [vp_cell_q, vp_cell_q, vp_cell_q]
    exact va_copied (fun z => va_rf z) (E.D.1 103) (E.D.1 103) (sp := 0) (dp := 0) f g (by omega)
  rw [e1] at X2 step
  have hl : a < H.size := (Array.getElem?_eq_some_iff.mp hc1).1
  have hheap : ((T.setVm vm').setCell a (vp_cell (E.D.1 103) (n1, .inr (.inr (.inr (.inr (va_cpy f g 0 0 n.toNatClampNeg))))))).heap = H.setIfInBounds a (vp_cell (E.D.1 103) (n1, .inr (.inr (.inr (.inr (va_cpy f g 0 0 n.toNatClampNeg)))))) := by rw [← hT]; rfl
  have oq : ∀ q : Nat, q ≠ a → (H.setIfInBounds a (vp_cell (E.D.1 103) (n1, .inr (.inr (.inr (.inr (va_cpy f g 0 0 n.toNatClampNeg)))))))[q]? = H[q]? := fun q hq => by simp [Array.getElem?_setIfInBounds, Ne.symm hq]
  obtain ⟨t, a1, b1⟩ := kk _ _ ls (hV.put (show (H.setIfInBounds a _)[a]? = some _ by simp [Array.getElem?_setIfInBounds, hl]) oq) (hB.put (by simp) oq hb0) (fun q hq => by
      rcases List.mem_append.mp hq with h | h
      · exact hlc q h
      · obtain ⟨z, -, hz⟩ := List.mem_map.mp h
        rw [← hz]
        exact hb0) hL (fun q => by cases q) _ hheap X2
  exact ⟨t, step t a1, b1⟩
end GCP
abbrev mAR_copyOf2 : g_M := (⟨"java/util/Arrays", "copyOf", "([Ljava/lang/Object;I)[Ljava/lang/Object;"⟩, prog_25_method_119_code, 2, (some (.array (.object "java/lang/Object"))), [])
theorem dAR_copyOf2_0 : decode prog_25_method_119_code 0 = .ok (.aload_n 0, 1) := by decide +kernel
theorem dAR_copyOf2_1 : decode prog_25_method_119_code 1 = .ok (.iload_n 1, 1) := by decide +kernel
theorem dAR_copyOf2_2 : decode prog_25_method_119_code 2 = .ok (.aload_n 0, 1) := by decide +kernel
theorem dAR_copyOf2_3 : decode prog_25_method_119_code 3 = .ok (.invokevirtual 86, 3) := by decide +kernel
theorem dAR_copyOf2_6 : decode prog_25_method_119_code 6 = .ok (.invokestatic 300, 3) := by decide +kernel
theorem dAR_copyOf2_9 : decode prog_25_method_119_code 9 = .ok (.areturn, 1) := by decide +kernel
abbrev mAR_copyOf3 : g_M := (⟨"java/util/Arrays", "copyOf", "([Ljava/lang/Object;ILjava/lang/Class;)[Ljava/lang/Object;"⟩, prog_25_method_120_code, 4, (some (.array (.object "java/lang/Object"))), [])
theorem dAR_copyOf3_0 : decode prog_25_method_120_code 0 = .ok (.aload_n 2, 1) := by decide +kernel
theorem dAR_copyOf3_1 : decode prog_25_method_120_code 1 = .ok (.ldc 110, 2) := by decide +kernel
theorem dAR_copyOf3_3 : decode prog_25_method_120_code 3 = .ok (.if_acmp .ne 10, 3) := by decide +kernel
theorem dAR_copyOf3_6 : decode prog_25_method_120_code 6 = .ok (.iload_n 1, 1) := by decide +kernel
theorem dAR_copyOf3_7 : decode prog_25_method_120_code 7 = .ok (.anewarray 2, 3) := by decide +kernel
theorem dAR_copyOf3_10 : decode prog_25_method_120_code 10 = .ok (.goto 14, 3) := by decide +kernel
theorem dAR_copyOf3_13 : decode prog_25_method_120_code 13 = .ok (.aload_n 2, 1) := by decide +kernel
theorem dAR_copyOf3_14 : decode prog_25_method_120_code 14 = .ok (.invokevirtual 90, 3) := by decide +kernel
theorem dAR_copyOf3_17 : decode prog_25_method_120_code 17 = .ok (.iload_n 1, 1) := by decide +kernel
theorem dAR_copyOf3_18 : decode prog_25_method_120_code 18 = .ok (.invokestatic 95, 3) := by decide +kernel
theorem dAR_copyOf3_21 : decode prog_25_method_120_code 21 = .ok (.checkcast 110, 3) := by decide +kernel
theorem dAR_copyOf3_24 : decode prog_25_method_120_code 24 = .ok (.astore_n 3, 1) := by decide +kernel
theorem dAR_copyOf3_25 : decode prog_25_method_120_code 25 = .ok (.aload_n 0, 1) := by decide +kernel
theorem dAR_copyOf3_26 : decode prog_25_method_120_code 26 = .ok (.iconst 0, 1) := by decide +kernel
theorem dAR_copyOf3_27 : decode prog_25_method_120_code 27 = .ok (.aload_n 3, 1) := by decide +kernel
theorem dAR_copyOf3_28 : decode prog_25_method_120_code 28 = .ok (.iconst 0, 1) := by decide +kernel
theorem dAR_copyOf3_29 : decode prog_25_method_120_code 29 = .ok (.aload_n 0, 1) := by decide +kernel
theorem dAR_copyOf3_30 : decode prog_25_method_120_code 30 = .ok (.arraylength, 1) := by decide +kernel
theorem dAR_copyOf3_31 : decode prog_25_method_120_code 31 = .ok (.iload_n 1, 1) := by decide +kernel
theorem dAR_copyOf3_32 : decode prog_25_method_120_code 32 = .ok (.invokestatic 304, 3) := by decide +kernel
theorem dAR_copyOf3_35 : decode prog_25_method_120_code 35 = .ok (.invokestatic 150, 3) := by decide +kernel
theorem dAR_copyOf3_38 : decode prog_25_method_120_code 38 = .ok (.aload_n 3, 1) := by decide +kernel
theorem dAR_copyOf3_39 : decode prog_25_method_120_code 39 = .ok (.areturn, 1) := by decide +kernel
theorem kAR_304 : g_kS "java/util/Arrays" 304 mMA_min 2 := ⟨(g_in 491 (by decide +kernel) (by decide +kernel)), (g_in 492 (by decide +kernel) (by decide +kernel)), (g_in 62 (by decide +kernel) (by decide +kernel)), g_in 493 (by decide +kernel) (by decide +kernel), by decide +kernel⟩
theorem kAR_300 : g_kS "java/util/Arrays" 300 mAR_copyOf3 3 := ⟨(g_in 485 (by decide +kernel) (by decide +kernel)), (g_in 486 (by decide +kernel) (by decide +kernel)), (g_in 63 (by decide +kernel) (by decide +kernel)), g_in 487 (by decide +kernel) (by decide +kernel), by decide +kernel⟩
theorem kA_66 : g_kS "java/util/ArrayList" 66 mAR_copyOf2 2 := ⟨(g_in 466 (by decide +kernel) (by decide +kernel)), (g_in 467 (by decide +kernel) (by decide +kernel)), (g_in 63 (by decide +kernel) (by decide +kernel)), g_in 468 (by decide +kernel) (by decide +kernel), by decide +kernel⟩
theorem va_cpy_all {f : Nat → Option Nat} {n0 : Nat} (hf : ∀ i, n0 ≤ i → f i = none) : va_cpy f (fun _ => none) 0 0 n0 = f := by
  funext i
  unfold va_cpy
  by_cases h : 0 ≤ i ∧ i < 0 + n0
  · rw [if_pos h, Nat.zero_add, Nat.sub_zero]
  · rw [if_neg h, hf i (by omega)]
set_option maxRecDepth 100000 in
set_option maxHeartbeats 4000000 in
theorem c_AR_copyOf3 {l : Launch} (hl : l.stackTraces = false) {E : g_E} {h : g_H} {a0 n0 N ci NN : Nat} {f : Nat → Option Nat} {C : String} {T0 : u_T} (ha0 : h a0 = some (g_refs E n0 f)) (hN : n0 ≤ N) (hN1 : N ≤ 33) (hf : ∀ i, n0 ≤ i → f i = none) (hel : ∀ i y, f i = some y → ∃ fs, h y = some (.inr (ci, fs))) (hcl : g_cl[ci]? = some (C, T0, NN)) (hcast : Cond.castable C "java/lang/Object" ∈ g_wl) : g_Ct l mAR_copyOf3 1 35 1 33 [.ref a0, .int (nI N), .ref (E.ad 3)] E h (false, fun r' h' => ∃ q, h q = none ∧ E.H0.size ≤ q ∧ r' = .inr (some (.ref q)) ∧ h' = g_set h q (g_refs E N f)) := by
  refine g_Ct.of hl (by decide) rfl (Nat.le_of_ble_eq_true rfl) ?_
  intro X hX hXl hR
  show g_Go E X _ h true 0 0 0 [some (.ref a0), some (.int (nI N)), some (.ref (E.ad 3)), none] []
  refine g_aload_n hX dAR_copyOf3_0 rfl rfl (by first | rfl | exact g_rfr _) 1 rfl ?_
  refine g_ldcM hX dAR_copyOf3_1 (g_in 488 (by decide +kernel) (by decide +kernel)) 3 rfl ?_
  refine g_acmp_ne (rx := some (E.ad 3)) (ry := some (E.ad 3)) hX dAR_copyOf3_3 13 6 (by decide) rfl (fun c3 => absurd rfl c3) (fun c3 => ?_)
  refine g_iload_n hX dAR_copyOf3_6 rfl rfl 7 rfl ?_
  refine g_anew hX dAR_copyOf3_7 (g_in 490 (by decide +kernel) (by decide +kernel)) (nI_pos (by omega)) (nI_clamp (by omega)) (by omega) (by rw [hR]; decide) (by rw [hR]; show 0 + N ≤ 33; omega) 10 rfl (fun q hq0 hq1 => ?_)
  have hqa : a0 ≠ q := fun e => by rw [e, hq0] at ha0; cases ha0
  have ha1 : (g_set h q (g_refs E N (fun _ => none))) a0 = some (g_refs E n0 f) := (g_set_ne _ _ hqa).trans ha0
  have hel1 : ∀ i y, i < n0 → f i = some y → ∃ fs, (g_set h q (g_refs E N (fun _ => none))) y = some (.inr (ci, fs)) := fun i y _ hy => by
    obtain ⟨fs, hfs⟩ := hel i y hy
    exact ⟨fs, (g_set_ne _ _ (fun e => by rw [e, hq0] at hfs; cases hfs)).trans hfs⟩
  refine g_goto hX dAR_copyOf3_10 24 (by decide) ?_
  refine g_astore_n hX (L' := [_, _, _, _]) dAR_copyOf3_24 rfl (by decide) (by first | rfl | exact g_rfr _) rfl 25 rfl ?_
  refine g_aload_n hX dAR_copyOf3_25 rfl rfl (by first | rfl | exact g_rfr _) 26 rfl ?_
  refine g_iconst hX dAR_copyOf3_26 (v := 0) (by decide) 27 rfl ?_
  refine g_aload_n hX dAR_copyOf3_27 rfl rfl (by first | rfl | exact g_rfr _) 28 rfl ?_
  refine g_iconst hX dAR_copyOf3_28 (v := 0) (by decide) 29 rfl ?_
  refine g_aload_n hX dAR_copyOf3_29 rfl rfl (by first | rfl | exact g_rfr _) 30 rfl ?_
  refine g_alen (t := 3) hX dAR_copyOf3_30 ha1 rfl rfl 31 rfl ?_
  refine g_iload_n hX dAR_copyOf3_31 rfl rfl 32 rfl ?_
  refine g_mmin (wt := 4) hX dAR_copyOf3_32 kAR_304 (by rw [hR]; decide) (by simp [Value.category]) (by rw [hR]; decide) (by rw [hR]; decide) (by rw [hR]; show 0 + N ≤ 33; omega) 35 rfl ?_
  rw [show q_mn (nI n0) (nI N) = nI n0 from if_neg (nI_nlt hN (by omega))]
  refine g_copy0 (wt := 0) (N := n0) hX dAR_copyOf3_35 (g_in 494 (by decide +kernel) (by decide +kernel)) (g_in 496 (by decide +kernel) (by decide +kernel)) (g_in 495 (by decide +kernel) (by decide +kernel)) (g_in 64 (by decide +kernel) (by decide +kernel)) ha1 (g_set_same _ _ _) hq1 (nI_pos (by omega)) (nI_clamp (by omega)) (Nat.le_refl _) hN hel1 hcl hcast (by rw [hR]; decide) (by decide) (by rw [hR]; decide) 38 rfl ?_
  rw [g_set_set, va_cpy_all hf]
  refine g_aload_n hX dAR_copyOf3_38 rfl rfl (by first | rfl | exact g_rfr _) 39 rfl ?_
  exact g_aret hX rfl (Or.inr ⟨_, rfl⟩) rfl dAR_copyOf3_39 ⟨q, hq0, hq1, rfl, rfl⟩ rfl (by rw [hR]; decide) (by rw [hR]; show 0 + N ≤ 33; omega)
set_option maxRecDepth 100000 in
set_option maxHeartbeats 4000000 in
theorem c_AR_copyOf2 {l : Launch} (hl : l.stackTraces = false) {E : g_E} {h : g_H} {a0 n0 N ci NN : Nat} {f : Nat → Option Nat} {C : String} {T0 : u_T} (ha0 : h a0 = some (g_refs E n0 f)) (hN : n0 ≤ N) (hN1 : N ≤ 33) (hf : ∀ i, n0 ≤ i → f i = none) (hel : ∀ i y, f i = some y → ∃ fs, h y = some (.inr (ci, fs))) (hcl : g_cl[ci]? = some (C, T0, NN)) (hcast : Cond.castable C "java/lang/Object" ∈ g_wl) : g_Ct l mAR_copyOf2 2 52 1 33 [.ref a0, .int (nI N)] E h (false, fun r' h' => ∃ q, h q = none ∧ E.H0.size ≤ q ∧ r' = .inr (some (.ref q)) ∧ h' = g_set h q (g_refs E N f)) := by
  refine g_Ct.of hl (by decide) rfl (Nat.le_of_ble_eq_true rfl) ?_
  intro X hX hXl hR
  show g_Go E X _ h true 0 0 0 [some (.ref a0), some (.int (nI N))] []
  refine g_aload_n hX dAR_copyOf2_0 rfl rfl (by first | rfl | exact g_rfr _) 1 rfl ?_
  refine g_iload_n hX dAR_copyOf2_1 rfl rfl 2 rfl ?_
  refine g_aload_n hX dAR_copyOf2_2 rfl rfl (by first | rfl | exact g_rfr _) 3 rfl ?_
  refine g_getC (wt := 2) hX dAR_copyOf2_3 (g_in 469 (by decide +kernel) (by decide +kernel)) (g_in 1113 (by decide +kernel) (by decide +kernel)) (g_in 1112 (by decide +kernel) (by decide +kernel)) (g_in 470 (by decide +kernel) (by decide +kernel)) (g_in 484 (by decide +kernel) (by decide +kernel)) ha0 (by rw [hR]; decide) (by simp [Value.category]) (by rw [hR]; decide) 6 rfl ?_
  refine g_cS3 (wt := 0) hX (c_AR_copyOf3 hX.tr ha0 hN hN1 hf hel hcl hcast) dAR_copyOf2_6 kAR_300 (g_rm.of hR (by decide) (by decide)) (by rw [hR]; decide) (by rw [hR]; decide) (by decide) (fun q => by cases q) 9 rfl (fun v h' hP => ?_) (fun k h' hP => by obtain ⟨q, -, -, hk, -⟩ := hP; cases hk)
  obtain ⟨q, hq0, hq1, hv, hh⟩ := hP
  cases hv
  show g_Go E X _ h' false _ _ 9 _ [.ref q]
  exact g_aret hX rfl (Or.inr ⟨_, rfl⟩) rfl dAR_copyOf2_9 ⟨q, hq0, hq1, rfl, hh⟩ rfl (by rw [hR]; decide) (by rw [hR]; decide)
