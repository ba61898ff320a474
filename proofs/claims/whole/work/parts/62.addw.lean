/-! lists of the world grow -/
theorem g_Ct.imp {l : Launch} {M : g_M} {fr lo mc ms : Nat} {as : List Value} {E : g_E} {h : g_H} {A B : g_R → g_H → Prop} (hc : g_Ct l M fr lo mc ms as E h (false, A)) (hi : ∀ r h', A r h' → B r h') : g_Ct l M fr lo mc ms as E h (false, B) := by
  refine MetFree.mono hc (fun _ _ q => q) (fun _ _ _ _ _ q => q) (fun a s o t _ hq => ?_)
  obtain ⟨⟨r, h', h1, h2⟩, h3⟩ := hq
  exact ⟨⟨r, h', hi r h' h1, h2⟩, h3⟩
theorem w_G.lvw {E : g_E} {A : w_A} {lv lv' : Nat → Nat → Prop} {cl : Nat → Nat → va_E} {h : g_H} (hG : w_G E A lv cl h) (hl : ∀ k i, lv' k i → lv k i) : w_G E A lv' cl h :=
  ⟨fun k i hk => hG.1 k i (hl k i hk), fun k i hk => hG.2.1 k i (hl k i hk), fun k i k' i' h1 h2 => hG.2.2 k i k' i' (hl k i h1) (hl k' i' h2)⟩
theorem w_uA_id (A : w_A) (k i : Nat) : w_uA A k i (A k i) = A := by
  funext k' i'
  unfold w_uA
  by_cases hq : k' = k ∧ i' = i
  · rw [if_pos hq, hq.1, hq.2]
  · rw [if_neg hq]
theorem w_data_c {E : g_E} {xs : List Nat} {g g' : Nat → Nat} (h : ∀ x, x ∈ xs → g x = g' x) : w_data E xs g = w_data E xs g' := by
  unfold w_data
  congr 6
  funext j
  cases hx : xs[j]? with
  | none => rfl
  | some x => exact congrArg some (h x (List.mem_of_getElem? hx))
theorem w_data_app {E : g_E} {xs : List Nat} {g : Nat → Nat} {x : Nat} : g_refs E (l_cap (xs.length + 1)) (va_up (fun j => (xs[j]?).map g) xs.length (some (g x))) = w_data E (xs ++ [x]) g := by
  unfold w_data
  rw [va_up_list, show (xs ++ [x]).length = xs.length + 1 by simp]
theorem w_list_s (E : g_E) (dd n : Nat) : w_list E dd (n + 1) = .inr (6, [.ref dd, .int (nI (n + 1)), .int (nI (n + 1))]) := by
  unfold w_list
  rw [if_neg (Nat.succ_ne_zero n)]
theorem c_addW {l : Launch} (hl : l.stackTraces = false) {E : g_E} {A : w_A} {lv : Nat → Nat → Prop} {cl : Nat → Nat → va_E} {h : g_H} (hG : w_G E A lv cl h) {k i t x0 ct Nt : Nat} {xs : List Nat} {Cn : String} {Tt : u_T} (hk : lv k i) (hkc : cl k i = w_list E (A (k + 1) i) xs.length) (hd : xs ≠ [] → lv (k + 1) i ∧ cl (k + 1) i = w_data E xs (A t)) (hxs : ∀ x, x ∈ xs → lv t x ∧ ∃ fs, cl t x = .inr (ct, fs)) (hx0 : lv t x0 ∧ ∃ fs, cl t x0 = .inr (ct, fs)) (hn : xs.length < 33) (hct : g_cl[ct]? = some (Cn, Tt, Nt)) (hcast : Cond.castable Cn "java/lang/Object" ∈ g_wl) (hc6 : ct ≠ 6) :
    g_Ct l mA_add1 6 108 1 33 [.ref (A k i), .ref (A t x0)] E h (false, fun r' h' => r' = .inr (some (.int 1)) ∧ ∃ dd', w_G E (w_uA A (k + 1) i dd') (w_ul lv (k + 1) i) (w_uc (w_uc cl (k + 1) i (w_data E (xs ++ [x0]) (A t))) k i (w_list E dd' (xs.length + 1))) h') := by
  have ha : l_at E h (A k i) (A (k + 1) i) xs.length (fun j => (xs[j]?).map (A t)) := w_lst (by rw [hG.1 k i hk, hkc]) (fun hn => by rw [hG.1 _ _ (hd hn).1, (hd hn).2]) (by omega)
  obtain ⟨fs0, hf0⟩ := hx0.2
  have he : h (A t x0) = some (.inr (ct, fs0)) := by rw [hG.1 t x0 hx0.1, hf0]
  have hne : A t x0 ≠ A k i := fun q => by
    rw [q, hG.1 k i hk, hkc] at he
    cases he
    exact hc6 rfl
  have hx1 : xs.length ≠ 0 → xs ≠ [] := fun q e => q (by rw [e]; rfl)
  refine (c_A_add1 hl ha (hG.2.1 k i hk) (fun hz => hG.2.1 _ _ (hd (hx1 hz)).1) hn (fun j hj => by rw [List.getElem?_eq_none hj]; rfl) (fun j y hy => ?_) hct hcast hne he hct hcast hc6).imp (fun r h' hP => ?_)
  · cases hx : xs[j]? with
    | none => rw [hx] at hy; cases hy
    | some x =>
      rw [hx] at hy
      cases hy
      obtain ⟨h1, fs, h2⟩ := hxs x (List.mem_of_getElem? hx)
      exact ⟨fs, by rw [hG.1 t x h1, h2]⟩
  · obtain ⟨dd', halt, hr, hh⟩ := hP
    refine ⟨hr, dd', ?_⟩
    rw [w_data_app, ← w_list_s] at hh
    rw [hh]
    rcases halt with ⟨h0, hdd⟩ | ⟨hf, hb⟩
    · subst hdd
      have hul := (hd (hx1 h0)).1
      have h2 := (hG.put hul (w_data E (xs ++ [x0]) (A t))).put hk (w_list E (A (k + 1) i) (xs.length + 1))
      rw [w_uA_id]
      exact h2.lvw (fun k' i' q => q.elim (fun e => by rw [e.1, e.2]; exact hul) id)
    · have h2 := (hG.new (k + 1) i (w_data E (xs ++ [x0]) (A t)) hf hb).put (k0 := k) (i0 := i) (Or.inr hk) (w_list E dd' (xs.length + 1))
      rw [w_uA_ne A (by omega)] at h2
      exact h2
