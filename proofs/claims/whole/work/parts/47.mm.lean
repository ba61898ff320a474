/-! Math.max, Math.min -/
def q_mn (n x : Int32) : Int32 := if x < n then x else n
theorem q_mx_eq (n x : Int32) : q_mx n x = if n < x then x else n := by
  unfold q_mx
  by_cases h : n < x
  · rw [if_neg (q_lt_nle h), if_pos h]
  · rw [if_pos (q_nlt_le h), if_neg h]
section GMM
variable {E : g_E} {X : g_X} {M : g_M} {P : g_P} {h : g_H} {z : Bool} {cs ss pc : Nat} {L : List (Option Value)} {rest : List Value}
theorem g_mmax (hX : g_ok E X M) {index wt : Nat} {x y : Int32} (hdg : decode M.cc pc = .ok (.invokestatic index, 3)) (hk : g_kS M.y.cls index mMA_max 2) (hfr : 1 ≤ X.R.frames) (hW : (rest.map fun v => v.category).sum ≤ wt) (hlo : wt + 13 ≤ X.R.locals) (hc : cs ≤ X.R.cells) (hs : ss ≤ X.R.slots) (pn : Nat) (hpn : pc + 3 = pn)
    (kk : g_Go E X P h z cs ss pn L (.int (q_mx x y) :: rest)) : g_Go E X P h z cs ss pc L (.int y :: .int x :: rest) := by
  subst hpn
  intro H locs ls hV hB hlo2 hL hz T hT X'
  rw [q_mx_eq] at kk
  obtain ⟨h1, h2, h3, h4, h5⟩ := hk
  obtain ⟨vm', X2, st⟩ := X'.mathMaxH hX.exec (own := M.y.cls) (index := index) hX.own (hX.w h1) (hX.w h2) (hX.w h3) (hX.w h4) (g := F0 X.m pc ls (.int y :: .int x :: rest)) rfl hL.1 (a := x) (b := y) (rest := rest) rfl (by rw [hX.code]; exact hdg) hfr (by show 2 * 0 + _ + 13 ≤ _; omega) hc hs
  obtain ⟨t, a1, b1⟩ := kk H locs ls hV hB hlo2 hL hz (T.setVm vm') hT X2
  exact ⟨t, st t a1, b1⟩
theorem g_mmin (hX : g_ok E X M) {index wt : Nat} {x y : Int32} (hdg : decode M.cc pc = .ok (.invokestatic index, 3)) (hk : g_kS M.y.cls index mMA_min 2) (hfr : 1 ≤ X.R.frames) (hW : (rest.map fun v => v.category).sum ≤ wt) (hlo : wt + 13 ≤ X.R.locals) (hc : cs ≤ X.R.cells) (hs : ss ≤ X.R.slots) (pn : Nat) (hpn : pc + 3 = pn)
    (kk : g_Go E X P h z cs ss pn L (.int (q_mn x y) :: rest)) : g_Go E X P h z cs ss pc L (.int y :: .int x :: rest) := by
  subst hpn
  intro H locs ls hV hB hlo2 hL hz T hT X'
  obtain ⟨h1, h2, h3, h4, h5⟩ := hk
  obtain ⟨vm', X2, st⟩ := X'.mathMinH hX.exec (own := M.y.cls) (index := index) hX.own (hX.w h1) (hX.w h2) (hX.w h3) (hX.w h4) (g := F0 X.m pc ls (.int y :: .int x :: rest)) rfl hL.1 (a := x) (b := y) (rest := rest) rfl (by rw [hX.code]; exact hdg) hfr (by show 2 * 0 + _ + 13 ≤ _; omega) hc hs
  obtain ⟨t, a1, b1⟩ := kk H locs ls hV hB hlo2 hL hz (T.setVm vm') hT X2
  exact ⟨t, st t a1, b1⟩
end GMM
