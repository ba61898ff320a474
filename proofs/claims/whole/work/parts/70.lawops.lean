/-! the law -/
abbrev mLaw (nm ds : String) (tb : List (Nat × Nat × Nat × Nat)) : g_M := (⟨"SlideStageLaw", nm, ds⟩, code, 7, ret, tb)
theorem g_cS7 {E : g_E} {X : g_X} {M M' : g_M} {P P' : g_P} {h : g_H} {z : Bool} {cs ss pc : Nat} {L : List (Option Value)} {rest : List Value} {fr lo mc ms index wt : Nat} (hX : g_ok E X M) {a1 a2 a3 a4 a5 a6 a7 : Value} (hct : g_Ct X.l M' fr lo mc ms [a1, a2, a3, a4, a5, a6, a7] E h P') (hdg : decode M.cc pc = .ok (.invokestatic index, 3)) (hk : g_kS M.y.cls index M' 7) (hrm : g_rm X fr lo M'.nl wt) (hc : cs + mc ≤ X.R.cells) (hs : ss + ms ≤ X.R.slots) (hW : (rest.map fun v => v.category).sum ≤ wt) (hmc : P'.1 = true → mc = 0 ∧ ms = 0) (pn : Nat) (hpn : pc + 3 = pn)
    (kr : ∀ (v : Option Value) (h' : g_H), P'.2 (.inr v) h' → g_Go E X P h' (P'.1 && z) (cs + mc) (ss + ms) pn L (v.toList ++ rest)) (kt : ∀ (k : Nat) (h' : g_H), P'.2 (.inl k) h' → g_Th E X P h' (cs + mc) (ss + ms) pc L k) : g_Go E X P h z cs ss pc L (a7 :: a6 :: a5 :: a4 :: a3 :: a2 :: a1 :: rest) :=
  g_callS (as := [a1, a2, a3, a4, a5, a6, a7]) hX hct hdg hk.1 hk.2.1 hk.2.2.1 hk.2.2.2.1 hk.2.2.2.2 hrm.1 hrm.2 hc hs hW hmc pn hpn kr kt
theorem q_cmp {x y : Int64} (h : x = y) : lg_cmp x y = 0 := by
  subst h
  unfold lg_cmp
  simp
theorem q_off (k c : Nat) {d : Int32} (hd : d = nI c) : nI (6 * k) + d = nI (6 * k + c) := by
  rw [hd, nI_add]
theorem q_six (k : Nat) : nI (6 * k) + Int32.ofInt 6 = nI (6 * (k + 1)) := by
  rw [show Int32.ofInt 6 = nI 6 from rfl, nI_add, Nat.mul_succ]
theorem q_mB {S T : q_S} (h : q_mea T S) (hT : w_B T) : w_B S := w_B_c h.1.1 h.1.2.1 h.1.2.2.1 h.2.1.1 h.2.1.2.1 h.2.1.2.2.1 h.2.1.2.2.2.2 hT
def lw_fin : g_P := (false, fun r _ => r = .inr (some (.int 1)))
set_option maxRecDepth 100000 in
set_option maxHeartbeats 4000000 in
theorem lo_page {E : g_E} {X : g_X} {nm ds : String} {tb : List (Nat × Nat × Nat × Nat)} (hX : g_ok E X (mLaw nm ds tb)) (hR : X.R = { frames := 14, cells := 601024, slots := 7293034, locals := 520 }) {b L : Nat} {xs : Nat → Int32} (hT : va_T .int b L (fun j => .int (xs j)) (fun q => E.H0.size ≤ q) X.s E.H0) (hL : L ≤ 3072) {k cs ss : Nat} (hk : 6 * k + 6 ≤ L) {A : w_A} {S : q_S} {h : g_H} (hI : w_I S) (hW : w_W E A S S h) (hcs : cs ≤ 40 + 7 * k) (hss : ss ≤ 1400 + 107 * k)
    (kk : ∀ (B : w_A) (T : q_S) (h : g_H) (cs ss : Nat), w_I T → w_W E B T T h → cs ≤ 47 + 7 * k → ss ≤ 1507 + 107 * k → g_Go E X lw_fin h false cs ss 1447 [some (.ref b), some (.ref (B 0 0)), some (.ref (B 30 0)), some (.ref (B 29 0)), some (.int (nI (6 * k))), none, none] []) : g_Go E X lw_fin h false cs ss 148 [some (.ref b), some (.ref (A 0 0)), some (.ref (A 30 0)), some (.ref (A 29 0)), some (.int (nI (6 * k))), none, none] [] := by
  obtain ⟨c, v, S1, S2, T, HL, HM, hc, hv, t1, t2, hI2⟩ := j_page hX.tr E hI (xs (6 * k + 1)) (xs (6 * k + 2))
  refine g_aload_n hX dL_law_148 rfl rfl (by first | rfl | exact g_rfr _) 149 rfl ?_
  refine g_aload_n hX dL_law_149 rfl rfl (by first | rfl | exact g_rfr _) 150 rfl ?_
  refine g_iload hX dL_law_150 rfl 152 rfl ?_
  refine g_iconst hX dL_law_152 (v := 1) (by decide) 153 rfl ?_
  refine g_iadd hX dL_law_153 154 rfl ?_
  refine g_ialdT hX dL_law_154 hT (g_ix.eq (q_off k 1 (d := 1) rfl) (show 6 * k + 1 < L by omega) (by omega)) 155 rfl ?_
  refine g_aload_n hX dL_law_155 rfl rfl (by first | rfl | exact g_rfr _) 156 rfl ?_
  refine g_iload hX dL_law_156 rfl 158 rfl ?_
  refine g_iconst hX dL_law_158 (v := 2) (by decide) 159 rfl ?_
  refine g_iadd hX dL_law_159 160 rfl ?_
  refine g_ialdT hX dL_law_160 hT (g_ix.eq (q_off k 2 (d := 2) rfl) (show 6 * k + 2 < L by omega) (by omega)) 161 rfl ?_
  refine g_aload_n hX dL_law_161 rfl rfl (by first | rfl | exact g_rfr _) 162 rfl ?_
  refine g_cS4 (wt := 0) hX (HL A h hW) dL_law_162 kL_86 (g_rm.of hR (by decide) (by decide)) (by rw [hR]; show cs + 7 ≤ 601024; omega) (by rw [hR]; show ss + 107 ≤ 7293034; omega) (by first | decide | (simp [Value.category])) (fun q => by cases q) 165 rfl (fun v9 h hP => ?_) (fun k9 h9 hP => by cases hP.1)
  obtain ⟨hv9, B, hB9, hW1⟩ := hP
  cases hv9
  rw [← hB9.1, ← hB9.2.1, ← hB9.2.2]
  show g_Go E X _ h false _ _ 165 _ [.int c]
  refine g_istore hX (L' := [_, _, _, _, _, _, _]) dL_law_165 (Nat.le_of_ble_eq_true rfl) rfl 167 rfl ?_
  refine g_aload_n hX dL_law_167 rfl rfl (by first | rfl | exact g_rfr _) 168 rfl ?_
  refine g_aload_n hX dL_law_168 rfl rfl (by first | rfl | exact g_rfr _) 169 rfl ?_
  refine g_iload hX dL_law_169 rfl 171 rfl ?_
  refine g_iconst hX dL_law_171 (v := 1) (by decide) 172 rfl ?_
  refine g_iadd hX dL_law_172 173 rfl ?_
  refine g_ialdT hX dL_law_173 hT (g_ix.eq (q_off k 1 (d := 1) rfl) (show 6 * k + 1 < L by omega) (by omega)) 174 rfl ?_
  refine g_aload_n hX dL_law_174 rfl rfl (by first | rfl | exact g_rfr _) 175 rfl ?_
  refine g_iload hX dL_law_175 rfl 177 rfl ?_
  refine g_iconst hX dL_law_177 (v := 2) (by decide) 178 rfl ?_
  refine g_iadd hX dL_law_178 179 rfl ?_
  refine g_ialdT hX dL_law_179 hT (g_ix.eq (q_off k 2 (d := 2) rfl) (show 6 * k + 2 < L by omega) (by omega)) 180 rfl ?_
  refine g_cV2 (wt := 0) hX (HM B h hW1) dL_law_180 (w_m hW1.r) kL_91 (g_rm.of hR (by decide) (by decide)) (by rw [hR]; show _ ≤ 601024; omega) (by rw [hR]; show _ ≤ 7293034; omega) (by first | decide | (simp [Value.category])) (fun q => by cases q) 183 rfl (fun v9 h hP => ?_) (fun k9 h9 hP => by cases hP.1)
  obtain ⟨hv9, hW2⟩ := hP
  cases hv9
  have hW3 : w_W E B T T h := hW2.cong t1 t2
  show g_Go E X _ h false _ _ 183 _ [.int v]
  refine g_istore hX (L' := [_, _, _, _, _, _, _]) dL_law_183 (Nat.le_of_ble_eq_true rfl) rfl 185 rfl ?_
  refine g_aload_n hX dL_law_185 rfl rfl (by first | rfl | exact g_rfr _) 186 rfl ?_
  refine g_cV0r (wt := 0) hX (c_M_thrown hX.tr hW3.r hI2.1) dL_law_186 (w_m hW3.r) kL_92 (g_rm.of hR (by decide) (by decide)) (by rw [hR]; show _ ≤ 601024; omega) (by rw [hR]; show _ ≤ 7293034; omega) (by first | decide | (simp [Value.category])) 189 rfl ?_
  rw [show T.2 13 1 = c from (t2.2.2.2.2.2.1).trans hc]
  refine g_iload hX dL_law_189 rfl 191 rfl ?_
  refine g_icmp_eq hX dL_law_191 196 194 (by decide) rfl (fun c191 => ?_) (fun c191 => ?_)
  · refine g_iload hX dL_law_196 rfl 198 rfl ?_
    refine g_if_ne hX dL_law_198 213 201 (by decide) rfl (fun c198 => ?_) (fun c198 => ?_)
    · refine g_goto hX dL_law_213 1447 (by decide) ?_
      refine g_drop (L' := [_, _, _, _, _, none, _]) 5 rfl ?_
      refine g_drop (L' := [_, _, _, _, _, _, none]) 6 rfl ?_
      exact kk B T h _ _ hI2 hW3 (by omega) (by omega)
    · refine g_aload_n hX dL_law_201 rfl rfl (by first | rfl | exact g_rfr _) 202 rfl ?_
      refine g_iconst hX dL_law_202 (v := 0) (by decide) 203 rfl ?_
      refine g_lald hX dL_law_203 (w_c hW3 29 0 (by decide) ⟨rfl, by decide⟩) (g_ix.nat (k := 0) (by decide) (by decide)) 204 rfl ?_
      refine g_iload hX dL_law_204 rfl 206 rfl ?_
      refine g_i2l hX dL_law_206 rfl 207 rfl ?_
      have hv0 := hv c198
      have h22 : T.2 22 0 = v := (congrFun t1.2.2.2.2.2.2.2.2.2 0).trans hv0
      refine g_lcmp hX dL_law_207 208 rfl ?_
      rw [q_cmp (show (T.2 22 0).toInt64 = v.toInt64 by rw [h22])]
      refine g_if_eq hX dL_law_208 213 211 (by decide) rfl (fun c208 => ?_) (fun c208 => ?_)
      · refine g_goto hX dL_law_213 1447 (by decide) ?_
        refine g_drop (L' := [_, _, _, _, _, none, _]) 5 rfl ?_
        refine g_drop (L' := [_, _, _, _, _, _, none]) 6 rfl ?_
        exact kk B T h _ _ hI2 hW3 (by omega) (by omega)
      · exact absurd rfl c208
  · exact absurd rfl c191
set_option maxRecDepth 100000 in
set_option maxHeartbeats 4000000 in
theorem lo_shape {E : g_E} {X : g_X} {nm ds : String} {tb : List (Nat × Nat × Nat × Nat)} (hX : g_ok E X (mLaw nm ds tb)) (hR : X.R = { frames := 14, cells := 601024, slots := 7293034, locals := 520 }) {b L : Nat} {xs : Nat → Int32} (hT : va_T .int b L (fun j => .int (xs j)) (fun q => E.H0.size ≤ q) X.s E.H0) (hL : L ≤ 3072) {k cs ss : Nat} (hk : 6 * k + 6 ≤ L) {A : w_A} {S : q_S} {h : g_H} (hI : w_I S) (hW : w_W E A S S h) (hcs : cs ≤ 40 + 7 * k) (hss : ss ≤ 1400 + 107 * k)
    (kk : ∀ (B : w_A) (T : q_S) (h : g_H) (cs ss : Nat), w_I T → w_W E B T T h → cs ≤ 47 + 7 * k → ss ≤ 1507 + 107 * k → g_Go E X lw_fin h false cs ss 1447 [some (.ref b), some (.ref (B 0 0)), some (.ref (B 30 0)), some (.ref (B 29 0)), some (.int (nI (6 * k))), none, none] []) : g_Go E X lw_fin h false cs ss 216 [some (.ref b), some (.ref (A 0 0)), some (.ref (A 30 0)), some (.ref (A 29 0)), some (.int (nI (6 * k))), none, none] [] := by
  obtain ⟨c, v, S1, S2, T, HL, HM, hc, hv, t1, t2, hI2⟩ := j_shape hX.tr E hI (xs (6 * k + 1)) (xs (6 * k + 2))
  refine g_aload_n hX dL_law_216 rfl rfl (by first | rfl | exact g_rfr _) 217 rfl ?_
  refine g_aload_n hX dL_law_217 rfl rfl (by first | rfl | exact g_rfr _) 218 rfl ?_
  refine g_iload hX dL_law_218 rfl 220 rfl ?_
  refine g_iconst hX dL_law_220 (v := 1) (by decide) 221 rfl ?_
  refine g_iadd hX dL_law_221 222 rfl ?_
  refine g_ialdT hX dL_law_222 hT (g_ix.eq (q_off k 1 (d := 1) rfl) (show 6 * k + 1 < L by omega) (by omega)) 223 rfl ?_
  refine g_aload_n hX dL_law_223 rfl rfl (by first | rfl | exact g_rfr _) 224 rfl ?_
  refine g_iload hX dL_law_224 rfl 226 rfl ?_
  refine g_iconst hX dL_law_226 (v := 2) (by decide) 227 rfl ?_
  refine g_iadd hX dL_law_227 228 rfl ?_
  refine g_ialdT hX dL_law_228 hT (g_ix.eq (q_off k 2 (d := 2) rfl) (show 6 * k + 2 < L by omega) (by omega)) 229 rfl ?_
  refine g_aload_n hX dL_law_229 rfl rfl (by first | rfl | exact g_rfr _) 230 rfl ?_
  refine g_cS4 (wt := 0) hX (HL A h hW) dL_law_230 kL_96 (g_rm.of hR (by decide) (by decide)) (by rw [hR]; show cs + 7 ≤ 601024; omega) (by rw [hR]; show ss + 107 ≤ 7293034; omega) (by first | decide | (simp [Value.category])) (fun q => by cases q) 233 rfl (fun v9 h hP => ?_) (fun k9 h9 hP => by cases hP.1)
  obtain ⟨hv9, B, hB9, hW1⟩ := hP
  cases hv9
  rw [← hB9.1, ← hB9.2.1, ← hB9.2.2]
  show g_Go E X _ h false _ _ 233 _ [.int c]
  refine g_istore hX (L' := [_, _, _, _, _, _, _]) dL_law_233 (Nat.le_of_ble_eq_true rfl) rfl 235 rfl ?_
  refine g_aload_n hX dL_law_235 rfl rfl (by first | rfl | exact g_rfr _) 236 rfl ?_
  refine g_aload_n hX dL_law_236 rfl rfl (by first | rfl | exact g_rfr _) 237 rfl ?_
  refine g_iload hX dL_law_237 rfl 239 rfl ?_
  refine g_iconst hX dL_law_239 (v := 1) (by decide) 240 rfl ?_
  refine g_iadd hX dL_law_240 241 rfl ?_
  refine g_ialdT hX dL_law_241 hT (g_ix.eq (q_off k 1 (d := 1) rfl) (show 6 * k + 1 < L by omega) (by omega)) 242 rfl ?_
  refine g_aload_n hX dL_law_242 rfl rfl (by first | rfl | exact g_rfr _) 243 rfl ?_
  refine g_iload hX dL_law_243 rfl 245 rfl ?_
  refine g_iconst hX dL_law_245 (v := 2) (by decide) 246 rfl ?_
  refine g_iadd hX dL_law_246 247 rfl ?_
  refine g_ialdT hX dL_law_247 hT (g_ix.eq (q_off k 2 (d := 2) rfl) (show 6 * k + 2 < L by omega) (by omega)) 248 rfl ?_
  refine g_cV2 (wt := 0) hX (HM B h hW1) dL_law_248 (w_m hW1.r) kL_98 (g_rm.of hR (by decide) (by decide)) (by rw [hR]; show _ ≤ 601024; omega) (by rw [hR]; show _ ≤ 7293034; omega) (by first | decide | (simp [Value.category])) (fun q => by cases q) 251 rfl (fun v9 h hP => ?_) (fun k9 h9 hP => by cases hP.1)
  obtain ⟨hv9, hW2⟩ := hP
  cases hv9
  have hW3 : w_W E B T T h := hW2.cong t1 t2
  show g_Go E X _ h false _ _ 251 _ [.int v]
  refine g_istore hX (L' := [_, _, _, _, _, _, _]) dL_law_251 (Nat.le_of_ble_eq_true rfl) rfl 253 rfl ?_
  refine g_aload_n hX dL_law_253 rfl rfl (by first | rfl | exact g_rfr _) 254 rfl ?_
  refine g_cV0r (wt := 0) hX (c_M_thrown hX.tr hW3.r hI2.1) dL_law_254 (w_m hW3.r) kL_92 (g_rm.of hR (by decide) (by decide)) (by rw [hR]; show _ ≤ 601024; omega) (by rw [hR]; show _ ≤ 7293034; omega) (by first | decide | (simp [Value.category])) 257 rfl ?_
  rw [show T.2 13 1 = c from (t2.2.2.2.2.2.1).trans hc]
  refine g_iload hX dL_law_257 rfl 259 rfl ?_
  refine g_icmp_eq hX dL_law_259 264 262 (by decide) rfl (fun c259 => ?_) (fun c259 => ?_)
  · refine g_iload hX dL_law_264 rfl 266 rfl ?_
    refine g_if_ne hX dL_law_266 281 269 (by decide) rfl (fun c266 => ?_) (fun c266 => ?_)
    · refine g_goto hX dL_law_281 1447 (by decide) ?_
      refine g_drop (L' := [_, _, _, _, _, none, _]) 5 rfl ?_
      refine g_drop (L' := [_, _, _, _, _, _, none]) 6 rfl ?_
      exact kk B T h _ _ hI2 hW3 (by omega) (by omega)
    · refine g_aload_n hX dL_law_269 rfl rfl (by first | rfl | exact g_rfr _) 270 rfl ?_
      refine g_iconst hX dL_law_270 (v := 0) (by decide) 271 rfl ?_
      refine g_lald hX dL_law_271 (w_c hW3 29 0 (by decide) ⟨rfl, by decide⟩) (g_ix.nat (k := 0) (by decide) (by decide)) 272 rfl ?_
      refine g_iload hX dL_law_272 rfl 274 rfl ?_
      refine g_i2l hX dL_law_274 rfl 275 rfl ?_
      have hv0 := hv c266
      have h22 : T.2 22 0 = v := (congrFun t1.2.2.2.2.2.2.2.2.2 0).trans hv0
      refine g_lcmp hX dL_law_275 276 rfl ?_
      rw [q_cmp (show (T.2 22 0).toInt64 = v.toInt64 by rw [h22])]
      refine g_if_eq hX dL_law_276 281 279 (by decide) rfl (fun c276 => ?_) (fun c276 => ?_)
      · refine g_goto hX dL_law_281 1447 (by decide) ?_
        refine g_drop (L' := [_, _, _, _, _, none, _]) 5 rfl ?_
        refine g_drop (L' := [_, _, _, _, _, _, none]) 6 rfl ?_
        exact kk B T h _ _ hI2 hW3 (by omega) (by omega)
      · exact absurd rfl c276
  · exact absurd rfl c259
set_option maxRecDepth 100000 in
set_option maxHeartbeats 4000000 in
theorem lo_theme {E : g_E} {X : g_X} {nm ds : String} {tb : List (Nat × Nat × Nat × Nat)} (hX : g_ok E X (mLaw nm ds tb)) (hR : X.R = { frames := 14, cells := 601024, slots := 7293034, locals := 520 }) {b L : Nat} {xs : Nat → Int32} (hT : va_T .int b L (fun j => .int (xs j)) (fun q => E.H0.size ≤ q) X.s E.H0) (hL : L ≤ 3072) {k cs ss : Nat} (hk : 6 * k + 6 ≤ L) {A : w_A} {S : q_S} {h : g_H} (hI : w_I S) (hW : w_W E A S S h) (hcs : cs ≤ 40 + 7 * k) (hss : ss ≤ 1400 + 107 * k)
    (kk : ∀ (B : w_A) (T : q_S) (h : g_H) (cs ss : Nat), w_I T → w_W E B T T h → cs ≤ 47 + 7 * k → ss ≤ 1507 + 107 * k → g_Go E X lw_fin h false cs ss 1447 [some (.ref b), some (.ref (B 0 0)), some (.ref (B 30 0)), some (.ref (B 29 0)), some (.int (nI (6 * k))), none, none] []) : g_Go E X lw_fin h false cs ss 284 [some (.ref b), some (.ref (A 0 0)), some (.ref (A 30 0)), some (.ref (A 29 0)), some (.int (nI (6 * k))), none, none] [] := by
  obtain ⟨c, S1, S2, T, HL, HM, hc, t1, t2, hI2⟩ := j_theme hX.tr E hI (xs (6 * k + 1)) (xs (6 * k + 2))
  refine g_aload_n hX dL_law_284 rfl rfl (by first | rfl | exact g_rfr _) 285 rfl ?_
  refine g_aload_n hX dL_law_285 rfl rfl (by first | rfl | exact g_rfr _) 286 rfl ?_
  refine g_iload hX dL_law_286 rfl 288 rfl ?_
  refine g_iconst hX dL_law_288 (v := 1) (by decide) 289 rfl ?_
  refine g_iadd hX dL_law_289 290 rfl ?_
  refine g_ialdT hX dL_law_290 hT (g_ix.eq (q_off k 1 (d := 1) rfl) (show 6 * k + 1 < L by omega) (by omega)) 291 rfl ?_
  refine g_aload_n hX dL_law_291 rfl rfl (by first | rfl | exact g_rfr _) 292 rfl ?_
  refine g_iload hX dL_law_292 rfl 294 rfl ?_
  refine g_iconst hX dL_law_294 (v := 2) (by decide) 295 rfl ?_
  refine g_iadd hX dL_law_295 296 rfl ?_
  refine g_ialdT hX dL_law_296 hT (g_ix.eq (q_off k 2 (d := 2) rfl) (show 6 * k + 2 < L by omega) (by omega)) 297 rfl ?_
  refine g_cS3 (wt := 0) hX (HL A h hW) dL_law_297 kL_99 (g_rm.of hR (by decide) (by decide)) (by rw [hR]; show cs + 7 ≤ 601024; omega) (by rw [hR]; show ss + 107 ≤ 7293034; omega) (by first | decide | (simp [Value.category])) (fun q => by cases q) 300 rfl (fun v9 h hP => ?_) (fun k9 h9 hP => by cases hP.1)
  obtain ⟨hv9, B, hB9, hW1⟩ := hP
  cases hv9
  rw [← hB9.1, ← hB9.2.1, ← hB9.2.2]
  show g_Go E X _ h false _ _ 300 _ [.int c]
  refine g_istore hX (L' := [_, _, _, _, _, _, _]) dL_law_300 (Nat.le_of_ble_eq_true rfl) rfl 302 rfl ?_
  refine g_aload_n hX dL_law_302 rfl rfl (by first | rfl | exact g_rfr _) 303 rfl ?_
  refine g_aload_n hX dL_law_303 rfl rfl (by first | rfl | exact g_rfr _) 304 rfl ?_
  refine g_iload hX dL_law_304 rfl 306 rfl ?_
  refine g_iconst hX dL_law_306 (v := 1) (by decide) 307 rfl ?_
  refine g_iadd hX dL_law_307 308 rfl ?_
  refine g_ialdT hX dL_law_308 hT (g_ix.eq (q_off k 1 (d := 1) rfl) (show 6 * k + 1 < L by omega) (by omega)) 309 rfl ?_
  refine g_aload_n hX dL_law_309 rfl rfl (by first | rfl | exact g_rfr _) 310 rfl ?_
  refine g_iload hX dL_law_310 rfl 312 rfl ?_
  refine g_iconst hX dL_law_312 (v := 2) (by decide) 313 rfl ?_
  refine g_iadd hX dL_law_313 314 rfl ?_
  refine g_ialdT hX dL_law_314 hT (g_ix.eq (q_off k 2 (d := 2) rfl) (show 6 * k + 2 < L by omega) (by omega)) 315 rfl ?_
  refine g_cV2 (wt := 0) hX (HM B h hW1) dL_law_315 (w_m hW1.r) kL_102 (g_rm.of hR (by decide) (by decide)) (by rw [hR]; show _ ≤ 601024; omega) (by rw [hR]; show _ ≤ 7293034; omega) (by first | decide | (simp [Value.category])) (fun q => by cases q) 318 rfl (fun v9 h hP => ?_) (fun k9 h9 hP => by cases hP.1)
  obtain ⟨hv9, hW2⟩ := hP
  cases hv9
  have hW3 : w_W E B T T h := hW2.cong t1 t2
  show g_Go E X _ h false _ _ 318 _ []
  refine g_aload_n hX dL_law_318 rfl rfl (by first | rfl | exact g_rfr _) 319 rfl ?_
  refine g_cV0r (wt := 0) hX (c_M_thrown hX.tr hW3.r hI2.1) dL_law_319 (w_m hW3.r) kL_92 (g_rm.of hR (by decide) (by decide)) (by rw [hR]; show _ ≤ 601024; omega) (by rw [hR]; show _ ≤ 7293034; omega) (by first | decide | (simp [Value.category])) 322 rfl ?_
  rw [show T.2 13 1 = c from (t2.2.2.2.2.2.1).trans hc]
  refine g_iload hX dL_law_322 rfl 324 rfl ?_
  refine g_icmp_eq hX dL_law_324 329 327 (by decide) rfl (fun c324 => ?_) (fun c324 => ?_)
  · refine g_goto hX dL_law_329 1447 (by decide) ?_
    refine g_drop (L' := [_, _, _, _, _, none, _]) 5 rfl ?_
    refine g_drop (L' := [_, _, _, _, _, _, none]) 6 rfl ?_
    exact kk B T h _ _ hI2 hW3 (by omega) (by omega)
  · exact absurd rfl c324
set_option maxRecDepth 100000 in
set_option maxHeartbeats 4000000 in
theorem lo_set {E : g_E} {X : g_X} {nm ds : String} {tb : List (Nat × Nat × Nat × Nat)} (hX : g_ok E X (mLaw nm ds tb)) (hR : X.R = { frames := 14, cells := 601024, slots := 7293034, locals := 520 }) {b L : Nat} {xs : Nat → Int32} (hT : va_T .int b L (fun j => .int (xs j)) (fun q => E.H0.size ≤ q) X.s E.H0) (hL : L ≤ 3072) {k cs ss : Nat} (hk : 6 * k + 6 ≤ L) {A : w_A} {S : q_S} {h : g_H} (hI : w_I S) (hW : w_W E A S S h) (hcs : cs ≤ 40 + 7 * k) (hss : ss ≤ 1400 + 107 * k)
    (kk : ∀ (B : w_A) (T : q_S) (h : g_H) (cs ss : Nat), w_I T → w_W E B T T h → cs ≤ 47 + 7 * k → ss ≤ 1507 + 107 * k → g_Go E X lw_fin h false cs ss 1447 [some (.ref b), some (.ref (B 0 0)), some (.ref (B 30 0)), some (.ref (B 29 0)), some (.int (nI (6 * k))), none, none] []) : g_Go E X lw_fin h false cs ss 332 [some (.ref b), some (.ref (A 0 0)), some (.ref (A 30 0)), some (.ref (A 29 0)), some (.int (nI (6 * k))), none, none] [] := by
  obtain ⟨c, S1, S2, T, HL, HM, hc, t1, t2, hI2⟩ := j_set hX.tr E hI (xs (6 * k + 1)) (xs (6 * k + 2)) (xs (6 * k + 3))
  refine g_aload_n hX dL_law_332 rfl rfl (by first | rfl | exact g_rfr _) 333 rfl ?_
  refine g_aload_n hX dL_law_333 rfl rfl (by first | rfl | exact g_rfr _) 334 rfl ?_
  refine g_iload hX dL_law_334 rfl 336 rfl ?_
  refine g_iconst hX dL_law_336 (v := 1) (by decide) 337 rfl ?_
  refine g_iadd hX dL_law_337 338 rfl ?_
  refine g_ialdT hX dL_law_338 hT (g_ix.eq (q_off k 1 (d := 1) rfl) (show 6 * k + 1 < L by omega) (by omega)) 339 rfl ?_
  refine g_aload_n hX dL_law_339 rfl rfl (by first | rfl | exact g_rfr _) 340 rfl ?_
  refine g_iload hX dL_law_340 rfl 342 rfl ?_
  refine g_iconst hX dL_law_342 (v := 2) (by decide) 343 rfl ?_
  refine g_iadd hX dL_law_343 344 rfl ?_
  refine g_ialdT hX dL_law_344 hT (g_ix.eq (q_off k 2 (d := 2) rfl) (show 6 * k + 2 < L by omega) (by omega)) 345 rfl ?_
  refine g_aload_n hX dL_law_345 rfl rfl (by first | rfl | exact g_rfr _) 346 rfl ?_
  refine g_iload hX dL_law_346 rfl 348 rfl ?_
  refine g_iconst hX dL_law_348 (v := 3) (by decide) 349 rfl ?_
  refine g_iadd hX dL_law_349 350 rfl ?_
  refine g_ialdT hX dL_law_350 hT (g_ix.eq (q_off k 3 (d := 3) rfl) (show 6 * k + 3 < L by omega) (by omega)) 351 rfl ?_
  refine g_cS4 (wt := 0) hX (HL A h hW) dL_law_351 kL_103 (g_rm.of hR (by decide) (by decide)) (by rw [hR]; show cs + 7 ≤ 601024; omega) (by rw [hR]; show ss + 107 ≤ 7293034; omega) (by first | decide | (simp [Value.category])) (fun q => by cases q) 354 rfl (fun v9 h hP => ?_) (fun k9 h9 hP => by cases hP.1)
  obtain ⟨hv9, B, hB9, hW1⟩ := hP
  cases hv9
  rw [← hB9.1, ← hB9.2.1, ← hB9.2.2]
  show g_Go E X _ h false _ _ 354 _ [.int c]
  refine g_istore hX (L' := [_, _, _, _, _, _, _]) dL_law_354 (Nat.le_of_ble_eq_true rfl) rfl 356 rfl ?_
  refine g_aload_n hX dL_law_356 rfl rfl (by first | rfl | exact g_rfr _) 357 rfl ?_
  refine g_aload_n hX dL_law_357 rfl rfl (by first | rfl | exact g_rfr _) 358 rfl ?_
  refine g_iload hX dL_law_358 rfl 360 rfl ?_
  refine g_iconst hX dL_law_360 (v := 1) (by decide) 361 rfl ?_
  refine g_iadd hX dL_law_361 362 rfl ?_
  refine g_ialdT hX dL_law_362 hT (g_ix.eq (q_off k 1 (d := 1) rfl) (show 6 * k + 1 < L by omega) (by omega)) 363 rfl ?_
  refine g_aload_n hX dL_law_363 rfl rfl (by first | rfl | exact g_rfr _) 364 rfl ?_
  refine g_iload hX dL_law_364 rfl 366 rfl ?_
  refine g_iconst hX dL_law_366 (v := 2) (by decide) 367 rfl ?_
  refine g_iadd hX dL_law_367 368 rfl ?_
  refine g_ialdT hX dL_law_368 hT (g_ix.eq (q_off k 2 (d := 2) rfl) (show 6 * k + 2 < L by omega) (by omega)) 369 rfl ?_
  refine g_aload_n hX dL_law_369 rfl rfl (by first | rfl | exact g_rfr _) 370 rfl ?_
  refine g_iload hX dL_law_370 rfl 372 rfl ?_
  refine g_iconst hX dL_law_372 (v := 3) (by decide) 373 rfl ?_
  refine g_iadd hX dL_law_373 374 rfl ?_
  refine g_ialdT hX dL_law_374 hT (g_ix.eq (q_off k 3 (d := 3) rfl) (show 6 * k + 3 < L by omega) (by omega)) 375 rfl ?_
  refine g_cV3 (wt := 0) hX (HM B h hW1) dL_law_375 (w_m hW1.r) kL_106 (g_rm.of hR (by decide) (by decide)) (by rw [hR]; show _ ≤ 601024; omega) (by rw [hR]; show _ ≤ 7293034; omega) (by first | decide | (simp [Value.category])) (fun q => by cases q) 378 rfl (fun v9 h hP => ?_) (fun k9 h9 hP => by cases hP.1)
  obtain ⟨hv9, hW2⟩ := hP
  cases hv9
  have hW3 : w_W E B T T h := hW2.cong t1 t2
  show g_Go E X _ h false _ _ 378 _ []
  refine g_aload_n hX dL_law_378 rfl rfl (by first | rfl | exact g_rfr _) 379 rfl ?_
  refine g_cV0r (wt := 0) hX (c_M_thrown hX.tr hW3.r hI2.1) dL_law_379 (w_m hW3.r) kL_92 (g_rm.of hR (by decide) (by decide)) (by rw [hR]; show _ ≤ 601024; omega) (by rw [hR]; show _ ≤ 7293034; omega) (by first | decide | (simp [Value.category])) 382 rfl ?_
  rw [show T.2 13 1 = c from (t2.2.2.2.2.2.1).trans hc]
  refine g_iload hX dL_law_382 rfl 384 rfl ?_
  refine g_icmp_eq hX dL_law_384 389 387 (by decide) rfl (fun c384 => ?_) (fun c384 => ?_)
  · refine g_goto hX dL_law_389 1447 (by decide) ?_
    refine g_drop (L' := [_, _, _, _, _, none, _]) 5 rfl ?_
    refine g_drop (L' := [_, _, _, _, _, _, none]) 6 rfl ?_
    exact kk B T h _ _ hI2 hW3 (by omega) (by omega)
  · exact absurd rfl c384
set_option maxRecDepth 100000 in
set_option maxHeartbeats 4000000 in
theorem lo_unset {E : g_E} {X : g_X} {nm ds : String} {tb : List (Nat × Nat × Nat × Nat)} (hX : g_ok E X (mLaw nm ds tb)) (hR : X.R = { frames := 14, cells := 601024, slots := 7293034, locals := 520 }) {b L : Nat} {xs : Nat → Int32} (hT : va_T .int b L (fun j => .int (xs j)) (fun q => E.H0.size ≤ q) X.s E.H0) (hL : L ≤ 3072) {k cs ss : Nat} (hk : 6 * k + 6 ≤ L) {A : w_A} {S : q_S} {h : g_H} (hI : w_I S) (hW : w_W E A S S h) (hcs : cs ≤ 40 + 7 * k) (hss : ss ≤ 1400 + 107 * k)
    (kk : ∀ (B : w_A) (T : q_S) (h : g_H) (cs ss : Nat), w_I T → w_W E B T T h → cs ≤ 47 + 7 * k → ss ≤ 1507 + 107 * k → g_Go E X lw_fin h false cs ss 1447 [some (.ref b), some (.ref (B 0 0)), some (.ref (B 30 0)), some (.ref (B 29 0)), some (.int (nI (6 * k))), none, none] []) : g_Go E X lw_fin h false cs ss 392 [some (.ref b), some (.ref (A 0 0)), some (.ref (A 30 0)), some (.ref (A 29 0)), some (.int (nI (6 * k))), none, none] [] := by
  obtain ⟨c, v, S1, S2, T, HL, HM, hc, hv, t1, t2, hI2, hz9⟩ := j_unset hX.tr E hI (xs (6 * k + 1)) (xs (6 * k + 2))
  have hz1 : ¬ v = 0 → v = 1 := fun q => hz9.resolve_left q
  refine g_aload_n hX dL_law_392 rfl rfl (by first | rfl | exact g_rfr _) 393 rfl ?_
  refine g_aload_n hX dL_law_393 rfl rfl (by first | rfl | exact g_rfr _) 394 rfl ?_
  refine g_iload hX dL_law_394 rfl 396 rfl ?_
  refine g_iconst hX dL_law_396 (v := 1) (by decide) 397 rfl ?_
  refine g_iadd hX dL_law_397 398 rfl ?_
  refine g_ialdT hX dL_law_398 hT (g_ix.eq (q_off k 1 (d := 1) rfl) (show 6 * k + 1 < L by omega) (by omega)) 399 rfl ?_
  refine g_aload_n hX dL_law_399 rfl rfl (by first | rfl | exact g_rfr _) 400 rfl ?_
  refine g_iload hX dL_law_400 rfl 402 rfl ?_
  refine g_iconst hX dL_law_402 (v := 2) (by decide) 403 rfl ?_
  refine g_iadd hX dL_law_403 404 rfl ?_
  refine g_ialdT hX dL_law_404 hT (g_ix.eq (q_off k 2 (d := 2) rfl) (show 6 * k + 2 < L by omega) (by omega)) 405 rfl ?_
  refine g_aload_n hX dL_law_405 rfl rfl (by first | rfl | exact g_rfr _) 406 rfl ?_
  refine g_cS4 (wt := 0) hX (HL A h hW) dL_law_406 kL_107 (g_rm.of hR (by decide) (by decide)) (by rw [hR]; show cs + 7 ≤ 601024; omega) (by rw [hR]; show ss + 107 ≤ 7293034; omega) (by first | decide | (simp [Value.category])) (fun q => by cases q) 409 rfl (fun v9 h hP => ?_) (fun k9 h9 hP => by cases hP.1)
  obtain ⟨hv9, B, hB9, hW1⟩ := hP
  cases hv9
  rw [← hB9.1, ← hB9.2.1, ← hB9.2.2]
  show g_Go E X _ h false _ _ 409 _ [.int c]
  refine g_istore hX (L' := [_, _, _, _, _, _, _]) dL_law_409 (Nat.le_of_ble_eq_true rfl) rfl 411 rfl ?_
  refine g_aload_n hX dL_law_411 rfl rfl (by first | rfl | exact g_rfr _) 412 rfl ?_
  refine g_aload_n hX dL_law_412 rfl rfl (by first | rfl | exact g_rfr _) 413 rfl ?_
  refine g_iload hX dL_law_413 rfl 415 rfl ?_
  refine g_iconst hX dL_law_415 (v := 1) (by decide) 416 rfl ?_
  refine g_iadd hX dL_law_416 417 rfl ?_
  refine g_ialdT hX dL_law_417 hT (g_ix.eq (q_off k 1 (d := 1) rfl) (show 6 * k + 1 < L by omega) (by omega)) 418 rfl ?_
  refine g_aload_n hX dL_law_418 rfl rfl (by first | rfl | exact g_rfr _) 419 rfl ?_
  refine g_iload hX dL_law_419 rfl 421 rfl ?_
  refine g_iconst hX dL_law_421 (v := 2) (by decide) 422 rfl ?_
  refine g_iadd hX dL_law_422 423 rfl ?_
  refine g_ialdT hX dL_law_423 hT (g_ix.eq (q_off k 2 (d := 2) rfl) (show 6 * k + 2 < L by omega) (by omega)) 424 rfl ?_
  refine g_cV2 (wt := 0) hX (HM B h hW1) dL_law_424 (w_m hW1.r) kL_109 (g_rm.of hR (by decide) (by decide)) (by rw [hR]; show _ ≤ 601024; omega) (by rw [hR]; show _ ≤ 7293034; omega) (by first | decide | (simp [Value.category])) (fun q => by cases q) 427 rfl (fun v9 h hP => ?_) (fun k9 h9 hP => by cases hP.1)
  obtain ⟨hv9, hW2⟩ := hP
  cases hv9
  have hW3 : w_W E B T T h := hW2.cong t1 t2
  show g_Go E X _ h false _ _ 427 _ [.int v]
  refine g_istore hX (L' := [_, _, _, _, _, _, _]) dL_law_427 (Nat.le_of_ble_eq_true rfl) rfl 429 rfl ?_
  refine g_aload_n hX dL_law_429 rfl rfl (by first | rfl | exact g_rfr _) 430 rfl ?_
  refine g_cV0r (wt := 0) hX (c_M_thrown hX.tr hW3.r hI2.1) dL_law_430 (w_m hW3.r) kL_92 (g_rm.of hR (by decide) (by decide)) (by rw [hR]; show _ ≤ 601024; omega) (by rw [hR]; show _ ≤ 7293034; omega) (by first | decide | (simp [Value.category])) 433 rfl ?_
  rw [show T.2 13 1 = c from (t2.2.2.2.2.2.1).trans hc]
  refine g_iload hX dL_law_433 rfl 435 rfl ?_
  refine g_icmp_eq hX dL_law_435 440 438 (by decide) rfl (fun c435 => ?_) (fun c435 => ?_)
  · refine g_iload hX dL_law_440 rfl 442 rfl ?_
    refine g_if_ne hX dL_law_442 464 445 (by decide) rfl (fun c442 => ?_) (fun c442 => ?_)
    · refine g_goto hX dL_law_464 1447 (by decide) ?_
      refine g_drop (L' := [_, _, _, _, _, none, _]) 5 rfl ?_
      refine g_drop (L' := [_, _, _, _, _, _, none]) 6 rfl ?_
      exact kk B T h _ _ hI2 hW3 (by omega) (by omega)
    · refine g_aload_n hX dL_law_445 rfl rfl (by first | rfl | exact g_rfr _) 446 rfl ?_
      refine g_iconst hX dL_law_446 (v := 0) (by decide) 447 rfl ?_
      refine g_lald hX dL_law_447 (w_c hW3 29 0 (by decide) ⟨rfl, by decide⟩) (g_ix.nat (k := 0) (by decide) (by decide)) 448 rfl ?_
      refine g_iload hX dL_law_448 rfl 450 rfl ?_
      refine g_if_eq hX dL_law_450 457 453 (by decide) rfl (fun c450 => ?_) (fun c450 => ?_)
      · refine g_lconst hX dL_law_457 (v := 0) (by decide) 458 rfl ?_
        have hv0 := hv c442
        have h22 : T.2 22 0 = v := (congrFun t1.2.2.2.2.2.2.2.2.2 0).trans hv0
        refine g_lcmp hX dL_law_458 459 rfl ?_
        rw [q_cmp (show (T.2 22 0).toInt64 = 0 by rw [h22, show v = 0 from c450]; rfl)]
        refine g_if_eq hX dL_law_459 464 462 (by decide) rfl (fun c459 => ?_) (fun c459 => ?_)
        · refine g_goto hX dL_law_464 1447 (by decide) ?_
          refine g_drop (L' := [_, _, _, _, _, none, _]) 5 rfl ?_
          refine g_drop (L' := [_, _, _, _, _, _, none]) 6 rfl ?_
          exact kk B T h _ _ hI2 hW3 (by omega) (by omega)
        · exact absurd rfl c459
      · refine g_lconst hX dL_law_453 (v := 1) (by decide) 454 rfl ?_
        refine g_goto hX dL_law_454 458 (by decide) ?_
        have hv0 := hv c442
        have h22 : T.2 22 0 = v := (congrFun t1.2.2.2.2.2.2.2.2.2 0).trans hv0
        refine g_lcmp hX dL_law_458 459 rfl ?_
        rw [q_cmp (show (T.2 22 0).toInt64 = 1 by rw [h22, hz1 c450]; rfl)]
        refine g_if_eq hX dL_law_459 464 462 (by decide) rfl (fun c459 => ?_) (fun c459 => ?_)
        · refine g_goto hX dL_law_464 1447 (by decide) ?_
          refine g_drop (L' := [_, _, _, _, _, none, _]) 5 rfl ?_
          refine g_drop (L' := [_, _, _, _, _, _, none]) 6 rfl ?_
          exact kk B T h _ _ hI2 hW3 (by omega) (by omega)
        · exact absurd rfl c459
  · exact absurd rfl c435
set_option maxRecDepth 100000 in
set_option maxHeartbeats 4000000 in
theorem lo_resolved {E : g_E} {X : g_X} {nm ds : String} {tb : List (Nat × Nat × Nat × Nat)} (hX : g_ok E X (mLaw nm ds tb)) (hR : X.R = { frames := 14, cells := 601024, slots := 7293034, locals := 520 }) {b L : Nat} {xs : Nat → Int32} (hT : va_T .int b L (fun j => .int (xs j)) (fun q => E.H0.size ≤ q) X.s E.H0) (hL : L ≤ 3072) {k cs ss : Nat} (hk : 6 * k + 6 ≤ L) {A : w_A} {S : q_S} {h : g_H} (hI : w_I S) (hW : w_W E A S S h) (hcs : cs ≤ 40 + 7 * k) (hss : ss ≤ 1400 + 107 * k)
    (kk : ∀ (B : w_A) (T : q_S) (h : g_H) (cs ss : Nat), w_I T → w_W E B T T h → cs ≤ 47 + 7 * k → ss ≤ 1507 + 107 * k → g_Go E X lw_fin h false cs ss 1447 [some (.ref b), some (.ref (B 0 0)), some (.ref (B 30 0)), some (.ref (B 29 0)), some (.int (nI (6 * k))), none, none] []) : g_Go E X lw_fin h false cs ss 467 [some (.ref b), some (.ref (A 0 0)), some (.ref (A 30 0)), some (.ref (A 29 0)), some (.int (nI (6 * k))), none, none] [] := by
  obtain ⟨c, v, S1, S2, T, HL, HM, hc, hv, t1, t2, hI2⟩ := j_resolved hX.tr E hI (xs (6 * k + 1)) (xs (6 * k + 2))
  refine g_aload_n hX dL_law_467 rfl rfl (by first | rfl | exact g_rfr _) 468 rfl ?_
  refine g_aload_n hX dL_law_468 rfl rfl (by first | rfl | exact g_rfr _) 469 rfl ?_
  refine g_iload hX dL_law_469 rfl 471 rfl ?_
  refine g_iconst hX dL_law_471 (v := 1) (by decide) 472 rfl ?_
  refine g_iadd hX dL_law_472 473 rfl ?_
  refine g_ialdT hX dL_law_473 hT (g_ix.eq (q_off k 1 (d := 1) rfl) (show 6 * k + 1 < L by omega) (by omega)) 474 rfl ?_
  refine g_aload_n hX dL_law_474 rfl rfl (by first | rfl | exact g_rfr _) 475 rfl ?_
  refine g_iload hX dL_law_475 rfl 477 rfl ?_
  refine g_iconst hX dL_law_477 (v := 2) (by decide) 478 rfl ?_
  refine g_iadd hX dL_law_478 479 rfl ?_
  refine g_ialdT hX dL_law_479 hT (g_ix.eq (q_off k 2 (d := 2) rfl) (show 6 * k + 2 < L by omega) (by omega)) 480 rfl ?_
  refine g_aload_n hX dL_law_480 rfl rfl (by first | rfl | exact g_rfr _) 481 rfl ?_
  refine g_cS4 (wt := 0) hX (HL A h hW) dL_law_481 kL_110 (g_rm.of hR (by decide) (by decide)) (by rw [hR]; show cs + 7 ≤ 601024; omega) (by rw [hR]; show ss + 107 ≤ 7293034; omega) (by first | decide | (simp [Value.category])) (fun q => by cases q) 484 rfl (fun v9 h hP => ?_) (fun k9 h9 hP => by cases hP.1)
  obtain ⟨hv9, B, hB9, hW1⟩ := hP
  cases hv9
  rw [← hB9.1, ← hB9.2.1, ← hB9.2.2]
  show g_Go E X _ h false _ _ 484 _ [.int c]
  refine g_istore hX (L' := [_, _, _, _, _, _, _]) dL_law_484 (Nat.le_of_ble_eq_true rfl) rfl 486 rfl ?_
  refine g_aload_n hX dL_law_486 rfl rfl (by first | rfl | exact g_rfr _) 487 rfl ?_
  refine g_aload_n hX dL_law_487 rfl rfl (by first | rfl | exact g_rfr _) 488 rfl ?_
  refine g_iload hX dL_law_488 rfl 490 rfl ?_
  refine g_iconst hX dL_law_490 (v := 1) (by decide) 491 rfl ?_
  refine g_iadd hX dL_law_491 492 rfl ?_
  refine g_ialdT hX dL_law_492 hT (g_ix.eq (q_off k 1 (d := 1) rfl) (show 6 * k + 1 < L by omega) (by omega)) 493 rfl ?_
  refine g_aload_n hX dL_law_493 rfl rfl (by first | rfl | exact g_rfr _) 494 rfl ?_
  refine g_iload hX dL_law_494 rfl 496 rfl ?_
  refine g_iconst hX dL_law_496 (v := 2) (by decide) 497 rfl ?_
  refine g_iadd hX dL_law_497 498 rfl ?_
  refine g_ialdT hX dL_law_498 hT (g_ix.eq (q_off k 2 (d := 2) rfl) (show 6 * k + 2 < L by omega) (by omega)) 499 rfl ?_
  refine g_cV2 (wt := 0) hX (HM B h hW1) dL_law_499 (w_m hW1.r) kL_112 (g_rm.of hR (by decide) (by decide)) (by rw [hR]; show _ ≤ 601024; omega) (by rw [hR]; show _ ≤ 7293034; omega) (by first | decide | (simp [Value.category])) (fun q => by cases q) 502 rfl (fun v9 h hP => ?_) (fun k9 h9 hP => by cases hP.1)
  obtain ⟨hv9, hW2⟩ := hP
  cases hv9
  have hW3 : w_W E B T T h := hW2.cong t1 t2
  show g_Go E X _ h false _ _ 502 _ [.int v]
  refine g_istore hX (L' := [_, _, _, _, _, _, _]) dL_law_502 (Nat.le_of_ble_eq_true rfl) rfl 504 rfl ?_
  refine g_aload_n hX dL_law_504 rfl rfl (by first | rfl | exact g_rfr _) 505 rfl ?_
  refine g_cV0r (wt := 0) hX (c_M_thrown hX.tr hW3.r hI2.1) dL_law_505 (w_m hW3.r) kL_92 (g_rm.of hR (by decide) (by decide)) (by rw [hR]; show _ ≤ 601024; omega) (by rw [hR]; show _ ≤ 7293034; omega) (by first | decide | (simp [Value.category])) 508 rfl ?_
  rw [show T.2 13 1 = c from (t2.2.2.2.2.2.1).trans hc]
  refine g_iload hX dL_law_508 rfl 510 rfl ?_
  refine g_icmp_eq hX dL_law_510 515 513 (by decide) rfl (fun c510 => ?_) (fun c510 => ?_)
  · refine g_iload hX dL_law_515 rfl 517 rfl ?_
    refine g_if_ne hX dL_law_517 532 520 (by decide) rfl (fun c517 => ?_) (fun c517 => ?_)
    · refine g_goto hX dL_law_532 1447 (by decide) ?_
      refine g_drop (L' := [_, _, _, _, _, none, _]) 5 rfl ?_
      refine g_drop (L' := [_, _, _, _, _, _, none]) 6 rfl ?_
      exact kk B T h _ _ hI2 hW3 (by omega) (by omega)
    · refine g_aload_n hX dL_law_520 rfl rfl (by first | rfl | exact g_rfr _) 521 rfl ?_
      refine g_iconst hX dL_law_521 (v := 0) (by decide) 522 rfl ?_
      refine g_lald hX dL_law_522 (w_c hW3 29 0 (by decide) ⟨rfl, by decide⟩) (g_ix.nat (k := 0) (by decide) (by decide)) 523 rfl ?_
      refine g_iload hX dL_law_523 rfl 525 rfl ?_
      refine g_i2l hX dL_law_525 rfl 526 rfl ?_
      have hv0 := hv c517
      have h22 : T.2 22 0 = v := (congrFun t1.2.2.2.2.2.2.2.2.2 0).trans hv0
      refine g_lcmp hX dL_law_526 527 rfl ?_
      rw [q_cmp (show (T.2 22 0).toInt64 = v.toInt64 by rw [h22])]
      refine g_if_eq hX dL_law_527 532 530 (by decide) rfl (fun c527 => ?_) (fun c527 => ?_)
      · refine g_goto hX dL_law_532 1447 (by decide) ?_
        refine g_drop (L' := [_, _, _, _, _, none, _]) 5 rfl ?_
        refine g_drop (L' := [_, _, _, _, _, _, none]) 6 rfl ?_
        exact kk B T h _ _ hI2 hW3 (by omega) (by omega)
      · exact absurd rfl c527
  · exact absurd rfl c510
set_option maxRecDepth 100000 in
set_option maxHeartbeats 4000000 in
theorem lo_origin {E : g_E} {X : g_X} {nm ds : String} {tb : List (Nat × Nat × Nat × Nat)} (hX : g_ok E X (mLaw nm ds tb)) (hR : X.R = { frames := 14, cells := 601024, slots := 7293034, locals := 520 }) {b L : Nat} {xs : Nat → Int32} (hT : va_T .int b L (fun j => .int (xs j)) (fun q => E.H0.size ≤ q) X.s E.H0) (hL : L ≤ 3072) {k cs ss : Nat} (hk : 6 * k + 6 ≤ L) {A : w_A} {S : q_S} {h : g_H} (hI : w_I S) (hW : w_W E A S S h) (hcs : cs ≤ 40 + 7 * k) (hss : ss ≤ 1400 + 107 * k)
    (kk : ∀ (B : w_A) (T : q_S) (h : g_H) (cs ss : Nat), w_I T → w_W E B T T h → cs ≤ 47 + 7 * k → ss ≤ 1507 + 107 * k → g_Go E X lw_fin h false cs ss 1447 [some (.ref b), some (.ref (B 0 0)), some (.ref (B 30 0)), some (.ref (B 29 0)), some (.int (nI (6 * k))), none, none] []) : g_Go E X lw_fin h false cs ss 535 [some (.ref b), some (.ref (A 0 0)), some (.ref (A 30 0)), some (.ref (A 29 0)), some (.int (nI (6 * k))), none, none] [] := by
  obtain ⟨c, v, S1, S2, T, HL, HM, hc, hv, t1, t2, hI2⟩ := j_origin hX.tr E hI (xs (6 * k + 1)) (xs (6 * k + 2))
  refine g_aload_n hX dL_law_535 rfl rfl (by first | rfl | exact g_rfr _) 536 rfl ?_
  refine g_aload_n hX dL_law_536 rfl rfl (by first | rfl | exact g_rfr _) 537 rfl ?_
  refine g_iload hX dL_law_537 rfl 539 rfl ?_
  refine g_iconst hX dL_law_539 (v := 1) (by decide) 540 rfl ?_
  refine g_iadd hX dL_law_540 541 rfl ?_
  refine g_ialdT hX dL_law_541 hT (g_ix.eq (q_off k 1 (d := 1) rfl) (show 6 * k + 1 < L by omega) (by omega)) 542 rfl ?_
  refine g_aload_n hX dL_law_542 rfl rfl (by first | rfl | exact g_rfr _) 543 rfl ?_
  refine g_iload hX dL_law_543 rfl 545 rfl ?_
  refine g_iconst hX dL_law_545 (v := 2) (by decide) 546 rfl ?_
  refine g_iadd hX dL_law_546 547 rfl ?_
  refine g_ialdT hX dL_law_547 hT (g_ix.eq (q_off k 2 (d := 2) rfl) (show 6 * k + 2 < L by omega) (by omega)) 548 rfl ?_
  refine g_aload_n hX dL_law_548 rfl rfl (by first | rfl | exact g_rfr _) 549 rfl ?_
  refine g_cS4 (wt := 0) hX (HL A h hW) dL_law_549 kL_113 (g_rm.of hR (by decide) (by decide)) (by rw [hR]; show cs + 7 ≤ 601024; omega) (by rw [hR]; show ss + 107 ≤ 7293034; omega) (by first | decide | (simp [Value.category])) (fun q => by cases q) 552 rfl (fun v9 h hP => ?_) (fun k9 h9 hP => by cases hP.1)
  obtain ⟨hv9, B, hB9, hW1⟩ := hP
  cases hv9
  rw [← hB9.1, ← hB9.2.1, ← hB9.2.2]
  show g_Go E X _ h false _ _ 552 _ [.int c]
  refine g_istore hX (L' := [_, _, _, _, _, _, _]) dL_law_552 (Nat.le_of_ble_eq_true rfl) rfl 554 rfl ?_
  refine g_aload_n hX dL_law_554 rfl rfl (by first | rfl | exact g_rfr _) 555 rfl ?_
  refine g_aload_n hX dL_law_555 rfl rfl (by first | rfl | exact g_rfr _) 556 rfl ?_
  refine g_iload hX dL_law_556 rfl 558 rfl ?_
  refine g_iconst hX dL_law_558 (v := 1) (by decide) 559 rfl ?_
  refine g_iadd hX dL_law_559 560 rfl ?_
  refine g_ialdT hX dL_law_560 hT (g_ix.eq (q_off k 1 (d := 1) rfl) (show 6 * k + 1 < L by omega) (by omega)) 561 rfl ?_
  refine g_aload_n hX dL_law_561 rfl rfl (by first | rfl | exact g_rfr _) 562 rfl ?_
  refine g_iload hX dL_law_562 rfl 564 rfl ?_
  refine g_iconst hX dL_law_564 (v := 2) (by decide) 565 rfl ?_
  refine g_iadd hX dL_law_565 566 rfl ?_
  refine g_ialdT hX dL_law_566 hT (g_ix.eq (q_off k 2 (d := 2) rfl) (show 6 * k + 2 < L by omega) (by omega)) 567 rfl ?_
  refine g_cV2 (wt := 0) hX (HM B h hW1) dL_law_567 (w_m hW1.r) kL_115 (g_rm.of hR (by decide) (by decide)) (by rw [hR]; show _ ≤ 601024; omega) (by rw [hR]; show _ ≤ 7293034; omega) (by first | decide | (simp [Value.category])) (fun q => by cases q) 570 rfl (fun v9 h hP => ?_) (fun k9 h9 hP => by cases hP.1)
  obtain ⟨hv9, hW2⟩ := hP
  cases hv9
  have hW3 : w_W E B T T h := hW2.cong t1 t2
  show g_Go E X _ h false _ _ 570 _ [.int v]
  refine g_istore hX (L' := [_, _, _, _, _, _, _]) dL_law_570 (Nat.le_of_ble_eq_true rfl) rfl 572 rfl ?_
  refine g_aload_n hX dL_law_572 rfl rfl (by first | rfl | exact g_rfr _) 573 rfl ?_
  refine g_cV0r (wt := 0) hX (c_M_thrown hX.tr hW3.r hI2.1) dL_law_573 (w_m hW3.r) kL_92 (g_rm.of hR (by decide) (by decide)) (by rw [hR]; show _ ≤ 601024; omega) (by rw [hR]; show _ ≤ 7293034; omega) (by first | decide | (simp [Value.category])) 576 rfl ?_
  rw [show T.2 13 1 = c from (t2.2.2.2.2.2.1).trans hc]
  refine g_iload hX dL_law_576 rfl 578 rfl ?_
  refine g_icmp_eq hX dL_law_578 583 581 (by decide) rfl (fun c578 => ?_) (fun c578 => ?_)
  · refine g_iload hX dL_law_583 rfl 585 rfl ?_
    refine g_if_ne hX dL_law_585 600 588 (by decide) rfl (fun c585 => ?_) (fun c585 => ?_)
    · refine g_goto hX dL_law_600 1447 (by decide) ?_
      refine g_drop (L' := [_, _, _, _, _, none, _]) 5 rfl ?_
      refine g_drop (L' := [_, _, _, _, _, _, none]) 6 rfl ?_
      exact kk B T h _ _ hI2 hW3 (by omega) (by omega)
    · refine g_aload_n hX dL_law_588 rfl rfl (by first | rfl | exact g_rfr _) 589 rfl ?_
      refine g_iconst hX dL_law_589 (v := 0) (by decide) 590 rfl ?_
      refine g_lald hX dL_law_590 (w_c hW3 29 0 (by decide) ⟨rfl, by decide⟩) (g_ix.nat (k := 0) (by decide) (by decide)) 591 rfl ?_
      refine g_iload hX dL_law_591 rfl 593 rfl ?_
      refine g_i2l hX dL_law_593 rfl 594 rfl ?_
      have hv0 := hv c585
      have h22 : T.2 22 0 = v := (congrFun t1.2.2.2.2.2.2.2.2.2 0).trans hv0
      refine g_lcmp hX dL_law_594 595 rfl ?_
      rw [q_cmp (show (T.2 22 0).toInt64 = v.toInt64 by rw [h22])]
      refine g_if_eq hX dL_law_595 600 598 (by decide) rfl (fun c595 => ?_) (fun c595 => ?_)
      · refine g_goto hX dL_law_600 1447 (by decide) ?_
        refine g_drop (L' := [_, _, _, _, _, none, _]) 5 rfl ?_
        refine g_drop (L' := [_, _, _, _, _, _, none]) 6 rfl ?_
        exact kk B T h _ _ hI2 hW3 (by omega) (by omega)
      · exact absurd rfl c595
  · exact absurd rfl c578
set_option maxRecDepth 100000 in
set_option maxHeartbeats 4000000 in
theorem lo_binding {E : g_E} {X : g_X} {nm ds : String} {tb : List (Nat × Nat × Nat × Nat)} (hX : g_ok E X (mLaw nm ds tb)) (hR : X.R = { frames := 14, cells := 601024, slots := 7293034, locals := 520 }) {b L : Nat} {xs : Nat → Int32} (hT : va_T .int b L (fun j => .int (xs j)) (fun q => E.H0.size ≤ q) X.s E.H0) (hL : L ≤ 3072) {k cs ss : Nat} (hk : 6 * k + 6 ≤ L) {A : w_A} {S : q_S} {h : g_H} (hI : w_I S) (hW : w_W E A S S h) (hcs : cs ≤ 40 + 7 * k) (hss : ss ≤ 1400 + 107 * k)
    (kk : ∀ (B : w_A) (T : q_S) (h : g_H) (cs ss : Nat), w_I T → w_W E B T T h → cs ≤ 47 + 7 * k → ss ≤ 1507 + 107 * k → g_Go E X lw_fin h false cs ss 1447 [some (.ref b), some (.ref (B 0 0)), some (.ref (B 30 0)), some (.ref (B 29 0)), some (.int (nI (6 * k))), none, none] []) : g_Go E X lw_fin h false cs ss 603 [some (.ref b), some (.ref (A 0 0)), some (.ref (A 30 0)), some (.ref (A 29 0)), some (.int (nI (6 * k))), none, none] [] := by
  obtain ⟨c, v, S1, S2, T, HL, HM, hc, hv, t1, t2, hI2⟩ := j_binding hX.tr E hI (xs (6 * k + 1))
  refine g_aload_n hX dL_law_603 rfl rfl (by first | rfl | exact g_rfr _) 604 rfl ?_
  refine g_aload_n hX dL_law_604 rfl rfl (by first | rfl | exact g_rfr _) 605 rfl ?_
  refine g_iload hX dL_law_605 rfl 607 rfl ?_
  refine g_iconst hX dL_law_607 (v := 1) (by decide) 608 rfl ?_
  refine g_iadd hX dL_law_608 609 rfl ?_
  refine g_ialdT hX dL_law_609 hT (g_ix.eq (q_off k 1 (d := 1) rfl) (show 6 * k + 1 < L by omega) (by omega)) 610 rfl ?_
  refine g_aload_n hX dL_law_610 rfl rfl (by first | rfl | exact g_rfr _) 611 rfl ?_
  refine g_cS3 (wt := 0) hX (HL A h hW) dL_law_611 kL_116 (g_rm.of hR (by decide) (by decide)) (by rw [hR]; show cs + 7 ≤ 601024; omega) (by rw [hR]; show ss + 107 ≤ 7293034; omega) (by first | decide | (simp [Value.category])) (fun q => by cases q) 614 rfl (fun v9 h hP => ?_) (fun k9 h9 hP => by cases hP.1)
  obtain ⟨hv9, B, hB9, hW1⟩ := hP
  cases hv9
  rw [← hB9.1, ← hB9.2.1, ← hB9.2.2]
  show g_Go E X _ h false _ _ 614 _ [.int c]
  refine g_istore hX (L' := [_, _, _, _, _, _, _]) dL_law_614 (Nat.le_of_ble_eq_true rfl) rfl 616 rfl ?_
  refine g_aload_n hX dL_law_616 rfl rfl (by first | rfl | exact g_rfr _) 617 rfl ?_
  refine g_aload_n hX dL_law_617 rfl rfl (by first | rfl | exact g_rfr _) 618 rfl ?_
  refine g_iload hX dL_law_618 rfl 620 rfl ?_
  refine g_iconst hX dL_law_620 (v := 1) (by decide) 621 rfl ?_
  refine g_iadd hX dL_law_621 622 rfl ?_
  refine g_ialdT hX dL_law_622 hT (g_ix.eq (q_off k 1 (d := 1) rfl) (show 6 * k + 1 < L by omega) (by omega)) 623 rfl ?_
  refine g_cV1 (wt := 0) hX (HM B h hW1) dL_law_623 (w_m hW1.r) kL_119 (g_rm.of hR (by decide) (by decide)) (by rw [hR]; show _ ≤ 601024; omega) (by rw [hR]; show _ ≤ 7293034; omega) (by first | decide | (simp [Value.category])) (fun q => by cases q) 626 rfl (fun v9 h hP => ?_) (fun k9 h9 hP => by cases hP.1)
  obtain ⟨hv9, hW2⟩ := hP
  cases hv9
  have hW3 : w_W E B T T h := hW2.cong t1 t2
  show g_Go E X _ h false _ _ 626 _ [.int v]
  refine g_istore hX (L' := [_, _, _, _, _, _, _]) dL_law_626 (Nat.le_of_ble_eq_true rfl) rfl 628 rfl ?_
  refine g_aload_n hX dL_law_628 rfl rfl (by first | rfl | exact g_rfr _) 629 rfl ?_
  refine g_cV0r (wt := 0) hX (c_M_thrown hX.tr hW3.r hI2.1) dL_law_629 (w_m hW3.r) kL_92 (g_rm.of hR (by decide) (by decide)) (by rw [hR]; show _ ≤ 601024; omega) (by rw [hR]; show _ ≤ 7293034; omega) (by first | decide | (simp [Value.category])) 632 rfl ?_
  rw [show T.2 13 1 = c from (t2.2.2.2.2.2.1).trans hc]
  refine g_iload hX dL_law_632 rfl 634 rfl ?_
  refine g_icmp_eq hX dL_law_634 639 637 (by decide) rfl (fun c634 => ?_) (fun c634 => ?_)
  · refine g_iload hX dL_law_639 rfl 641 rfl ?_
    refine g_if_ne hX dL_law_641 656 644 (by decide) rfl (fun c641 => ?_) (fun c641 => ?_)
    · refine g_goto hX dL_law_656 1447 (by decide) ?_
      refine g_drop (L' := [_, _, _, _, _, none, _]) 5 rfl ?_
      refine g_drop (L' := [_, _, _, _, _, _, none]) 6 rfl ?_
      exact kk B T h _ _ hI2 hW3 (by omega) (by omega)
    · refine g_aload_n hX dL_law_644 rfl rfl (by first | rfl | exact g_rfr _) 645 rfl ?_
      refine g_iconst hX dL_law_645 (v := 0) (by decide) 646 rfl ?_
      refine g_lald hX dL_law_646 (w_c hW3 29 0 (by decide) ⟨rfl, by decide⟩) (g_ix.nat (k := 0) (by decide) (by decide)) 647 rfl ?_
      refine g_iload hX dL_law_647 rfl 649 rfl ?_
      refine g_i2l hX dL_law_649 rfl 650 rfl ?_
      have hv0 := hv c641
      have h22 : T.2 22 0 = v := (congrFun t1.2.2.2.2.2.2.2.2.2 0).trans hv0
      refine g_lcmp hX dL_law_650 651 rfl ?_
      rw [q_cmp (show (T.2 22 0).toInt64 = v.toInt64 by rw [h22])]
      refine g_if_eq hX dL_law_651 656 654 (by decide) rfl (fun c651 => ?_) (fun c651 => ?_)
      · refine g_goto hX dL_law_656 1447 (by decide) ?_
        refine g_drop (L' := [_, _, _, _, _, none, _]) 5 rfl ?_
        refine g_drop (L' := [_, _, _, _, _, _, none]) 6 rfl ?_
        exact kk B T h _ _ hI2 hW3 (by omega) (by omega)
      · exact absurd rfl c651
  · exact absurd rfl c634
set_option maxRecDepth 100000 in
set_option maxHeartbeats 4000000 in
theorem lo_write {E : g_E} {X : g_X} {nm ds : String} {tb : List (Nat × Nat × Nat × Nat)} (hX : g_ok E X (mLaw nm ds tb)) (hR : X.R = { frames := 14, cells := 601024, slots := 7293034, locals := 520 }) {b L : Nat} {xs : Nat → Int32} (hT : va_T .int b L (fun j => .int (xs j)) (fun q => E.H0.size ≤ q) X.s E.H0) (hL : L ≤ 3072) {k cs ss : Nat} (hk : 6 * k + 6 ≤ L) {A : w_A} {S : q_S} {h : g_H} (hI : w_I S) (hW : w_W E A S S h) (hcs : cs ≤ 40 + 7 * k) (hss : ss ≤ 1400 + 107 * k)
    (kk : ∀ (B : w_A) (T : q_S) (h : g_H) (cs ss : Nat), w_I T → w_W E B T T h → cs ≤ 47 + 7 * k → ss ≤ 1507 + 107 * k → g_Go E X lw_fin h false cs ss 1447 [some (.ref b), some (.ref (B 0 0)), some (.ref (B 30 0)), some (.ref (B 29 0)), some (.int (nI (6 * k))), none, none] []) : g_Go E X lw_fin h false cs ss 659 [some (.ref b), some (.ref (A 0 0)), some (.ref (A 30 0)), some (.ref (A 29 0)), some (.int (nI (6 * k))), none, none] [] := by
  obtain ⟨c, v, S1, S2, T, HL, HM, hc, hv, t1, t2, hI2⟩ := j_write hX.tr E hI (xs (6 * k + 1)) (xs (6 * k + 2)) (xs (6 * k + 3))
  refine g_aload_n hX dL_law_659 rfl rfl (by first | rfl | exact g_rfr _) 660 rfl ?_
  refine g_aload_n hX dL_law_660 rfl rfl (by first | rfl | exact g_rfr _) 661 rfl ?_
  refine g_iload hX dL_law_661 rfl 663 rfl ?_
  refine g_iconst hX dL_law_663 (v := 1) (by decide) 664 rfl ?_
  refine g_iadd hX dL_law_664 665 rfl ?_
  refine g_ialdT hX dL_law_665 hT (g_ix.eq (q_off k 1 (d := 1) rfl) (show 6 * k + 1 < L by omega) (by omega)) 666 rfl ?_
  refine g_aload_n hX dL_law_666 rfl rfl (by first | rfl | exact g_rfr _) 667 rfl ?_
  refine g_iload hX dL_law_667 rfl 669 rfl ?_
  refine g_iconst hX dL_law_669 (v := 2) (by decide) 670 rfl ?_
  refine g_iadd hX dL_law_670 671 rfl ?_
  refine g_ialdT hX dL_law_671 hT (g_ix.eq (q_off k 2 (d := 2) rfl) (show 6 * k + 2 < L by omega) (by omega)) 672 rfl ?_
  refine g_aload_n hX dL_law_672 rfl rfl (by first | rfl | exact g_rfr _) 673 rfl ?_
  refine g_iload hX dL_law_673 rfl 675 rfl ?_
  refine g_iconst hX dL_law_675 (v := 3) (by decide) 676 rfl ?_
  refine g_iadd hX dL_law_676 677 rfl ?_
  refine g_ialdT hX dL_law_677 hT (g_ix.eq (q_off k 3 (d := 3) rfl) (show 6 * k + 3 < L by omega) (by omega)) 678 rfl ?_
  refine g_aload_n hX dL_law_678 rfl rfl (by first | rfl | exact g_rfr _) 679 rfl ?_
  refine g_cS5 (wt := 0) hX (HL A h hW) dL_law_679 kL_120 (g_rm.of hR (by decide) (by decide)) (by rw [hR]; show cs + 7 ≤ 601024; omega) (by rw [hR]; show ss + 107 ≤ 7293034; omega) (by first | decide | (simp [Value.category])) (fun q => by cases q) 682 rfl (fun v9 h hP => ?_) (fun k9 h9 hP => by cases hP.1)
  obtain ⟨hv9, B, hB9, hW1⟩ := hP
  cases hv9
  rw [← hB9.1, ← hB9.2.1, ← hB9.2.2]
  show g_Go E X _ h false _ _ 682 _ [.int c]
  refine g_istore hX (L' := [_, _, _, _, _, _, _]) dL_law_682 (Nat.le_of_ble_eq_true rfl) rfl 684 rfl ?_
  refine g_aload_n hX dL_law_684 rfl rfl (by first | rfl | exact g_rfr _) 685 rfl ?_
  refine g_aload_n hX dL_law_685 rfl rfl (by first | rfl | exact g_rfr _) 686 rfl ?_
  refine g_iload hX dL_law_686 rfl 688 rfl ?_
  refine g_iconst hX dL_law_688 (v := 1) (by decide) 689 rfl ?_
  refine g_iadd hX dL_law_689 690 rfl ?_
  refine g_ialdT hX dL_law_690 hT (g_ix.eq (q_off k 1 (d := 1) rfl) (show 6 * k + 1 < L by omega) (by omega)) 691 rfl ?_
  refine g_aload_n hX dL_law_691 rfl rfl (by first | rfl | exact g_rfr _) 692 rfl ?_
  refine g_iload hX dL_law_692 rfl 694 rfl ?_
  refine g_iconst hX dL_law_694 (v := 2) (by decide) 695 rfl ?_
  refine g_iadd hX dL_law_695 696 rfl ?_
  refine g_ialdT hX dL_law_696 hT (g_ix.eq (q_off k 2 (d := 2) rfl) (show 6 * k + 2 < L by omega) (by omega)) 697 rfl ?_
  refine g_aload_n hX dL_law_697 rfl rfl (by first | rfl | exact g_rfr _) 698 rfl ?_
  refine g_iload hX dL_law_698 rfl 700 rfl ?_
  refine g_iconst hX dL_law_700 (v := 3) (by decide) 701 rfl ?_
  refine g_iadd hX dL_law_701 702 rfl ?_
  refine g_ialdT hX dL_law_702 hT (g_ix.eq (q_off k 3 (d := 3) rfl) (show 6 * k + 3 < L by omega) (by omega)) 703 rfl ?_
  refine g_cV3 (wt := 0) hX (HM B h hW1) dL_law_703 (w_m hW1.r) kL_123 (g_rm.of hR (by decide) (by decide)) (by rw [hR]; show _ ≤ 601024; omega) (by rw [hR]; show _ ≤ 7293034; omega) (by first | decide | (simp [Value.category])) (fun q => by cases q) 706 rfl (fun v9 h hP => ?_) (fun k9 h9 hP => by cases hP.1)
  obtain ⟨hv9, hW2⟩ := hP
  cases hv9
  have hW3 : w_W E B T T h := hW2.cong t1 t2
  show g_Go E X _ h false _ _ 706 _ [.int v]
  refine g_istore hX (L' := [_, _, _, _, _, _, _]) dL_law_706 (Nat.le_of_ble_eq_true rfl) rfl 708 rfl ?_
  refine g_aload_n hX dL_law_708 rfl rfl (by first | rfl | exact g_rfr _) 709 rfl ?_
  refine g_cV0r (wt := 0) hX (c_M_thrown hX.tr hW3.r hI2.1) dL_law_709 (w_m hW3.r) kL_92 (g_rm.of hR (by decide) (by decide)) (by rw [hR]; show _ ≤ 601024; omega) (by rw [hR]; show _ ≤ 7293034; omega) (by first | decide | (simp [Value.category])) 712 rfl ?_
  rw [show T.2 13 1 = c from (t2.2.2.2.2.2.1).trans hc]
  refine g_iload hX dL_law_712 rfl 714 rfl ?_
  refine g_icmp_eq hX dL_law_714 719 717 (by decide) rfl (fun c714 => ?_) (fun c714 => ?_)
  · refine g_iload hX dL_law_719 rfl 721 rfl ?_
    refine g_if_ne hX dL_law_721 736 724 (by decide) rfl (fun c721 => ?_) (fun c721 => ?_)
    · refine g_goto hX dL_law_736 1447 (by decide) ?_
      refine g_drop (L' := [_, _, _, _, _, none, _]) 5 rfl ?_
      refine g_drop (L' := [_, _, _, _, _, _, none]) 6 rfl ?_
      exact kk B T h _ _ hI2 hW3 (by omega) (by omega)
    · refine g_aload_n hX dL_law_724 rfl rfl (by first | rfl | exact g_rfr _) 725 rfl ?_
      refine g_iconst hX dL_law_725 (v := 0) (by decide) 726 rfl ?_
      refine g_lald hX dL_law_726 (w_c hW3 29 0 (by decide) ⟨rfl, by decide⟩) (g_ix.nat (k := 0) (by decide) (by decide)) 727 rfl ?_
      refine g_iload hX dL_law_727 rfl 729 rfl ?_
      refine g_i2l hX dL_law_729 rfl 730 rfl ?_
      have hv0 := hv c721
      have h22 : T.2 22 0 = v := (congrFun t1.2.2.2.2.2.2.2.2.2 0).trans hv0
      refine g_lcmp hX dL_law_730 731 rfl ?_
      rw [q_cmp (show (T.2 22 0).toInt64 = v.toInt64 by rw [h22])]
      refine g_if_eq hX dL_law_731 736 734 (by decide) rfl (fun c731 => ?_) (fun c731 => ?_)
      · refine g_goto hX dL_law_736 1447 (by decide) ?_
        refine g_drop (L' := [_, _, _, _, _, none, _]) 5 rfl ?_
        refine g_drop (L' := [_, _, _, _, _, _, none]) 6 rfl ?_
        exact kk B T h _ _ hI2 hW3 (by omega) (by omega)
      · exact absurd rfl c731
  · exact absurd rfl c714
set_option maxRecDepth 100000 in
set_option maxHeartbeats 4000000 in
theorem lo_scale {E : g_E} {X : g_X} {nm ds : String} {tb : List (Nat × Nat × Nat × Nat)} (hX : g_ok E X (mLaw nm ds tb)) (hR : X.R = { frames := 14, cells := 601024, slots := 7293034, locals := 520 }) {b L : Nat} {xs : Nat → Int32} (hT : va_T .int b L (fun j => .int (xs j)) (fun q => E.H0.size ≤ q) X.s E.H0) (hL : L ≤ 3072) {k cs ss : Nat} (hk : 6 * k + 6 ≤ L) {A : w_A} {S : q_S} {h : g_H} (hI : w_I S) (hW : w_W E A S S h) (hcs : cs ≤ 40 + 7 * k) (hss : ss ≤ 1400 + 107 * k)
    (kk : ∀ (B : w_A) (T : q_S) (h : g_H) (cs ss : Nat), w_I T → w_W E B T T h → cs ≤ 47 + 7 * k → ss ≤ 1507 + 107 * k → g_Go E X lw_fin h false cs ss 1447 [some (.ref b), some (.ref (B 0 0)), some (.ref (B 30 0)), some (.ref (B 29 0)), some (.int (nI (6 * k))), none, none] []) : g_Go E X lw_fin h false cs ss 739 [some (.ref b), some (.ref (A 0 0)), some (.ref (A 30 0)), some (.ref (A 29 0)), some (.int (nI (6 * k))), none, none] [] := by
  obtain ⟨c, v, S1, S2, T, HL, HM, hc, hv, t1, t2, hI2⟩ := j_scale hX.tr E hI (xs (6 * k + 1))
  refine g_aload_n hX dL_law_739 rfl rfl (by first | rfl | exact g_rfr _) 740 rfl ?_
  refine g_aload_n hX dL_law_740 rfl rfl (by first | rfl | exact g_rfr _) 741 rfl ?_
  refine g_iload hX dL_law_741 rfl 743 rfl ?_
  refine g_iconst hX dL_law_743 (v := 1) (by decide) 744 rfl ?_
  refine g_iadd hX dL_law_744 745 rfl ?_
  refine g_ialdT hX dL_law_745 hT (g_ix.eq (q_off k 1 (d := 1) rfl) (show 6 * k + 1 < L by omega) (by omega)) 746 rfl ?_
  refine g_aload_n hX dL_law_746 rfl rfl (by first | rfl | exact g_rfr _) 747 rfl ?_
  refine g_cS3 (wt := 0) hX (HL A h hW) dL_law_747 kL_124 (g_rm.of hR (by decide) (by decide)) (by rw [hR]; show cs + 7 ≤ 601024; omega) (by rw [hR]; show ss + 107 ≤ 7293034; omega) (by first | decide | (simp [Value.category])) (fun q => by cases q) 750 rfl (fun v9 h hP => ?_) (fun k9 h9 hP => by cases hP.1)
  obtain ⟨hv9, B, hB9, hW1⟩ := hP
  cases hv9
  rw [← hB9.1, ← hB9.2.1, ← hB9.2.2]
  show g_Go E X _ h false _ _ 750 _ [.int c]
  refine g_istore hX (L' := [_, _, _, _, _, _, _]) dL_law_750 (Nat.le_of_ble_eq_true rfl) rfl 752 rfl ?_
  refine g_aload_n hX dL_law_752 rfl rfl (by first | rfl | exact g_rfr _) 753 rfl ?_
  refine g_aload_n hX dL_law_753 rfl rfl (by first | rfl | exact g_rfr _) 754 rfl ?_
  refine g_iload hX dL_law_754 rfl 756 rfl ?_
  refine g_iconst hX dL_law_756 (v := 1) (by decide) 757 rfl ?_
  refine g_iadd hX dL_law_757 758 rfl ?_
  refine g_ialdT hX dL_law_758 hT (g_ix.eq (q_off k 1 (d := 1) rfl) (show 6 * k + 1 < L by omega) (by omega)) 759 rfl ?_
  refine g_cV1 (wt := 0) hX (HM B h hW1) dL_law_759 (w_m hW1.r) kL_126 (g_rm.of hR (by decide) (by decide)) (by rw [hR]; show _ ≤ 601024; omega) (by rw [hR]; show _ ≤ 7293034; omega) (by first | decide | (simp [Value.category])) (fun q => by cases q) 762 rfl (fun v9 h hP => ?_) (fun k9 h9 hP => by cases hP.1)
  obtain ⟨hv9, hW2⟩ := hP
  cases hv9
  have hW3 : w_W E B T T h := hW2.cong t1 t2
  show g_Go E X _ h false _ _ 762 _ [.int v]
  refine g_istore hX (L' := [_, _, _, _, _, _, _]) dL_law_762 (Nat.le_of_ble_eq_true rfl) rfl 764 rfl ?_
  refine g_aload_n hX dL_law_764 rfl rfl (by first | rfl | exact g_rfr _) 765 rfl ?_
  refine g_cV0r (wt := 0) hX (c_M_thrown hX.tr hW3.r hI2.1) dL_law_765 (w_m hW3.r) kL_92 (g_rm.of hR (by decide) (by decide)) (by rw [hR]; show _ ≤ 601024; omega) (by rw [hR]; show _ ≤ 7293034; omega) (by first | decide | (simp [Value.category])) 768 rfl ?_
  rw [show T.2 13 1 = c from (t2.2.2.2.2.2.1).trans hc]
  refine g_iload hX dL_law_768 rfl 770 rfl ?_
  refine g_icmp_eq hX dL_law_770 775 773 (by decide) rfl (fun c770 => ?_) (fun c770 => ?_)
  · refine g_iload hX dL_law_775 rfl 777 rfl ?_
    refine g_if_ne hX dL_law_777 792 780 (by decide) rfl (fun c777 => ?_) (fun c777 => ?_)
    · refine g_goto hX dL_law_792 1447 (by decide) ?_
      refine g_drop (L' := [_, _, _, _, _, none, _]) 5 rfl ?_
      refine g_drop (L' := [_, _, _, _, _, _, none]) 6 rfl ?_
      exact kk B T h _ _ hI2 hW3 (by omega) (by omega)
    · refine g_aload_n hX dL_law_780 rfl rfl (by first | rfl | exact g_rfr _) 781 rfl ?_
      refine g_iconst hX dL_law_781 (v := 0) (by decide) 782 rfl ?_
      refine g_lald hX dL_law_782 (w_c hW3 29 0 (by decide) ⟨rfl, by decide⟩) (g_ix.nat (k := 0) (by decide) (by decide)) 783 rfl ?_
      refine g_iload hX dL_law_783 rfl 785 rfl ?_
      refine g_i2l hX dL_law_785 rfl 786 rfl ?_
      have hv0 := hv c777
      have h22 : T.2 22 0 = v := (congrFun t1.2.2.2.2.2.2.2.2.2 0).trans hv0
      refine g_lcmp hX dL_law_786 787 rfl ?_
      rw [q_cmp (show (T.2 22 0).toInt64 = v.toInt64 by rw [h22])]
      refine g_if_eq hX dL_law_787 792 790 (by decide) rfl (fun c787 => ?_) (fun c787 => ?_)
      · refine g_goto hX dL_law_792 1447 (by decide) ?_
        refine g_drop (L' := [_, _, _, _, _, none, _]) 5 rfl ?_
        refine g_drop (L' := [_, _, _, _, _, _, none]) 6 rfl ?_
        exact kk B T h _ _ hI2 hW3 (by omega) (by omega)
      · exact absurd rfl c787
  · exact absurd rfl c770
set_option maxRecDepth 100000 in
set_option maxHeartbeats 4000000 in
theorem lo_lines {E : g_E} {X : g_X} {nm ds : String} {tb : List (Nat × Nat × Nat × Nat)} (hX : g_ok E X (mLaw nm ds tb)) (hR : X.R = { frames := 14, cells := 601024, slots := 7293034, locals := 520 }) {b L : Nat} {xs : Nat → Int32} (hT : va_T .int b L (fun j => .int (xs j)) (fun q => E.H0.size ≤ q) X.s E.H0) (hL : L ≤ 3072) {k cs ss : Nat} (hk : 6 * k + 6 ≤ L) {A : w_A} {S : q_S} {h : g_H} (hI : w_I S) (hW : w_W E A S S h) (hcs : cs ≤ 40 + 7 * k) (hss : ss ≤ 1400 + 107 * k)
    (kk : ∀ (B : w_A) (T : q_S) (h : g_H) (cs ss : Nat), w_I T → w_W E B T T h → cs ≤ 47 + 7 * k → ss ≤ 1507 + 107 * k → g_Go E X lw_fin h false cs ss 1447 [some (.ref b), some (.ref (B 0 0)), some (.ref (B 30 0)), some (.ref (B 29 0)), some (.int (nI (6 * k))), none, none] []) : g_Go E X lw_fin h false cs ss 795 [some (.ref b), some (.ref (A 0 0)), some (.ref (A 30 0)), some (.ref (A 29 0)), some (.int (nI (6 * k))), none, none] [] := by
  obtain ⟨c, v, S1, S2, T, HL, HM, hc, hv, t1, t2, hI2⟩ := j_lines hX.tr E hI (xs (6 * k + 1))
  refine g_aload_n hX dL_law_795 rfl rfl (by first | rfl | exact g_rfr _) 796 rfl ?_
  refine g_aload_n hX dL_law_796 rfl rfl (by first | rfl | exact g_rfr _) 797 rfl ?_
  refine g_iload hX dL_law_797 rfl 799 rfl ?_
  refine g_iconst hX dL_law_799 (v := 1) (by decide) 800 rfl ?_
  refine g_iadd hX dL_law_800 801 rfl ?_
  refine g_ialdT hX dL_law_801 hT (g_ix.eq (q_off k 1 (d := 1) rfl) (show 6 * k + 1 < L by omega) (by omega)) 802 rfl ?_
  refine g_aload_n hX dL_law_802 rfl rfl (by first | rfl | exact g_rfr _) 803 rfl ?_
  refine g_cS3 (wt := 0) hX (HL A h hW) dL_law_803 kL_127 (g_rm.of hR (by decide) (by decide)) (by rw [hR]; show cs + 7 ≤ 601024; omega) (by rw [hR]; show ss + 107 ≤ 7293034; omega) (by first | decide | (simp [Value.category])) (fun q => by cases q) 806 rfl (fun v9 h hP => ?_) (fun k9 h9 hP => by cases hP.1)
  obtain ⟨hv9, B, hB9, hW1⟩ := hP
  cases hv9
  rw [← hB9.1, ← hB9.2.1, ← hB9.2.2]
  show g_Go E X _ h false _ _ 806 _ [.int c]
  refine g_istore hX (L' := [_, _, _, _, _, _, _]) dL_law_806 (Nat.le_of_ble_eq_true rfl) rfl 808 rfl ?_
  refine g_aload_n hX dL_law_808 rfl rfl (by first | rfl | exact g_rfr _) 809 rfl ?_
  refine g_aload_n hX dL_law_809 rfl rfl (by first | rfl | exact g_rfr _) 810 rfl ?_
  refine g_iload hX dL_law_810 rfl 812 rfl ?_
  refine g_iconst hX dL_law_812 (v := 1) (by decide) 813 rfl ?_
  refine g_iadd hX dL_law_813 814 rfl ?_
  refine g_ialdT hX dL_law_814 hT (g_ix.eq (q_off k 1 (d := 1) rfl) (show 6 * k + 1 < L by omega) (by omega)) 815 rfl ?_
  refine g_cV1 (wt := 0) hX (HM B h hW1) dL_law_815 (w_m hW1.r) kL_129 (g_rm.of hR (by decide) (by decide)) (by rw [hR]; show _ ≤ 601024; omega) (by rw [hR]; show _ ≤ 7293034; omega) (by first | decide | (simp [Value.category])) (fun q => by cases q) 818 rfl (fun v9 h hP => ?_) (fun k9 h9 hP => by cases hP.1)
  obtain ⟨hv9, hW2⟩ := hP
  cases hv9
  have hW3 : w_W E B T T h := hW2.cong t1 t2
  show g_Go E X _ h false _ _ 818 _ [.int v]
  refine g_istore hX (L' := [_, _, _, _, _, _, _]) dL_law_818 (Nat.le_of_ble_eq_true rfl) rfl 820 rfl ?_
  refine g_aload_n hX dL_law_820 rfl rfl (by first | rfl | exact g_rfr _) 821 rfl ?_
  refine g_cV0r (wt := 0) hX (c_M_thrown hX.tr hW3.r hI2.1) dL_law_821 (w_m hW3.r) kL_92 (g_rm.of hR (by decide) (by decide)) (by rw [hR]; show _ ≤ 601024; omega) (by rw [hR]; show _ ≤ 7293034; omega) (by first | decide | (simp [Value.category])) 824 rfl ?_
  rw [show T.2 13 1 = c from (t2.2.2.2.2.2.1).trans hc]
  refine g_iload hX dL_law_824 rfl 826 rfl ?_
  refine g_icmp_eq hX dL_law_826 831 829 (by decide) rfl (fun c826 => ?_) (fun c826 => ?_)
  · refine g_iload hX dL_law_831 rfl 833 rfl ?_
    refine g_if_ne hX dL_law_833 848 836 (by decide) rfl (fun c833 => ?_) (fun c833 => ?_)
    · refine g_goto hX dL_law_848 1447 (by decide) ?_
      refine g_drop (L' := [_, _, _, _, _, none, _]) 5 rfl ?_
      refine g_drop (L' := [_, _, _, _, _, _, none]) 6 rfl ?_
      exact kk B T h _ _ hI2 hW3 (by omega) (by omega)
    · refine g_aload_n hX dL_law_836 rfl rfl (by first | rfl | exact g_rfr _) 837 rfl ?_
      refine g_iconst hX dL_law_837 (v := 0) (by decide) 838 rfl ?_
      refine g_lald hX dL_law_838 (w_c hW3 29 0 (by decide) ⟨rfl, by decide⟩) (g_ix.nat (k := 0) (by decide) (by decide)) 839 rfl ?_
      refine g_iload hX dL_law_839 rfl 841 rfl ?_
      refine g_i2l hX dL_law_841 rfl 842 rfl ?_
      have hv0 := hv c833
      have h22 : T.2 22 0 = v := (congrFun t1.2.2.2.2.2.2.2.2.2 0).trans hv0
      refine g_lcmp hX dL_law_842 843 rfl ?_
      rw [q_cmp (show (T.2 22 0).toInt64 = v.toInt64 by rw [h22])]
      refine g_if_eq hX dL_law_843 848 846 (by decide) rfl (fun c843 => ?_) (fun c843 => ?_)
      · refine g_goto hX dL_law_848 1447 (by decide) ?_
        refine g_drop (L' := [_, _, _, _, _, none, _]) 5 rfl ?_
        refine g_drop (L' := [_, _, _, _, _, _, none]) 6 rfl ?_
        exact kk B T h _ _ hI2 hW3 (by omega) (by omega)
      · exact absurd rfl c843
  · exact absurd rfl c826
set_option maxRecDepth 100000 in
set_option maxHeartbeats 4000000 in
theorem lo_line {E : g_E} {X : g_X} {nm ds : String} {tb : List (Nat × Nat × Nat × Nat)} (hX : g_ok E X (mLaw nm ds tb)) (hR : X.R = { frames := 14, cells := 601024, slots := 7293034, locals := 520 }) {b L : Nat} {xs : Nat → Int32} (hT : va_T .int b L (fun j => .int (xs j)) (fun q => E.H0.size ≤ q) X.s E.H0) (hL : L ≤ 3072) {k cs ss : Nat} (hk : 6 * k + 6 ≤ L) {A : w_A} {S : q_S} {h : g_H} (hI : w_I S) (hW : w_W E A S S h) (hcs : cs ≤ 40 + 7 * k) (hss : ss ≤ 1400 + 107 * k)
    (kk : ∀ (B : w_A) (T : q_S) (h : g_H) (cs ss : Nat), w_I T → w_W E B T T h → cs ≤ 47 + 7 * k → ss ≤ 1507 + 107 * k → g_Go E X lw_fin h false cs ss 1447 [some (.ref b), some (.ref (B 0 0)), some (.ref (B 30 0)), some (.ref (B 29 0)), some (.int (nI (6 * k))), none, none] []) : g_Go E X lw_fin h false cs ss 851 [some (.ref b), some (.ref (A 0 0)), some (.ref (A 30 0)), some (.ref (A 29 0)), some (.int (nI (6 * k))), none, none] [] := by
  obtain ⟨c, v, S1, S2, T, HL, HM, hc, hv, t1, t2, hI2⟩ := j_line hX.tr E hI (xs (6 * k + 1)) (xs (6 * k + 2)) (xs (6 * k + 3))
  refine g_aload_n hX dL_law_851 rfl rfl (by first | rfl | exact g_rfr _) 852 rfl ?_
  refine g_aload_n hX dL_law_852 rfl rfl (by first | rfl | exact g_rfr _) 853 rfl ?_
  refine g_iload hX dL_law_853 rfl 855 rfl ?_
  refine g_iconst hX dL_law_855 (v := 1) (by decide) 856 rfl ?_
  refine g_iadd hX dL_law_856 857 rfl ?_
  refine g_ialdT hX dL_law_857 hT (g_ix.eq (q_off k 1 (d := 1) rfl) (show 6 * k + 1 < L by omega) (by omega)) 858 rfl ?_
  refine g_aload_n hX dL_law_858 rfl rfl (by first | rfl | exact g_rfr _) 859 rfl ?_
  refine g_iload hX dL_law_859 rfl 861 rfl ?_
  refine g_iconst hX dL_law_861 (v := 2) (by decide) 862 rfl ?_
  refine g_iadd hX dL_law_862 863 rfl ?_
  refine g_ialdT hX dL_law_863 hT (g_ix.eq (q_off k 2 (d := 2) rfl) (show 6 * k + 2 < L by omega) (by omega)) 864 rfl ?_
  refine g_aload_n hX dL_law_864 rfl rfl (by first | rfl | exact g_rfr _) 865 rfl ?_
  refine g_iload hX dL_law_865 rfl 867 rfl ?_
  refine g_iconst hX dL_law_867 (v := 3) (by decide) 868 rfl ?_
  refine g_iadd hX dL_law_868 869 rfl ?_
  refine g_ialdT hX dL_law_869 hT (g_ix.eq (q_off k 3 (d := 3) rfl) (show 6 * k + 3 < L by omega) (by omega)) 870 rfl ?_
  refine g_aload_n hX dL_law_870 rfl rfl (by first | rfl | exact g_rfr _) 871 rfl ?_
  refine g_cS5 (wt := 0) hX (HL A h hW) dL_law_871 kL_130 (g_rm.of hR (by decide) (by decide)) (by rw [hR]; show cs + 7 ≤ 601024; omega) (by rw [hR]; show ss + 107 ≤ 7293034; omega) (by first | decide | (simp [Value.category])) (fun q => by cases q) 874 rfl (fun v9 h hP => ?_) (fun k9 h9 hP => by cases hP.1)
  obtain ⟨hv9, B, hB9, hW1⟩ := hP
  cases hv9
  rw [← hB9.1, ← hB9.2.1, ← hB9.2.2]
  show g_Go E X _ h false _ _ 874 _ [.int c]
  refine g_istore hX (L' := [_, _, _, _, _, _, _]) dL_law_874 (Nat.le_of_ble_eq_true rfl) rfl 876 rfl ?_
  refine g_aload_n hX dL_law_876 rfl rfl (by first | rfl | exact g_rfr _) 877 rfl ?_
  refine g_aload_n hX dL_law_877 rfl rfl (by first | rfl | exact g_rfr _) 878 rfl ?_
  refine g_iload hX dL_law_878 rfl 880 rfl ?_
  refine g_iconst hX dL_law_880 (v := 1) (by decide) 881 rfl ?_
  refine g_iadd hX dL_law_881 882 rfl ?_
  refine g_ialdT hX dL_law_882 hT (g_ix.eq (q_off k 1 (d := 1) rfl) (show 6 * k + 1 < L by omega) (by omega)) 883 rfl ?_
  refine g_aload_n hX dL_law_883 rfl rfl (by first | rfl | exact g_rfr _) 884 rfl ?_
  refine g_iload hX dL_law_884 rfl 886 rfl ?_
  refine g_iconst hX dL_law_886 (v := 2) (by decide) 887 rfl ?_
  refine g_iadd hX dL_law_887 888 rfl ?_
  refine g_ialdT hX dL_law_888 hT (g_ix.eq (q_off k 2 (d := 2) rfl) (show 6 * k + 2 < L by omega) (by omega)) 889 rfl ?_
  refine g_aload_n hX dL_law_889 rfl rfl (by first | rfl | exact g_rfr _) 890 rfl ?_
  refine g_iload hX dL_law_890 rfl 892 rfl ?_
  refine g_iconst hX dL_law_892 (v := 3) (by decide) 893 rfl ?_
  refine g_iadd hX dL_law_893 894 rfl ?_
  refine g_ialdT hX dL_law_894 hT (g_ix.eq (q_off k 3 (d := 3) rfl) (show 6 * k + 3 < L by omega) (by omega)) 895 rfl ?_
  refine g_cV3 (wt := 0) hX (HM B h hW1) dL_law_895 (w_m hW1.r) kL_132 (g_rm.of hR (by decide) (by decide)) (by rw [hR]; show _ ≤ 601024; omega) (by rw [hR]; show _ ≤ 7293034; omega) (by first | decide | (simp [Value.category])) (fun q => by cases q) 898 rfl (fun v9 h hP => ?_) (fun k9 h9 hP => by cases hP.1)
  obtain ⟨hv9, hW2⟩ := hP
  cases hv9
  have hW3 : w_W E B T T h := hW2.cong t1 t2
  show g_Go E X _ h false _ _ 898 _ [.int v]
  refine g_istore hX (L' := [_, _, _, _, _, _, _]) dL_law_898 (Nat.le_of_ble_eq_true rfl) rfl 900 rfl ?_
  refine g_aload_n hX dL_law_900 rfl rfl (by first | rfl | exact g_rfr _) 901 rfl ?_
  refine g_cV0r (wt := 0) hX (c_M_thrown hX.tr hW3.r hI2.1) dL_law_901 (w_m hW3.r) kL_92 (g_rm.of hR (by decide) (by decide)) (by rw [hR]; show _ ≤ 601024; omega) (by rw [hR]; show _ ≤ 7293034; omega) (by first | decide | (simp [Value.category])) 904 rfl ?_
  rw [show T.2 13 1 = c from (t2.2.2.2.2.2.1).trans hc]
  refine g_iload hX dL_law_904 rfl 906 rfl ?_
  refine g_icmp_eq hX dL_law_906 911 909 (by decide) rfl (fun c906 => ?_) (fun c906 => ?_)
  · refine g_iload hX dL_law_911 rfl 913 rfl ?_
    refine g_if_ne hX dL_law_913 928 916 (by decide) rfl (fun c913 => ?_) (fun c913 => ?_)
    · refine g_goto hX dL_law_928 1447 (by decide) ?_
      refine g_drop (L' := [_, _, _, _, _, none, _]) 5 rfl ?_
      refine g_drop (L' := [_, _, _, _, _, _, none]) 6 rfl ?_
      exact kk B T h _ _ hI2 hW3 (by omega) (by omega)
    · refine g_aload_n hX dL_law_916 rfl rfl (by first | rfl | exact g_rfr _) 917 rfl ?_
      refine g_iconst hX dL_law_917 (v := 0) (by decide) 918 rfl ?_
      refine g_lald hX dL_law_918 (w_c hW3 29 0 (by decide) ⟨rfl, by decide⟩) (g_ix.nat (k := 0) (by decide) (by decide)) 919 rfl ?_
      refine g_iload hX dL_law_919 rfl 921 rfl ?_
      refine g_i2l hX dL_law_921 rfl 922 rfl ?_
      have hv0 := hv c913
      have h22 : T.2 22 0 = v := (congrFun t1.2.2.2.2.2.2.2.2.2 0).trans hv0
      refine g_lcmp hX dL_law_922 923 rfl ?_
      rw [q_cmp (show (T.2 22 0).toInt64 = v.toInt64 by rw [h22])]
      refine g_if_eq hX dL_law_923 928 926 (by decide) rfl (fun c923 => ?_) (fun c923 => ?_)
      · refine g_goto hX dL_law_928 1447 (by decide) ?_
        refine g_drop (L' := [_, _, _, _, _, none, _]) 5 rfl ?_
        refine g_drop (L' := [_, _, _, _, _, _, none]) 6 rfl ?_
        exact kk B T h _ _ hI2 hW3 (by omega) (by omega)
      · exact absurd rfl c923
  · exact absurd rfl c906
set_option maxRecDepth 100000 in
set_option maxHeartbeats 4000000 in
theorem lo_number {E : g_E} {X : g_X} {nm ds : String} {tb : List (Nat × Nat × Nat × Nat)} (hX : g_ok E X (mLaw nm ds tb)) (hR : X.R = { frames := 14, cells := 601024, slots := 7293034, locals := 520 }) {b L : Nat} {xs : Nat → Int32} (hT : va_T .int b L (fun j => .int (xs j)) (fun q => E.H0.size ≤ q) X.s E.H0) (hL : L ≤ 3072) {k cs ss : Nat} (hk : 6 * k + 6 ≤ L) {A : w_A} {S : q_S} {h : g_H} (hI : w_I S) (hW : w_W E A S S h) (hcs : cs ≤ 40 + 7 * k) (hss : ss ≤ 1400 + 107 * k)
    (kk : ∀ (B : w_A) (T : q_S) (h : g_H) (cs ss : Nat), w_I T → w_W E B T T h → cs ≤ 47 + 7 * k → ss ≤ 1507 + 107 * k → g_Go E X lw_fin h false cs ss 1447 [some (.ref b), some (.ref (B 0 0)), some (.ref (B 30 0)), some (.ref (B 29 0)), some (.int (nI (6 * k))), none, none] []) : g_Go E X lw_fin h false cs ss 931 [some (.ref b), some (.ref (A 0 0)), some (.ref (A 30 0)), some (.ref (A 29 0)), some (.int (nI (6 * k))), none, none] [] := by
  obtain ⟨c, v, S1, S2, T, HL, HM, hc, hv, t1, t2, hI2⟩ := j_number hX.tr E hI (xs (6 * k + 1)) (xs (6 * k + 2))
  refine g_aload_n hX dL_law_931 rfl rfl (by first | rfl | exact g_rfr _) 932 rfl ?_
  refine g_aload_n hX dL_law_932 rfl rfl (by first | rfl | exact g_rfr _) 933 rfl ?_
  refine g_iload hX dL_law_933 rfl 935 rfl ?_
  refine g_iconst hX dL_law_935 (v := 1) (by decide) 936 rfl ?_
  refine g_iadd hX dL_law_936 937 rfl ?_
  refine g_ialdT hX dL_law_937 hT (g_ix.eq (q_off k 1 (d := 1) rfl) (show 6 * k + 1 < L by omega) (by omega)) 938 rfl ?_
  refine g_aload_n hX dL_law_938 rfl rfl (by first | rfl | exact g_rfr _) 939 rfl ?_
  refine g_iload hX dL_law_939 rfl 941 rfl ?_
  refine g_iconst hX dL_law_941 (v := 2) (by decide) 942 rfl ?_
  refine g_iadd hX dL_law_942 943 rfl ?_
  refine g_ialdT hX dL_law_943 hT (g_ix.eq (q_off k 2 (d := 2) rfl) (show 6 * k + 2 < L by omega) (by omega)) 944 rfl ?_
  refine g_aload_n hX dL_law_944 rfl rfl (by first | rfl | exact g_rfr _) 945 rfl ?_
  refine g_cS4 (wt := 0) hX (HL A h hW) dL_law_945 kL_133 (g_rm.of hR (by decide) (by decide)) (by rw [hR]; show cs + 7 ≤ 601024; omega) (by rw [hR]; show ss + 107 ≤ 7293034; omega) (by first | decide | (simp [Value.category])) (fun q => by cases q) 948 rfl (fun v9 h hP => ?_) (fun k9 h9 hP => by cases hP.1)
  obtain ⟨hv9, B, hB9, hW1⟩ := hP
  cases hv9
  rw [← hB9.1, ← hB9.2.1, ← hB9.2.2]
  show g_Go E X _ h false _ _ 948 _ [.int c]
  refine g_istore hX (L' := [_, _, _, _, _, _, _]) dL_law_948 (Nat.le_of_ble_eq_true rfl) rfl 950 rfl ?_
  refine g_aload_n hX dL_law_950 rfl rfl (by first | rfl | exact g_rfr _) 951 rfl ?_
  refine g_aload_n hX dL_law_951 rfl rfl (by first | rfl | exact g_rfr _) 952 rfl ?_
  refine g_iload hX dL_law_952 rfl 954 rfl ?_
  refine g_iconst hX dL_law_954 (v := 1) (by decide) 955 rfl ?_
  refine g_iadd hX dL_law_955 956 rfl ?_
  refine g_ialdT hX dL_law_956 hT (g_ix.eq (q_off k 1 (d := 1) rfl) (show 6 * k + 1 < L by omega) (by omega)) 957 rfl ?_
  refine g_aload_n hX dL_law_957 rfl rfl (by first | rfl | exact g_rfr _) 958 rfl ?_
  refine g_iload hX dL_law_958 rfl 960 rfl ?_
  refine g_iconst hX dL_law_960 (v := 2) (by decide) 961 rfl ?_
  refine g_iadd hX dL_law_961 962 rfl ?_
  refine g_ialdT hX dL_law_962 hT (g_ix.eq (q_off k 2 (d := 2) rfl) (show 6 * k + 2 < L by omega) (by omega)) 963 rfl ?_
  refine g_cV2 (wt := 0) hX (HM B h hW1) dL_law_963 (w_m hW1.r) kL_135 (g_rm.of hR (by decide) (by decide)) (by rw [hR]; show _ ≤ 601024; omega) (by rw [hR]; show _ ≤ 7293034; omega) (by first | decide | (simp [Value.category])) (fun q => by cases q) 966 rfl (fun v9 h hP => ?_) (fun k9 h9 hP => by cases hP.1)
  obtain ⟨hv9, hW2⟩ := hP
  cases hv9
  have hW3 : w_W E B T T h := hW2.cong t1 t2
  show g_Go E X _ h false _ _ 966 _ [.int v]
  refine g_istore hX (L' := [_, _, _, _, _, _, _]) dL_law_966 (Nat.le_of_ble_eq_true rfl) rfl 968 rfl ?_
  refine g_aload_n hX dL_law_968 rfl rfl (by first | rfl | exact g_rfr _) 969 rfl ?_
  refine g_cV0r (wt := 0) hX (c_M_thrown hX.tr hW3.r hI2.1) dL_law_969 (w_m hW3.r) kL_92 (g_rm.of hR (by decide) (by decide)) (by rw [hR]; show _ ≤ 601024; omega) (by rw [hR]; show _ ≤ 7293034; omega) (by first | decide | (simp [Value.category])) 972 rfl ?_
  rw [show T.2 13 1 = c from (t2.2.2.2.2.2.1).trans hc]
  refine g_iload hX dL_law_972 rfl 974 rfl ?_
  refine g_icmp_eq hX dL_law_974 979 977 (by decide) rfl (fun c974 => ?_) (fun c974 => ?_)
  · refine g_iload hX dL_law_979 rfl 981 rfl ?_
    refine g_if_ne hX dL_law_981 996 984 (by decide) rfl (fun c981 => ?_) (fun c981 => ?_)
    · refine g_goto hX dL_law_996 1447 (by decide) ?_
      refine g_drop (L' := [_, _, _, _, _, none, _]) 5 rfl ?_
      refine g_drop (L' := [_, _, _, _, _, _, none]) 6 rfl ?_
      exact kk B T h _ _ hI2 hW3 (by omega) (by omega)
    · refine g_aload_n hX dL_law_984 rfl rfl (by first | rfl | exact g_rfr _) 985 rfl ?_
      refine g_iconst hX dL_law_985 (v := 0) (by decide) 986 rfl ?_
      refine g_lald hX dL_law_986 (w_c hW3 29 0 (by decide) ⟨rfl, by decide⟩) (g_ix.nat (k := 0) (by decide) (by decide)) 987 rfl ?_
      refine g_iload hX dL_law_987 rfl 989 rfl ?_
      refine g_i2l hX dL_law_989 rfl 990 rfl ?_
      have hv0 := hv c981
      have h22 : T.2 22 0 = v := (congrFun t1.2.2.2.2.2.2.2.2.2 0).trans hv0
      refine g_lcmp hX dL_law_990 991 rfl ?_
      rw [q_cmp (show (T.2 22 0).toInt64 = v.toInt64 by rw [h22])]
      refine g_if_eq hX dL_law_991 996 994 (by decide) rfl (fun c991 => ?_) (fun c991 => ?_)
      · refine g_goto hX dL_law_996 1447 (by decide) ?_
        refine g_drop (L' := [_, _, _, _, _, none, _]) 5 rfl ?_
        refine g_drop (L' := [_, _, _, _, _, _, none]) 6 rfl ?_
        exact kk B T h _ _ hI2 hW3 (by omega) (by omega)
      · exact absurd rfl c991
  · exact absurd rfl c974
set_option maxRecDepth 100000 in
set_option maxHeartbeats 4000000 in
theorem lo_effect {E : g_E} {X : g_X} {nm ds : String} {tb : List (Nat × Nat × Nat × Nat)} (hX : g_ok E X (mLaw nm ds tb)) (hR : X.R = { frames := 14, cells := 601024, slots := 7293034, locals := 520 }) {b L : Nat} {xs : Nat → Int32} (hT : va_T .int b L (fun j => .int (xs j)) (fun q => E.H0.size ≤ q) X.s E.H0) (hL : L ≤ 3072) {k cs ss : Nat} (hk : 6 * k + 6 ≤ L) {A : w_A} {S : q_S} {h : g_H} (hI : w_I S) (hW : w_W E A S S h) (hcs : cs ≤ 40 + 7 * k) (hss : ss ≤ 1400 + 107 * k)
    (kk : ∀ (B : w_A) (T : q_S) (h : g_H) (cs ss : Nat), w_I T → w_W E B T T h → cs ≤ 47 + 7 * k → ss ≤ 1507 + 107 * k → g_Go E X lw_fin h false cs ss 1447 [some (.ref b), some (.ref (B 0 0)), some (.ref (B 30 0)), some (.ref (B 29 0)), some (.int (nI (6 * k))), none, none] []) : g_Go E X lw_fin h false cs ss 999 [some (.ref b), some (.ref (A 0 0)), some (.ref (A 30 0)), some (.ref (A 29 0)), some (.int (nI (6 * k))), none, none] [] := by
  obtain ⟨c, v, S1, S2, T, HL, HM, hc, hv, t1, t2, hI2⟩ := j_effect hX.tr E hI (xs (6 * k + 1)) (xs (6 * k + 2)) (xs (6 * k + 3)) (xs (6 * k + 4)) (xs (6 * k + 5))
  refine g_aload_n hX dL_law_999 rfl rfl (by first | rfl | exact g_rfr _) 1000 rfl ?_
  refine g_aload_n hX dL_law_1000 rfl rfl (by first | rfl | exact g_rfr _) 1001 rfl ?_
  refine g_iload hX dL_law_1001 rfl 1003 rfl ?_
  refine g_iconst hX dL_law_1003 (v := 1) (by decide) 1004 rfl ?_
  refine g_iadd hX dL_law_1004 1005 rfl ?_
  refine g_ialdT hX dL_law_1005 hT (g_ix.eq (q_off k 1 (d := 1) rfl) (show 6 * k + 1 < L by omega) (by omega)) 1006 rfl ?_
  refine g_aload_n hX dL_law_1006 rfl rfl (by first | rfl | exact g_rfr _) 1007 rfl ?_
  refine g_iload hX dL_law_1007 rfl 1009 rfl ?_
  refine g_iconst hX dL_law_1009 (v := 2) (by decide) 1010 rfl ?_
  refine g_iadd hX dL_law_1010 1011 rfl ?_
  refine g_ialdT hX dL_law_1011 hT (g_ix.eq (q_off k 2 (d := 2) rfl) (show 6 * k + 2 < L by omega) (by omega)) 1012 rfl ?_
  refine g_aload_n hX dL_law_1012 rfl rfl (by first | rfl | exact g_rfr _) 1013 rfl ?_
  refine g_iload hX dL_law_1013 rfl 1015 rfl ?_
  refine g_iconst hX dL_law_1015 (v := 3) (by decide) 1016 rfl ?_
  refine g_iadd hX dL_law_1016 1017 rfl ?_
  refine g_ialdT hX dL_law_1017 hT (g_ix.eq (q_off k 3 (d := 3) rfl) (show 6 * k + 3 < L by omega) (by omega)) 1018 rfl ?_
  refine g_aload_n hX dL_law_1018 rfl rfl (by first | rfl | exact g_rfr _) 1019 rfl ?_
  refine g_iload hX dL_law_1019 rfl 1021 rfl ?_
  refine g_iconst hX dL_law_1021 (v := 4) (by decide) 1022 rfl ?_
  refine g_iadd hX dL_law_1022 1023 rfl ?_
  refine g_ialdT hX dL_law_1023 hT (g_ix.eq (q_off k 4 (d := 4) rfl) (show 6 * k + 4 < L by omega) (by omega)) 1024 rfl ?_
  refine g_aload_n hX dL_law_1024 rfl rfl (by first | rfl | exact g_rfr _) 1025 rfl ?_
  refine g_iload hX dL_law_1025 rfl 1027 rfl ?_
  refine g_iconst hX dL_law_1027 (v := 5) (by decide) 1028 rfl ?_
  refine g_iadd hX dL_law_1028 1029 rfl ?_
  refine g_ialdT hX dL_law_1029 hT (g_ix.eq (q_off k 5 (d := 5) rfl) (show 6 * k + 5 < L by omega) (by omega)) 1030 rfl ?_
  refine g_aload_n hX dL_law_1030 rfl rfl (by first | rfl | exact g_rfr _) 1031 rfl ?_
  refine g_cS7 (wt := 0) hX (HL A h hW) dL_law_1031 kL_136 (g_rm.of hR (by decide) (by decide)) (by rw [hR]; show cs + 7 ≤ 601024; omega) (by rw [hR]; show ss + 107 ≤ 7293034; omega) (by first | decide | (simp [Value.category])) (fun q => by cases q) 1034 rfl (fun v9 h hP => ?_) (fun k9 h9 hP => by cases hP.1)
  obtain ⟨hv9, B, hB9, hW1⟩ := hP
  cases hv9
  rw [← hB9.1, ← hB9.2.1, ← hB9.2.2]
  show g_Go E X _ h false _ _ 1034 _ [.int c]
  refine g_istore hX (L' := [_, _, _, _, _, _, _]) dL_law_1034 (Nat.le_of_ble_eq_true rfl) rfl 1036 rfl ?_
  refine g_aload_n hX dL_law_1036 rfl rfl (by first | rfl | exact g_rfr _) 1037 rfl ?_
  refine g_aload_n hX dL_law_1037 rfl rfl (by first | rfl | exact g_rfr _) 1038 rfl ?_
  refine g_iload hX dL_law_1038 rfl 1040 rfl ?_
  refine g_iconst hX dL_law_1040 (v := 1) (by decide) 1041 rfl ?_
  refine g_iadd hX dL_law_1041 1042 rfl ?_
  refine g_ialdT hX dL_law_1042 hT (g_ix.eq (q_off k 1 (d := 1) rfl) (show 6 * k + 1 < L by omega) (by omega)) 1043 rfl ?_
  refine g_aload_n hX dL_law_1043 rfl rfl (by first | rfl | exact g_rfr _) 1044 rfl ?_
  refine g_iload hX dL_law_1044 rfl 1046 rfl ?_
  refine g_iconst hX dL_law_1046 (v := 2) (by decide) 1047 rfl ?_
  refine g_iadd hX dL_law_1047 1048 rfl ?_
  refine g_ialdT hX dL_law_1048 hT (g_ix.eq (q_off k 2 (d := 2) rfl) (show 6 * k + 2 < L by omega) (by omega)) 1049 rfl ?_
  refine g_aload_n hX dL_law_1049 rfl rfl (by first | rfl | exact g_rfr _) 1050 rfl ?_
  refine g_iload hX dL_law_1050 rfl 1052 rfl ?_
  refine g_iconst hX dL_law_1052 (v := 3) (by decide) 1053 rfl ?_
  refine g_iadd hX dL_law_1053 1054 rfl ?_
  refine g_ialdT hX dL_law_1054 hT (g_ix.eq (q_off k 3 (d := 3) rfl) (show 6 * k + 3 < L by omega) (by omega)) 1055 rfl ?_
  refine g_aload_n hX dL_law_1055 rfl rfl (by first | rfl | exact g_rfr _) 1056 rfl ?_
  refine g_iload hX dL_law_1056 rfl 1058 rfl ?_
  refine g_iconst hX dL_law_1058 (v := 4) (by decide) 1059 rfl ?_
  refine g_iadd hX dL_law_1059 1060 rfl ?_
  refine g_ialdT hX dL_law_1060 hT (g_ix.eq (q_off k 4 (d := 4) rfl) (show 6 * k + 4 < L by omega) (by omega)) 1061 rfl ?_
  refine g_aload_n hX dL_law_1061 rfl rfl (by first | rfl | exact g_rfr _) 1062 rfl ?_
  refine g_iload hX dL_law_1062 rfl 1064 rfl ?_
  refine g_iconst hX dL_law_1064 (v := 5) (by decide) 1065 rfl ?_
  refine g_iadd hX dL_law_1065 1066 rfl ?_
  refine g_ialdT hX dL_law_1066 hT (g_ix.eq (q_off k 5 (d := 5) rfl) (show 6 * k + 5 < L by omega) (by omega)) 1067 rfl ?_
  refine g_cV5 (wt := 0) hX (HM B h hW1) dL_law_1067 (w_m hW1.r) kL_139 (g_rm.of hR (by decide) (by decide)) (by rw [hR]; show _ ≤ 601024; omega) (by rw [hR]; show _ ≤ 7293034; omega) (by first | decide | (simp [Value.category])) (fun q => by cases q) 1070 rfl (fun v9 h hP => ?_) (fun k9 h9 hP => by cases hP.1)
  obtain ⟨hv9, hW2⟩ := hP
  cases hv9
  have hW3 : w_W E B T T h := hW2.cong t1 t2
  show g_Go E X _ h false _ _ 1070 _ [.int v]
  refine g_istore hX (L' := [_, _, _, _, _, _, _]) dL_law_1070 (Nat.le_of_ble_eq_true rfl) rfl 1072 rfl ?_
  refine g_aload_n hX dL_law_1072 rfl rfl (by first | rfl | exact g_rfr _) 1073 rfl ?_
  refine g_cV0r (wt := 0) hX (c_M_thrown hX.tr hW3.r hI2.1) dL_law_1073 (w_m hW3.r) kL_92 (g_rm.of hR (by decide) (by decide)) (by rw [hR]; show _ ≤ 601024; omega) (by rw [hR]; show _ ≤ 7293034; omega) (by first | decide | (simp [Value.category])) 1076 rfl ?_
  rw [show T.2 13 1 = c from (t2.2.2.2.2.2.1).trans hc]
  refine g_iload hX dL_law_1076 rfl 1078 rfl ?_
  refine g_icmp_eq hX dL_law_1078 1083 1081 (by decide) rfl (fun c1078 => ?_) (fun c1078 => ?_)
  · refine g_iload hX dL_law_1083 rfl 1085 rfl ?_
    refine g_if_ne hX dL_law_1085 1100 1088 (by decide) rfl (fun c1085 => ?_) (fun c1085 => ?_)
    · refine g_goto hX dL_law_1100 1447 (by decide) ?_
      refine g_drop (L' := [_, _, _, _, _, none, _]) 5 rfl ?_
      refine g_drop (L' := [_, _, _, _, _, _, none]) 6 rfl ?_
      exact kk B T h _ _ hI2 hW3 (by omega) (by omega)
    · refine g_aload_n hX dL_law_1088 rfl rfl (by first | rfl | exact g_rfr _) 1089 rfl ?_
      refine g_iconst hX dL_law_1089 (v := 0) (by decide) 1090 rfl ?_
      refine g_lald hX dL_law_1090 (w_c hW3 29 0 (by decide) ⟨rfl, by decide⟩) (g_ix.nat (k := 0) (by decide) (by decide)) 1091 rfl ?_
      refine g_iload hX dL_law_1091 rfl 1093 rfl ?_
      refine g_i2l hX dL_law_1093 rfl 1094 rfl ?_
      have hv0 := hv c1085
      have h22 : T.2 22 0 = v := (congrFun t1.2.2.2.2.2.2.2.2.2 0).trans hv0
      refine g_lcmp hX dL_law_1094 1095 rfl ?_
      rw [q_cmp (show (T.2 22 0).toInt64 = v.toInt64 by rw [h22])]
      refine g_if_eq hX dL_law_1095 1100 1098 (by decide) rfl (fun c1095 => ?_) (fun c1095 => ?_)
      · refine g_goto hX dL_law_1100 1447 (by decide) ?_
        refine g_drop (L' := [_, _, _, _, _, none, _]) 5 rfl ?_
        refine g_drop (L' := [_, _, _, _, _, _, none]) 6 rfl ?_
        exact kk B T h _ _ hI2 hW3 (by omega) (by omega)
      · exact absurd rfl c1095
  · exact absurd rfl c1078
set_option maxRecDepth 100000 in
set_option maxHeartbeats 4000000 in
theorem lo_amount {E : g_E} {X : g_X} {nm ds : String} {tb : List (Nat × Nat × Nat × Nat)} (hX : g_ok E X (mLaw nm ds tb)) (hR : X.R = { frames := 14, cells := 601024, slots := 7293034, locals := 520 }) {b L : Nat} {xs : Nat → Int32} (hT : va_T .int b L (fun j => .int (xs j)) (fun q => E.H0.size ≤ q) X.s E.H0) (hL : L ≤ 3072) {k cs ss : Nat} (hk : 6 * k + 6 ≤ L) {A : w_A} {S : q_S} {h : g_H} (hI : w_I S) (hW : w_W E A S S h) (hcs : cs ≤ 40 + 7 * k) (hss : ss ≤ 1400 + 107 * k)
    (kk : ∀ (B : w_A) (T : q_S) (h : g_H) (cs ss : Nat), w_I T → w_W E B T T h → cs ≤ 47 + 7 * k → ss ≤ 1507 + 107 * k → g_Go E X lw_fin h false cs ss 1447 [some (.ref b), some (.ref (B 0 0)), some (.ref (B 30 0)), some (.ref (B 29 0)), some (.int (nI (6 * k))), none, none] []) : g_Go E X lw_fin h false cs ss 1103 [some (.ref b), some (.ref (A 0 0)), some (.ref (A 30 0)), some (.ref (A 29 0)), some (.int (nI (6 * k))), none, none] [] := by
  obtain ⟨c, S1, S2, T, HL, HM, hc, t1, t2, hI2⟩ := j_amount hX.tr E hI (xs (6 * k + 1)) (xs (6 * k + 2))
  refine g_aload_n hX dL_law_1103 rfl rfl (by first | rfl | exact g_rfr _) 1104 rfl ?_
  refine g_aload_n hX dL_law_1104 rfl rfl (by first | rfl | exact g_rfr _) 1105 rfl ?_
  refine g_iload hX dL_law_1105 rfl 1107 rfl ?_
  refine g_iconst hX dL_law_1107 (v := 1) (by decide) 1108 rfl ?_
  refine g_iadd hX dL_law_1108 1109 rfl ?_
  refine g_ialdT hX dL_law_1109 hT (g_ix.eq (q_off k 1 (d := 1) rfl) (show 6 * k + 1 < L by omega) (by omega)) 1110 rfl ?_
  refine g_aload_n hX dL_law_1110 rfl rfl (by first | rfl | exact g_rfr _) 1111 rfl ?_
  refine g_iload hX dL_law_1111 rfl 1113 rfl ?_
  refine g_iconst hX dL_law_1113 (v := 2) (by decide) 1114 rfl ?_
  refine g_iadd hX dL_law_1114 1115 rfl ?_
  refine g_ialdT hX dL_law_1115 hT (g_ix.eq (q_off k 2 (d := 2) rfl) (show 6 * k + 2 < L by omega) (by omega)) 1116 rfl ?_
  refine g_cS3 (wt := 0) hX (HL A h hW) dL_law_1116 kL_140 (g_rm.of hR (by decide) (by decide)) (by rw [hR]; show cs + 7 ≤ 601024; omega) (by rw [hR]; show ss + 107 ≤ 7293034; omega) (by first | decide | (simp [Value.category])) (fun q => by cases q) 1119 rfl (fun v9 h hP => ?_) (fun k9 h9 hP => by cases hP.1)
  obtain ⟨hv9, B, hB9, hW1⟩ := hP
  cases hv9
  rw [← hB9.1, ← hB9.2.1, ← hB9.2.2]
  show g_Go E X _ h false _ _ 1119 _ [.int c]
  refine g_istore hX (L' := [_, _, _, _, _, _, _]) dL_law_1119 (Nat.le_of_ble_eq_true rfl) rfl 1121 rfl ?_
  refine g_aload_n hX dL_law_1121 rfl rfl (by first | rfl | exact g_rfr _) 1122 rfl ?_
  refine g_aload_n hX dL_law_1122 rfl rfl (by first | rfl | exact g_rfr _) 1123 rfl ?_
  refine g_iload hX dL_law_1123 rfl 1125 rfl ?_
  refine g_iconst hX dL_law_1125 (v := 1) (by decide) 1126 rfl ?_
  refine g_iadd hX dL_law_1126 1127 rfl ?_
  refine g_ialdT hX dL_law_1127 hT (g_ix.eq (q_off k 1 (d := 1) rfl) (show 6 * k + 1 < L by omega) (by omega)) 1128 rfl ?_
  refine g_aload_n hX dL_law_1128 rfl rfl (by first | rfl | exact g_rfr _) 1129 rfl ?_
  refine g_iload hX dL_law_1129 rfl 1131 rfl ?_
  refine g_iconst hX dL_law_1131 (v := 2) (by decide) 1132 rfl ?_
  refine g_iadd hX dL_law_1132 1133 rfl ?_
  refine g_ialdT hX dL_law_1133 hT (g_ix.eq (q_off k 2 (d := 2) rfl) (show 6 * k + 2 < L by omega) (by omega)) 1134 rfl ?_
  refine g_cV2 (wt := 0) hX (HM B h hW1) dL_law_1134 (w_m hW1.r) kL_142 (g_rm.of hR (by decide) (by decide)) (by rw [hR]; show _ ≤ 601024; omega) (by rw [hR]; show _ ≤ 7293034; omega) (by first | decide | (simp [Value.category])) (fun q => by cases q) 1137 rfl (fun v9 h hP => ?_) (fun k9 h9 hP => by cases hP.1)
  obtain ⟨hv9, hW2⟩ := hP
  cases hv9
  have hW3 : w_W E B T T h := hW2.cong t1 t2
  show g_Go E X _ h false _ _ 1137 _ []
  refine g_aload_n hX dL_law_1137 rfl rfl (by first | rfl | exact g_rfr _) 1138 rfl ?_
  refine g_cV0r (wt := 0) hX (c_M_thrown hX.tr hW3.r hI2.1) dL_law_1138 (w_m hW3.r) kL_92 (g_rm.of hR (by decide) (by decide)) (by rw [hR]; show _ ≤ 601024; omega) (by rw [hR]; show _ ≤ 7293034; omega) (by first | decide | (simp [Value.category])) 1141 rfl ?_
  rw [show T.2 13 1 = c from (t2.2.2.2.2.2.1).trans hc]
  refine g_iload hX dL_law_1141 rfl 1143 rfl ?_
  refine g_icmp_eq hX dL_law_1143 1148 1146 (by decide) rfl (fun c1143 => ?_) (fun c1143 => ?_)
  · refine g_goto hX dL_law_1148 1447 (by decide) ?_
    refine g_drop (L' := [_, _, _, _, _, none, _]) 5 rfl ?_
    refine g_drop (L' := [_, _, _, _, _, _, none]) 6 rfl ?_
    exact kk B T h _ _ hI2 hW3 (by omega) (by omega)
  · exact absurd rfl c1143
set_option maxRecDepth 100000 in
set_option maxHeartbeats 4000000 in
theorem lo_timing {E : g_E} {X : g_X} {nm ds : String} {tb : List (Nat × Nat × Nat × Nat)} (hX : g_ok E X (mLaw nm ds tb)) (hR : X.R = { frames := 14, cells := 601024, slots := 7293034, locals := 520 }) {b L : Nat} {xs : Nat → Int32} (hT : va_T .int b L (fun j => .int (xs j)) (fun q => E.H0.size ≤ q) X.s E.H0) (hL : L ≤ 3072) {k cs ss : Nat} (hk : 6 * k + 6 ≤ L) {A : w_A} {S : q_S} {h : g_H} (hI : w_I S) (hW : w_W E A S S h) (hcs : cs ≤ 40 + 7 * k) (hss : ss ≤ 1400 + 107 * k)
    (kk : ∀ (B : w_A) (T : q_S) (h : g_H) (cs ss : Nat), w_I T → w_W E B T T h → cs ≤ 47 + 7 * k → ss ≤ 1507 + 107 * k → g_Go E X lw_fin h false cs ss 1447 [some (.ref b), some (.ref (B 0 0)), some (.ref (B 30 0)), some (.ref (B 29 0)), some (.int (nI (6 * k))), none, none] []) : g_Go E X lw_fin h false cs ss 1151 [some (.ref b), some (.ref (A 0 0)), some (.ref (A 30 0)), some (.ref (A 29 0)), some (.int (nI (6 * k))), none, none] [] := by
  obtain ⟨c, v, S1, S2, T, HL, HM, hc, hv, t1, t2, hI2⟩ := j_timing hX.tr E hI (xs (6 * k + 1)) (xs (6 * k + 2))
  refine g_aload_n hX dL_law_1151 rfl rfl (by first | rfl | exact g_rfr _) 1152 rfl ?_
  refine g_aload_n hX dL_law_1152 rfl rfl (by first | rfl | exact g_rfr _) 1153 rfl ?_
  refine g_iload hX dL_law_1153 rfl 1155 rfl ?_
  refine g_iconst hX dL_law_1155 (v := 1) (by decide) 1156 rfl ?_
  refine g_iadd hX dL_law_1156 1157 rfl ?_
  refine g_ialdT hX dL_law_1157 hT (g_ix.eq (q_off k 1 (d := 1) rfl) (show 6 * k + 1 < L by omega) (by omega)) 1158 rfl ?_
  refine g_aload_n hX dL_law_1158 rfl rfl (by first | rfl | exact g_rfr _) 1159 rfl ?_
  refine g_iload hX dL_law_1159 rfl 1161 rfl ?_
  refine g_iconst hX dL_law_1161 (v := 2) (by decide) 1162 rfl ?_
  refine g_iadd hX dL_law_1162 1163 rfl ?_
  refine g_ialdT hX dL_law_1163 hT (g_ix.eq (q_off k 2 (d := 2) rfl) (show 6 * k + 2 < L by omega) (by omega)) 1164 rfl ?_
  refine g_aload_n hX dL_law_1164 rfl rfl (by first | rfl | exact g_rfr _) 1165 rfl ?_
  refine g_cS4 (wt := 0) hX (HL A h hW) dL_law_1165 kL_143 (g_rm.of hR (by decide) (by decide)) (by rw [hR]; show cs + 7 ≤ 601024; omega) (by rw [hR]; show ss + 107 ≤ 7293034; omega) (by first | decide | (simp [Value.category])) (fun q => by cases q) 1168 rfl (fun v9 h hP => ?_) (fun k9 h9 hP => by cases hP.1)
  obtain ⟨hv9, B, hB9, hW1⟩ := hP
  cases hv9
  rw [← hB9.1, ← hB9.2.1, ← hB9.2.2]
  show g_Go E X _ h false _ _ 1168 _ [.int c]
  refine g_istore hX (L' := [_, _, _, _, _, _, _]) dL_law_1168 (Nat.le_of_ble_eq_true rfl) rfl 1170 rfl ?_
  refine g_aload_n hX dL_law_1170 rfl rfl (by first | rfl | exact g_rfr _) 1171 rfl ?_
  refine g_aload_n hX dL_law_1171 rfl rfl (by first | rfl | exact g_rfr _) 1172 rfl ?_
  refine g_iload hX dL_law_1172 rfl 1174 rfl ?_
  refine g_iconst hX dL_law_1174 (v := 1) (by decide) 1175 rfl ?_
  refine g_iadd hX dL_law_1175 1176 rfl ?_
  refine g_ialdT hX dL_law_1176 hT (g_ix.eq (q_off k 1 (d := 1) rfl) (show 6 * k + 1 < L by omega) (by omega)) 1177 rfl ?_
  refine g_aload_n hX dL_law_1177 rfl rfl (by first | rfl | exact g_rfr _) 1178 rfl ?_
  refine g_iload hX dL_law_1178 rfl 1180 rfl ?_
  refine g_iconst hX dL_law_1180 (v := 2) (by decide) 1181 rfl ?_
  refine g_iadd hX dL_law_1181 1182 rfl ?_
  refine g_ialdT hX dL_law_1182 hT (g_ix.eq (q_off k 2 (d := 2) rfl) (show 6 * k + 2 < L by omega) (by omega)) 1183 rfl ?_
  refine g_cV2 (wt := 0) hX (HM B h hW1) dL_law_1183 (w_m hW1.r) kL_145 (g_rm.of hR (by decide) (by decide)) (by rw [hR]; show _ ≤ 601024; omega) (by rw [hR]; show _ ≤ 7293034; omega) (by first | decide | (simp [Value.category])) (fun q => by cases q) 1186 rfl (fun v9 h hP => ?_) (fun k9 h9 hP => by cases hP.1)
  obtain ⟨hv9, hW2⟩ := hP
  cases hv9
  have hW3 : w_W E B T T h := hW2.cong t1 t2
  show g_Go E X _ h false _ _ 1186 _ [.int v]
  refine g_istore hX (L' := [_, _, _, _, _, _, _]) dL_law_1186 (Nat.le_of_ble_eq_true rfl) rfl 1188 rfl ?_
  refine g_aload_n hX dL_law_1188 rfl rfl (by first | rfl | exact g_rfr _) 1189 rfl ?_
  refine g_cV0r (wt := 0) hX (c_M_thrown hX.tr hW3.r hI2.1) dL_law_1189 (w_m hW3.r) kL_92 (g_rm.of hR (by decide) (by decide)) (by rw [hR]; show _ ≤ 601024; omega) (by rw [hR]; show _ ≤ 7293034; omega) (by first | decide | (simp [Value.category])) 1192 rfl ?_
  rw [show T.2 13 1 = c from (t2.2.2.2.2.2.1).trans hc]
  refine g_iload hX dL_law_1192 rfl 1194 rfl ?_
  refine g_icmp_eq hX dL_law_1194 1199 1197 (by decide) rfl (fun c1194 => ?_) (fun c1194 => ?_)
  · refine g_iload hX dL_law_1199 rfl 1201 rfl ?_
    refine g_if_ne hX dL_law_1201 1216 1204 (by decide) rfl (fun c1201 => ?_) (fun c1201 => ?_)
    · refine g_goto hX dL_law_1216 1447 (by decide) ?_
      refine g_drop (L' := [_, _, _, _, _, none, _]) 5 rfl ?_
      refine g_drop (L' := [_, _, _, _, _, _, none]) 6 rfl ?_
      exact kk B T h _ _ hI2 hW3 (by omega) (by omega)
    · refine g_aload_n hX dL_law_1204 rfl rfl (by first | rfl | exact g_rfr _) 1205 rfl ?_
      refine g_iconst hX dL_law_1205 (v := 0) (by decide) 1206 rfl ?_
      refine g_lald hX dL_law_1206 (w_c hW3 29 0 (by decide) ⟨rfl, by decide⟩) (g_ix.nat (k := 0) (by decide) (by decide)) 1207 rfl ?_
      refine g_iload hX dL_law_1207 rfl 1209 rfl ?_
      refine g_i2l hX dL_law_1209 rfl 1210 rfl ?_
      have hv0 := hv c1201
      have h22 : T.2 22 0 = v := (congrFun t1.2.2.2.2.2.2.2.2.2 0).trans hv0
      refine g_lcmp hX dL_law_1210 1211 rfl ?_
      rw [q_cmp (show (T.2 22 0).toInt64 = v.toInt64 by rw [h22])]
      refine g_if_eq hX dL_law_1211 1216 1214 (by decide) rfl (fun c1211 => ?_) (fun c1211 => ?_)
      · refine g_goto hX dL_law_1216 1447 (by decide) ?_
        refine g_drop (L' := [_, _, _, _, _, none, _]) 5 rfl ?_
        refine g_drop (L' := [_, _, _, _, _, _, none]) 6 rfl ?_
        exact kk B T h _ _ hI2 hW3 (by omega) (by omega)
      · exact absurd rfl c1211
  · exact absurd rfl c1194
set_option maxRecDepth 100000 in
set_option maxHeartbeats 4000000 in
theorem lo_click {E : g_E} {X : g_X} {nm ds : String} {tb : List (Nat × Nat × Nat × Nat)} (hX : g_ok E X (mLaw nm ds tb)) (hR : X.R = { frames := 14, cells := 601024, slots := 7293034, locals := 520 }) {b L : Nat} {xs : Nat → Int32} (hT : va_T .int b L (fun j => .int (xs j)) (fun q => E.H0.size ≤ q) X.s E.H0) (hL : L ≤ 3072) {k cs ss : Nat} (hk : 6 * k + 6 ≤ L) {A : w_A} {S : q_S} {h : g_H} (hI : w_I S) (hW : w_W E A S S h) (hcs : cs ≤ 40 + 7 * k) (hss : ss ≤ 1400 + 107 * k)
    (kk : ∀ (B : w_A) (T : q_S) (h : g_H) (cs ss : Nat), w_I T → w_W E B T T h → cs ≤ 47 + 7 * k → ss ≤ 1507 + 107 * k → g_Go E X lw_fin h false cs ss 1447 [some (.ref b), some (.ref (B 0 0)), some (.ref (B 30 0)), some (.ref (B 29 0)), some (.int (nI (6 * k))), none, none] []) : g_Go E X lw_fin h false cs ss 1219 [some (.ref b), some (.ref (A 0 0)), some (.ref (A 30 0)), some (.ref (A 29 0)), some (.int (nI (6 * k))), none, none] [] := by
  obtain ⟨v, S1, S2, T, HL, HM, t1, t2, hI2⟩ := j_click hX.tr E hI 
  refine g_aload_n hX dL_law_1219 rfl rfl (by first | rfl | exact g_rfr _) 1220 rfl ?_
  refine g_cV0 (wt := 0) hX (HL A h hW) dL_law_1220 (w_s hW) kL_146 (g_rm.of hR (by decide) (by decide)) (by rw [hR]; show _ ≤ 601024; omega) (by rw [hR]; show _ ≤ 7293034; omega) (by first | decide | (simp [Value.category])) (fun q => by cases q) 1223 rfl (fun v9 h hP => ?_) (fun k9 h9 hP => by cases hP.1)
  obtain ⟨hv9, B, hB9, hW1⟩ := hP
  cases hv9
  rw [← hB9.1, ← hB9.2.1, ← hB9.2.2]
  show g_Go E X _ h false _ _ 1223 _ [.int v]
  refine g_aload_n hX dL_law_1223 rfl rfl (by first | rfl | exact g_rfr _) 1224 rfl ?_
  refine g_cV0 (wt := 1) hX (HM B h hW1) dL_law_1224 (w_m hW1.r) kL_150 (g_rm.of hR (by decide) (by decide)) (by rw [hR]; show _ ≤ 601024; omega) (by rw [hR]; show _ ≤ 7293034; omega) (by first | decide | (simp [Value.category])) (fun q => by cases q) 1227 rfl (fun v9 h hP => ?_) (fun k9 h9 hP => by cases hP.1)
  obtain ⟨hv9, hW2⟩ := hP
  cases hv9
  have hW3 : w_W E B T T h := hW2.cong t1 t2
  show g_Go E X _ h false _ _ 1227 _ [.int v, .int v]
  refine g_icmp_eq hX dL_law_1227 1447 1230 (by decide) rfl (fun c1227 => ?_) (fun c1227 => ?_)
  · refine g_drop (L' := [_, _, _, _, _, none, _]) 5 rfl ?_
    refine g_drop (L' := [_, _, _, _, _, _, none]) 6 rfl ?_
    exact kk B T h _ _ hI2 hW3 (by omega) (by omega)
  · exact absurd rfl c1227
set_option maxRecDepth 100000 in
set_option maxHeartbeats 4000000 in
theorem lo_back {E : g_E} {X : g_X} {nm ds : String} {tb : List (Nat × Nat × Nat × Nat)} (hX : g_ok E X (mLaw nm ds tb)) (hR : X.R = { frames := 14, cells := 601024, slots := 7293034, locals := 520 }) {b L : Nat} {xs : Nat → Int32} (hT : va_T .int b L (fun j => .int (xs j)) (fun q => E.H0.size ≤ q) X.s E.H0) (hL : L ≤ 3072) {k cs ss : Nat} (hk : 6 * k + 6 ≤ L) {A : w_A} {S : q_S} {h : g_H} (hI : w_I S) (hW : w_W E A S S h) (hcs : cs ≤ 40 + 7 * k) (hss : ss ≤ 1400 + 107 * k)
    (kk : ∀ (B : w_A) (T : q_S) (h : g_H) (cs ss : Nat), w_I T → w_W E B T T h → cs ≤ 47 + 7 * k → ss ≤ 1507 + 107 * k → g_Go E X lw_fin h false cs ss 1447 [some (.ref b), some (.ref (B 0 0)), some (.ref (B 30 0)), some (.ref (B 29 0)), some (.int (nI (6 * k))), none, none] []) : g_Go E X lw_fin h false cs ss 1232 [some (.ref b), some (.ref (A 0 0)), some (.ref (A 30 0)), some (.ref (A 29 0)), some (.int (nI (6 * k))), none, none] [] := by
  obtain ⟨v, S1, S2, T, HL, HM, t1, t2, hI2⟩ := j_back hX.tr E hI 
  refine g_aload_n hX dL_law_1232 rfl rfl (by first | rfl | exact g_rfr _) 1233 rfl ?_
  refine g_cV0 (wt := 0) hX (HL A h hW) dL_law_1233 (w_s hW) kL_151 (g_rm.of hR (by decide) (by decide)) (by rw [hR]; show _ ≤ 601024; omega) (by rw [hR]; show _ ≤ 7293034; omega) (by first | decide | (simp [Value.category])) (fun q => by cases q) 1236 rfl (fun v9 h hP => ?_) (fun k9 h9 hP => by cases hP.1)
  obtain ⟨hv9, B, hB9, hW1⟩ := hP
  cases hv9
  rw [← hB9.1, ← hB9.2.1, ← hB9.2.2]
  show g_Go E X _ h false _ _ 1236 _ [.int v]
  refine g_aload_n hX dL_law_1236 rfl rfl (by first | rfl | exact g_rfr _) 1237 rfl ?_
  refine g_cV0 (wt := 1) hX (HM B h hW1) dL_law_1237 (w_m hW1.r) kL_154 (g_rm.of hR (by decide) (by decide)) (by rw [hR]; show _ ≤ 601024; omega) (by rw [hR]; show _ ≤ 7293034; omega) (by first | decide | (simp [Value.category])) (fun q => by cases q) 1240 rfl (fun v9 h hP => ?_) (fun k9 h9 hP => by cases hP.1)
  obtain ⟨hv9, hW2⟩ := hP
  cases hv9
  have hW3 : w_W E B T T h := hW2.cong t1 t2
  show g_Go E X _ h false _ _ 1240 _ [.int v, .int v]
  refine g_icmp_eq hX dL_law_1240 1447 1243 (by decide) rfl (fun c1240 => ?_) (fun c1240 => ?_)
  · refine g_drop (L' := [_, _, _, _, _, none, _]) 5 rfl ?_
    refine g_drop (L' := [_, _, _, _, _, _, none]) 6 rfl ?_
    exact kk B T h _ _ hI2 hW3 (by omega) (by omega)
  · exact absurd rfl c1240
set_option maxRecDepth 100000 in
set_option maxHeartbeats 4000000 in
theorem lo_jump {E : g_E} {X : g_X} {nm ds : String} {tb : List (Nat × Nat × Nat × Nat)} (hX : g_ok E X (mLaw nm ds tb)) (hR : X.R = { frames := 14, cells := 601024, slots := 7293034, locals := 520 }) {b L : Nat} {xs : Nat → Int32} (hT : va_T .int b L (fun j => .int (xs j)) (fun q => E.H0.size ≤ q) X.s E.H0) (hL : L ≤ 3072) {k cs ss : Nat} (hk : 6 * k + 6 ≤ L) {A : w_A} {S : q_S} {h : g_H} (hI : w_I S) (hW : w_W E A S S h) (hcs : cs ≤ 40 + 7 * k) (hss : ss ≤ 1400 + 107 * k)
    (kk : ∀ (B : w_A) (T : q_S) (h : g_H) (cs ss : Nat), w_I T → w_W E B T T h → cs ≤ 47 + 7 * k → ss ≤ 1507 + 107 * k → g_Go E X lw_fin h false cs ss 1447 [some (.ref b), some (.ref (B 0 0)), some (.ref (B 30 0)), some (.ref (B 29 0)), some (.int (nI (6 * k))), none, none] []) : g_Go E X lw_fin h false cs ss 1245 [some (.ref b), some (.ref (A 0 0)), some (.ref (A 30 0)), some (.ref (A 29 0)), some (.int (nI (6 * k))), none, none] [] := by
  obtain ⟨c, S1, S2, T, HL, HM, hc, t1, t2, hI2⟩ := j_jump hX.tr E hI (xs (6 * k + 1))
  refine g_aload_n hX dL_law_1245 rfl rfl (by first | rfl | exact g_rfr _) 1246 rfl ?_
  refine g_aload_n hX dL_law_1246 rfl rfl (by first | rfl | exact g_rfr _) 1247 rfl ?_
  refine g_iload hX dL_law_1247 rfl 1249 rfl ?_
  refine g_iconst hX dL_law_1249 (v := 1) (by decide) 1250 rfl ?_
  refine g_iadd hX dL_law_1250 1251 rfl ?_
  refine g_ialdT hX dL_law_1251 hT (g_ix.eq (q_off k 1 (d := 1) rfl) (show 6 * k + 1 < L by omega) (by omega)) 1252 rfl ?_
  refine g_cS2 (wt := 0) hX (HL A h hW) dL_law_1252 kL_155 (g_rm.of hR (by decide) (by decide)) (by rw [hR]; show cs + 7 ≤ 601024; omega) (by rw [hR]; show ss + 107 ≤ 7293034; omega) (by first | decide | (simp [Value.category])) (fun q => by cases q) 1255 rfl (fun v9 h hP => ?_) (fun k9 h9 hP => by cases hP.1)
  obtain ⟨hv9, B, hB9, hW1⟩ := hP
  cases hv9
  rw [← hB9.1, ← hB9.2.1, ← hB9.2.2]
  show g_Go E X _ h false _ _ 1255 _ [.int c]
  refine g_istore hX (L' := [_, _, _, _, _, _, _]) dL_law_1255 (Nat.le_of_ble_eq_true rfl) rfl 1257 rfl ?_
  refine g_aload_n hX dL_law_1257 rfl rfl (by first | rfl | exact g_rfr _) 1258 rfl ?_
  refine g_aload_n hX dL_law_1258 rfl rfl (by first | rfl | exact g_rfr _) 1259 rfl ?_
  refine g_iload hX dL_law_1259 rfl 1261 rfl ?_
  refine g_iconst hX dL_law_1261 (v := 1) (by decide) 1262 rfl ?_
  refine g_iadd hX dL_law_1262 1263 rfl ?_
  refine g_ialdT hX dL_law_1263 hT (g_ix.eq (q_off k 1 (d := 1) rfl) (show 6 * k + 1 < L by omega) (by omega)) 1264 rfl ?_
  refine g_cV1 (wt := 0) hX (HM B h hW1) dL_law_1264 (w_m hW1.r) kL_158 (g_rm.of hR (by decide) (by decide)) (by rw [hR]; show _ ≤ 601024; omega) (by rw [hR]; show _ ≤ 7293034; omega) (by first | decide | (simp [Value.category])) (fun q => by cases q) 1267 rfl (fun v9 h hP => ?_) (fun k9 h9 hP => by cases hP.1)
  obtain ⟨hv9, hW2⟩ := hP
  cases hv9
  have hW3 : w_W E B T T h := hW2.cong t1 t2
  show g_Go E X _ h false _ _ 1267 _ []
  refine g_aload_n hX dL_law_1267 rfl rfl (by first | rfl | exact g_rfr _) 1268 rfl ?_
  refine g_cV0r (wt := 0) hX (c_M_thrown hX.tr hW3.r hI2.1) dL_law_1268 (w_m hW3.r) kL_92 (g_rm.of hR (by decide) (by decide)) (by rw [hR]; show _ ≤ 601024; omega) (by rw [hR]; show _ ≤ 7293034; omega) (by first | decide | (simp [Value.category])) 1271 rfl ?_
  rw [show T.2 13 1 = c from (t2.2.2.2.2.2.1).trans hc]
  refine g_iload hX dL_law_1271 rfl 1273 rfl ?_
  refine g_icmp_eq hX dL_law_1273 1278 1276 (by decide) rfl (fun c1273 => ?_) (fun c1273 => ?_)
  · refine g_goto hX dL_law_1278 1447 (by decide) ?_
    refine g_drop (L' := [_, _, _, _, _, none, _]) 5 rfl ?_
    refine g_drop (L' := [_, _, _, _, _, _, none]) 6 rfl ?_
    exact kk B T h _ _ hI2 hW3 (by omega) (by omega)
  · exact absurd rfl c1273
set_option maxRecDepth 100000 in
set_option maxHeartbeats 4000000 in
theorem lo_tick {E : g_E} {X : g_X} {nm ds : String} {tb : List (Nat × Nat × Nat × Nat)} (hX : g_ok E X (mLaw nm ds tb)) (hR : X.R = { frames := 14, cells := 601024, slots := 7293034, locals := 520 }) {b L : Nat} {xs : Nat → Int32} (hT : va_T .int b L (fun j => .int (xs j)) (fun q => E.H0.size ≤ q) X.s E.H0) (hL : L ≤ 3072) {k cs ss : Nat} (hk : 6 * k + 6 ≤ L) {A : w_A} {S : q_S} {h : g_H} (hI : w_I S) (hW : w_W E A S S h) (hcs : cs ≤ 40 + 7 * k) (hss : ss ≤ 1400 + 107 * k)
    (kk : ∀ (B : w_A) (T : q_S) (h : g_H) (cs ss : Nat), w_I T → w_W E B T T h → cs ≤ 47 + 7 * k → ss ≤ 1507 + 107 * k → g_Go E X lw_fin h false cs ss 1447 [some (.ref b), some (.ref (B 0 0)), some (.ref (B 30 0)), some (.ref (B 29 0)), some (.int (nI (6 * k))), none, none] []) : g_Go E X lw_fin h false cs ss 1281 [some (.ref b), some (.ref (A 0 0)), some (.ref (A 30 0)), some (.ref (A 29 0)), some (.int (nI (6 * k))), none, none] [] := by
  obtain ⟨c, S1, S2, T, HL, HM, hc, t1, t2, hI2⟩ := j_tick hX.tr E hI (xs (6 * k + 1))
  refine g_aload_n hX dL_law_1281 rfl rfl (by first | rfl | exact g_rfr _) 1282 rfl ?_
  refine g_aload_n hX dL_law_1282 rfl rfl (by first | rfl | exact g_rfr _) 1283 rfl ?_
  refine g_iload hX dL_law_1283 rfl 1285 rfl ?_
  refine g_iconst hX dL_law_1285 (v := 1) (by decide) 1286 rfl ?_
  refine g_iadd hX dL_law_1286 1287 rfl ?_
  refine g_ialdT hX dL_law_1287 hT (g_ix.eq (q_off k 1 (d := 1) rfl) (show 6 * k + 1 < L by omega) (by omega)) 1288 rfl ?_
  refine g_cS2 (wt := 0) hX (HL A h hW) dL_law_1288 kL_159 (g_rm.of hR (by decide) (by decide)) (by rw [hR]; show cs + 7 ≤ 601024; omega) (by rw [hR]; show ss + 107 ≤ 7293034; omega) (by first | decide | (simp [Value.category])) (fun q => by cases q) 1291 rfl (fun v9 h hP => ?_) (fun k9 h9 hP => by cases hP.1)
  obtain ⟨hv9, B, hB9, hW1⟩ := hP
  cases hv9
  rw [← hB9.1, ← hB9.2.1, ← hB9.2.2]
  show g_Go E X _ h false _ _ 1291 _ [.int c]
  refine g_istore hX (L' := [_, _, _, _, _, _, _]) dL_law_1291 (Nat.le_of_ble_eq_true rfl) rfl 1293 rfl ?_
  refine g_aload_n hX dL_law_1293 rfl rfl (by first | rfl | exact g_rfr _) 1294 rfl ?_
  refine g_aload_n hX dL_law_1294 rfl rfl (by first | rfl | exact g_rfr _) 1295 rfl ?_
  refine g_iload hX dL_law_1295 rfl 1297 rfl ?_
  refine g_iconst hX dL_law_1297 (v := 1) (by decide) 1298 rfl ?_
  refine g_iadd hX dL_law_1298 1299 rfl ?_
  refine g_ialdT hX dL_law_1299 hT (g_ix.eq (q_off k 1 (d := 1) rfl) (show 6 * k + 1 < L by omega) (by omega)) 1300 rfl ?_
  refine g_cV1 (wt := 0) hX (HM B h hW1) dL_law_1300 (w_m hW1.r) kL_161 (g_rm.of hR (by decide) (by decide)) (by rw [hR]; show _ ≤ 601024; omega) (by rw [hR]; show _ ≤ 7293034; omega) (by first | decide | (simp [Value.category])) (fun q => by cases q) 1303 rfl (fun v9 h hP => ?_) (fun k9 h9 hP => by cases hP.1)
  obtain ⟨hv9, hW2⟩ := hP
  cases hv9
  have hW3 : w_W E B T T h := hW2.cong t1 t2
  show g_Go E X _ h false _ _ 1303 _ []
  refine g_aload_n hX dL_law_1303 rfl rfl (by first | rfl | exact g_rfr _) 1304 rfl ?_
  refine g_cV0r (wt := 0) hX (c_M_thrown hX.tr hW3.r hI2.1) dL_law_1304 (w_m hW3.r) kL_92 (g_rm.of hR (by decide) (by decide)) (by rw [hR]; show _ ≤ 601024; omega) (by rw [hR]; show _ ≤ 7293034; omega) (by first | decide | (simp [Value.category])) 1307 rfl ?_
  rw [show T.2 13 1 = c from (t2.2.2.2.2.2.1).trans hc]
  refine g_iload hX dL_law_1307 rfl 1309 rfl ?_
  refine g_icmp_eq hX dL_law_1309 1314 1312 (by decide) rfl (fun c1309 => ?_) (fun c1309 => ?_)
  · refine g_goto hX dL_law_1314 1447 (by decide) ?_
    refine g_drop (L' := [_, _, _, _, _, none, _]) 5 rfl ?_
    refine g_drop (L' := [_, _, _, _, _, _, none]) 6 rfl ?_
    exact kk B T h _ _ hI2 hW3 (by omega) (by omega)
  · exact absurd rfl c1309
set_option maxRecDepth 100000 in
set_option maxHeartbeats 4000000 in
theorem lo_state {E : g_E} {X : g_X} {nm ds : String} {tb : List (Nat × Nat × Nat × Nat)} (hX : g_ok E X (mLaw nm ds tb)) (hR : X.R = { frames := 14, cells := 601024, slots := 7293034, locals := 520 }) {b L : Nat} {xs : Nat → Int32} (hT : va_T .int b L (fun j => .int (xs j)) (fun q => E.H0.size ≤ q) X.s E.H0) (hL : L ≤ 3072) {k cs ss : Nat} (hk : 6 * k + 6 ≤ L) {A : w_A} {S : q_S} {h : g_H} (hI : w_I S) (hW : w_W E A S S h) (hcs : cs ≤ 40 + 7 * k) (hss : ss ≤ 1400 + 107 * k)
    (kk : ∀ (B : w_A) (T : q_S) (h : g_H) (cs ss : Nat), w_I T → w_W E B T T h → cs ≤ 47 + 7 * k → ss ≤ 1507 + 107 * k → g_Go E X lw_fin h false cs ss 1447 [some (.ref b), some (.ref (B 0 0)), some (.ref (B 30 0)), some (.ref (B 29 0)), some (.int (nI (6 * k))), none, none] []) : g_Go E X lw_fin h false cs ss 1317 [some (.ref b), some (.ref (A 0 0)), some (.ref (A 30 0)), some (.ref (A 29 0)), some (.int (nI (6 * k))), none, none] [] := by
  obtain ⟨v, S1, S2, T, HL, HM, t1, t2, hI2⟩ := j_state hX.tr E hI (xs (6 * k + 1))
  refine g_aload_n hX dL_law_1317 rfl rfl (by first | rfl | exact g_rfr _) 1318 rfl ?_
  refine g_aload_n hX dL_law_1318 rfl rfl (by first | rfl | exact g_rfr _) 1319 rfl ?_
  refine g_iload hX dL_law_1319 rfl 1321 rfl ?_
  refine g_iconst hX dL_law_1321 (v := 1) (by decide) 1322 rfl ?_
  refine g_iadd hX dL_law_1322 1323 rfl ?_
  refine g_ialdT hX dL_law_1323 hT (g_ix.eq (q_off k 1 (d := 1) rfl) (show 6 * k + 1 < L by omega) (by omega)) 1324 rfl ?_
  refine g_cV1 (wt := 0) hX (HL A h hW) dL_law_1324 (w_s hW) kL_162 (g_rm.of hR (by decide) (by decide)) (by rw [hR]; show _ ≤ 601024; omega) (by rw [hR]; show _ ≤ 7293034; omega) (by first | decide | (simp [Value.category])) (fun q => by cases q) 1327 rfl (fun v9 h hP => ?_) (fun k9 h9 hP => by cases hP.1)
  obtain ⟨hv9, B, hB9, hW1⟩ := hP
  cases hv9
  rw [← hB9.1, ← hB9.2.1, ← hB9.2.2]
  show g_Go E X _ h false _ _ 1327 _ [.int v]
  refine g_aload_n hX dL_law_1327 rfl rfl (by first | rfl | exact g_rfr _) 1328 rfl ?_
  refine g_aload_n hX dL_law_1328 rfl rfl (by first | rfl | exact g_rfr _) 1329 rfl ?_
  refine g_iload hX dL_law_1329 rfl 1331 rfl ?_
  refine g_iconst hX dL_law_1331 (v := 1) (by decide) 1332 rfl ?_
  refine g_iadd hX dL_law_1332 1333 rfl ?_
  refine g_ialdT hX dL_law_1333 hT (g_ix.eq (q_off k 1 (d := 1) rfl) (show 6 * k + 1 < L by omega) (by omega)) 1334 rfl ?_
  refine g_cV1 (wt := 1) hX (HM B h hW1) dL_law_1334 (w_m hW1.r) kL_165 (g_rm.of hR (by decide) (by decide)) (by rw [hR]; show _ ≤ 601024; omega) (by rw [hR]; show _ ≤ 7293034; omega) (by first | decide | (simp [Value.category])) (fun q => by cases q) 1337 rfl (fun v9 h hP => ?_) (fun k9 h9 hP => by cases hP.1)
  obtain ⟨hv9, hW2⟩ := hP
  cases hv9
  have hW3 : w_W E B T T h := hW2.cong t1 t2
  show g_Go E X _ h false _ _ 1337 _ [.int v, .int v]
  refine g_icmp_eq hX dL_law_1337 1447 1340 (by decide) rfl (fun c1337 => ?_) (fun c1337 => ?_)
  · refine g_drop (L' := [_, _, _, _, _, none, _]) 5 rfl ?_
    refine g_drop (L' := [_, _, _, _, _, _, none]) 6 rfl ?_
    exact kk B T h _ _ hI2 hW3 (by omega) (by omega)
  · exact absurd rfl c1337
set_option maxRecDepth 100000 in
set_option maxHeartbeats 4000000 in
theorem lo_now {E : g_E} {X : g_X} {nm ds : String} {tb : List (Nat × Nat × Nat × Nat)} (hX : g_ok E X (mLaw nm ds tb)) (hR : X.R = { frames := 14, cells := 601024, slots := 7293034, locals := 520 }) {b L : Nat} {xs : Nat → Int32} (hT : va_T .int b L (fun j => .int (xs j)) (fun q => E.H0.size ≤ q) X.s E.H0) (hL : L ≤ 3072) {k cs ss : Nat} (hk : 6 * k + 6 ≤ L) {A : w_A} {S : q_S} {h : g_H} (hI : w_I S) (hW : w_W E A S S h) (hcs : cs ≤ 40 + 7 * k) (hss : ss ≤ 1400 + 107 * k)
    (kk : ∀ (B : w_A) (T : q_S) (h : g_H) (cs ss : Nat), w_I T → w_W E B T T h → cs ≤ 47 + 7 * k → ss ≤ 1507 + 107 * k → g_Go E X lw_fin h false cs ss 1447 [some (.ref b), some (.ref (B 0 0)), some (.ref (B 30 0)), some (.ref (B 29 0)), some (.int (nI (6 * k))), none, none] []) : g_Go E X lw_fin h false cs ss 1342 [some (.ref b), some (.ref (A 0 0)), some (.ref (A 30 0)), some (.ref (A 29 0)), some (.int (nI (6 * k))), none, none] [] := by
  obtain ⟨c, v, S1, S2, T, HL, HM, hc, hv, t1, t2, hI2⟩ := j_now hX.tr E hI (xs (6 * k + 1)) (xs (6 * k + 2))
  refine g_aload_n hX dL_law_1342 rfl rfl (by first | rfl | exact g_rfr _) 1343 rfl ?_
  refine g_aload_n hX dL_law_1343 rfl rfl (by first | rfl | exact g_rfr _) 1344 rfl ?_
  refine g_iload hX dL_law_1344 rfl 1346 rfl ?_
  refine g_iconst hX dL_law_1346 (v := 1) (by decide) 1347 rfl ?_
  refine g_iadd hX dL_law_1347 1348 rfl ?_
  refine g_ialdT hX dL_law_1348 hT (g_ix.eq (q_off k 1 (d := 1) rfl) (show 6 * k + 1 < L by omega) (by omega)) 1349 rfl ?_
  refine g_aload_n hX dL_law_1349 rfl rfl (by first | rfl | exact g_rfr _) 1350 rfl ?_
  refine g_iload hX dL_law_1350 rfl 1352 rfl ?_
  refine g_iconst hX dL_law_1352 (v := 2) (by decide) 1353 rfl ?_
  refine g_iadd hX dL_law_1353 1354 rfl ?_
  refine g_ialdT hX dL_law_1354 hT (g_ix.eq (q_off k 2 (d := 2) rfl) (show 6 * k + 2 < L by omega) (by omega)) 1355 rfl ?_
  refine g_aload_n hX dL_law_1355 rfl rfl (by first | rfl | exact g_rfr _) 1356 rfl ?_
  refine g_cS4 (wt := 0) hX (HL A h hW) dL_law_1356 kL_166 (g_rm.of hR (by decide) (by decide)) (by rw [hR]; show cs + 7 ≤ 601024; omega) (by rw [hR]; show ss + 107 ≤ 7293034; omega) (by first | decide | (simp [Value.category])) (fun q => by cases q) 1359 rfl (fun v9 h hP => ?_) (fun k9 h9 hP => by cases hP.1)
  obtain ⟨hv9, B, hB9, hW1⟩ := hP
  cases hv9
  rw [← hB9.1, ← hB9.2.1, ← hB9.2.2]
  show g_Go E X _ h false _ _ 1359 _ [.int c]
  refine g_istore hX (L' := [_, _, _, _, _, _, _]) dL_law_1359 (Nat.le_of_ble_eq_true rfl) rfl 1361 rfl ?_
  refine g_aload_n hX dL_law_1361 rfl rfl (by first | rfl | exact g_rfr _) 1362 rfl ?_
  refine g_aload_n hX dL_law_1362 rfl rfl (by first | rfl | exact g_rfr _) 1363 rfl ?_
  refine g_iload hX dL_law_1363 rfl 1365 rfl ?_
  refine g_iconst hX dL_law_1365 (v := 1) (by decide) 1366 rfl ?_
  refine g_iadd hX dL_law_1366 1367 rfl ?_
  refine g_ialdT hX dL_law_1367 hT (g_ix.eq (q_off k 1 (d := 1) rfl) (show 6 * k + 1 < L by omega) (by omega)) 1368 rfl ?_
  refine g_aload_n hX dL_law_1368 rfl rfl (by first | rfl | exact g_rfr _) 1369 rfl ?_
  refine g_iload hX dL_law_1369 rfl 1371 rfl ?_
  refine g_iconst hX dL_law_1371 (v := 2) (by decide) 1372 rfl ?_
  refine g_iadd hX dL_law_1372 1373 rfl ?_
  refine g_ialdT hX dL_law_1373 hT (g_ix.eq (q_off k 2 (d := 2) rfl) (show 6 * k + 2 < L by omega) (by omega)) 1374 rfl ?_
  refine g_cV2 (wt := 0) hX (HM B h hW1) dL_law_1374 (w_m hW1.r) kL_168 (g_rm.of hR (by decide) (by decide)) (by rw [hR]; show _ ≤ 601024; omega) (by rw [hR]; show _ ≤ 7293034; omega) (by first | decide | (simp [Value.category])) (fun q => by cases q) 1377 rfl (fun v9 h hP => ?_) (fun k9 h9 hP => by cases hP.1)
  obtain ⟨hv9, hW2⟩ := hP
  cases hv9
  have hW3 : w_W E B T T h := hW2.cong t1 t2
  show g_Go E X _ h false _ _ 1377 _ [.int v]
  refine g_istore hX (L' := [_, _, _, _, _, _, _]) dL_law_1377 (Nat.le_of_ble_eq_true rfl) rfl 1379 rfl ?_
  refine g_aload_n hX dL_law_1379 rfl rfl (by first | rfl | exact g_rfr _) 1380 rfl ?_
  refine g_cV0r (wt := 0) hX (c_M_thrown hX.tr hW3.r hI2.1) dL_law_1380 (w_m hW3.r) kL_92 (g_rm.of hR (by decide) (by decide)) (by rw [hR]; show _ ≤ 601024; omega) (by rw [hR]; show _ ≤ 7293034; omega) (by first | decide | (simp [Value.category])) 1383 rfl ?_
  rw [show T.2 13 1 = c from (t2.2.2.2.2.2.1).trans hc]
  refine g_iload hX dL_law_1383 rfl 1385 rfl ?_
  refine g_icmp_eq hX dL_law_1385 1390 1388 (by decide) rfl (fun c1385 => ?_) (fun c1385 => ?_)
  · refine g_iload hX dL_law_1390 rfl 1392 rfl ?_
    refine g_if_ne hX dL_law_1392 1407 1395 (by decide) rfl (fun c1392 => ?_) (fun c1392 => ?_)
    · refine g_goto hX dL_law_1407 1447 (by decide) ?_
      refine g_drop (L' := [_, _, _, _, _, none, _]) 5 rfl ?_
      refine g_drop (L' := [_, _, _, _, _, _, none]) 6 rfl ?_
      exact kk B T h _ _ hI2 hW3 (by omega) (by omega)
    · refine g_aload_n hX dL_law_1395 rfl rfl (by first | rfl | exact g_rfr _) 1396 rfl ?_
      refine g_iconst hX dL_law_1396 (v := 0) (by decide) 1397 rfl ?_
      refine g_lald hX dL_law_1397 (w_c hW3 29 0 (by decide) ⟨rfl, by decide⟩) (g_ix.nat (k := 0) (by decide) (by decide)) 1398 rfl ?_
      refine g_iload hX dL_law_1398 rfl 1400 rfl ?_
      refine g_i2l hX dL_law_1400 rfl 1401 rfl ?_
      have hv0 := hv c1392
      have h22 : T.2 22 0 = v := (congrFun t1.2.2.2.2.2.2.2.2.2 0).trans hv0
      refine g_lcmp hX dL_law_1401 1402 rfl ?_
      rw [q_cmp (show (T.2 22 0).toInt64 = v.toInt64 by rw [h22])]
      refine g_if_eq hX dL_law_1402 1407 1405 (by decide) rfl (fun c1402 => ?_) (fun c1402 => ?_)
      · refine g_goto hX dL_law_1407 1447 (by decide) ?_
        refine g_drop (L' := [_, _, _, _, _, none, _]) 5 rfl ?_
        refine g_drop (L' := [_, _, _, _, _, _, none]) 6 rfl ?_
        exact kk B T h _ _ hI2 hW3 (by omega) (by omega)
      · exact absurd rfl c1402
  · exact absurd rfl c1385
set_option maxRecDepth 100000 in
set_option maxHeartbeats 4000000 in
theorem lo_pixel {E : g_E} {X : g_X} {nm ds : String} {tb : List (Nat × Nat × Nat × Nat)} (hX : g_ok E X (mLaw nm ds tb)) (hR : X.R = { frames := 14, cells := 601024, slots := 7293034, locals := 520 }) {b L : Nat} {xs : Nat → Int32} (hT : va_T .int b L (fun j => .int (xs j)) (fun q => E.H0.size ≤ q) X.s E.H0) (hL : L ≤ 3072) {k cs ss : Nat} (hk : 6 * k + 6 ≤ L) {A : w_A} {S : q_S} {h : g_H} (hI : w_I S) (hW : w_W E A S S h) (hcs : cs ≤ 40 + 7 * k) (hss : ss ≤ 1400 + 107 * k)
    (kk : ∀ (B : w_A) (T : q_S) (h : g_H) (cs ss : Nat), w_I T → w_W E B T T h → cs ≤ 47 + 7 * k → ss ≤ 1507 + 107 * k → g_Go E X lw_fin h false cs ss 1447 [some (.ref b), some (.ref (B 0 0)), some (.ref (B 30 0)), some (.ref (B 29 0)), some (.int (nI (6 * k))), none, none] []) : g_Go E X lw_fin h false cs ss 1410 [some (.ref b), some (.ref (A 0 0)), some (.ref (A 30 0)), some (.ref (A 29 0)), some (.int (nI (6 * k))), none, none] [] := by
  obtain ⟨v, S1, S2, T, HL, HM, t1, t2, hI2⟩ := j_pixel hX.tr E hI (xs (6 * k + 1)) (xs (6 * k + 2))
  refine g_aload_n hX dL_law_1410 rfl rfl (by first | rfl | exact g_rfr _) 1411 rfl ?_
  refine g_aload_n hX dL_law_1411 rfl rfl (by first | rfl | exact g_rfr _) 1412 rfl ?_
  refine g_iload hX dL_law_1412 rfl 1414 rfl ?_
  refine g_iconst hX dL_law_1414 (v := 1) (by decide) 1415 rfl ?_
  refine g_iadd hX dL_law_1415 1416 rfl ?_
  refine g_ialdT hX dL_law_1416 hT (g_ix.eq (q_off k 1 (d := 1) rfl) (show 6 * k + 1 < L by omega) (by omega)) 1417 rfl ?_
  refine g_aload_n hX dL_law_1417 rfl rfl (by first | rfl | exact g_rfr _) 1418 rfl ?_
  refine g_iload hX dL_law_1418 rfl 1420 rfl ?_
  refine g_iconst hX dL_law_1420 (v := 2) (by decide) 1421 rfl ?_
  refine g_iadd hX dL_law_1421 1422 rfl ?_
  refine g_ialdT hX dL_law_1422 hT (g_ix.eq (q_off k 2 (d := 2) rfl) (show 6 * k + 2 < L by omega) (by omega)) 1423 rfl ?_
  refine g_cV2 (wt := 0) hX (HL A h hW) dL_law_1423 (w_s hW) kL_169 (g_rm.of hR (by decide) (by decide)) (by rw [hR]; show _ ≤ 601024; omega) (by rw [hR]; show _ ≤ 7293034; omega) (by first | decide | (simp [Value.category])) (fun q => by cases q) 1426 rfl (fun v9 h hP => ?_) (fun k9 h9 hP => by cases hP.1)
  obtain ⟨hv9, B, hB9, hW1⟩ := hP
  cases hv9
  rw [← hB9.1, ← hB9.2.1, ← hB9.2.2]
  show g_Go E X _ h false _ _ 1426 _ [.int v]
  refine g_aload_n hX dL_law_1426 rfl rfl (by first | rfl | exact g_rfr _) 1427 rfl ?_
  refine g_aload_n hX dL_law_1427 rfl rfl (by first | rfl | exact g_rfr _) 1428 rfl ?_
  refine g_iload hX dL_law_1428 rfl 1430 rfl ?_
  refine g_iconst hX dL_law_1430 (v := 1) (by decide) 1431 rfl ?_
  refine g_iadd hX dL_law_1431 1432 rfl ?_
  refine g_ialdT hX dL_law_1432 hT (g_ix.eq (q_off k 1 (d := 1) rfl) (show 6 * k + 1 < L by omega) (by omega)) 1433 rfl ?_
  refine g_aload_n hX dL_law_1433 rfl rfl (by first | rfl | exact g_rfr _) 1434 rfl ?_
  refine g_iload hX dL_law_1434 rfl 1436 rfl ?_
  refine g_iconst hX dL_law_1436 (v := 2) (by decide) 1437 rfl ?_
  refine g_iadd hX dL_law_1437 1438 rfl ?_
  refine g_ialdT hX dL_law_1438 hT (g_ix.eq (q_off k 2 (d := 2) rfl) (show 6 * k + 2 < L by omega) (by omega)) 1439 rfl ?_
  refine g_cV2 (wt := 1) hX (HM B h hW1) dL_law_1439 (w_m hW1.r) kL_172 (g_rm.of hR (by decide) (by decide)) (by rw [hR]; show _ ≤ 601024; omega) (by rw [hR]; show _ ≤ 7293034; omega) (by first | decide | (simp [Value.category])) (fun q => by cases q) 1442 rfl (fun v9 h hP => ?_) (fun k9 h9 hP => by cases hP.1)
  obtain ⟨hv9, hW2⟩ := hP
  cases hv9
  have hW3 : w_W E B T T h := hW2.cong t1 t2
  show g_Go E X _ h false _ _ 1442 _ [.int v, .int v]
  refine g_icmp_eq hX dL_law_1442 1447 1445 (by decide) rfl (fun c1442 => ?_) (fun c1442 => ?_)
  · refine g_drop (L' := [_, _, _, _, _, none, _]) 5 rfl ?_
    refine g_drop (L' := [_, _, _, _, _, _, none]) 6 rfl ?_
    exact kk B T h _ _ hI2 hW3 (by omega) (by omega)
  · exact absurd rfl c1442
