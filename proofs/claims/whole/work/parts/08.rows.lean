section GROWS
variable {E : g_E} {X : g_X} {M : g_M} {P : g_P} {h : g_H} {z : Bool} {cs ss pc : Nat} {L : List (Option Value)} {rest : List Value}
theorem g_iconst (hX : g_ok E X M) {n : Int} {v : Int32} (hdg : decode M.cc pc = .ok (.iconst n, 1)) (hv : Int32.ofInt n = v) (pn : Nat) (hpn : pc + 1 = pn)
    (k : g_Go E X P h z cs ss pn L (.int v :: rest)) : g_Go E X P h z cs ss pc L rest := by
  subst hpn
  exact fun H locs ls hV hB hl hL hz => lv_iconst hX.exec hX.code hdg hv (k H locs ls hV hB hl hL hz)
theorem g_bipush (hX : g_ok E X M) {n : Int} {v : Int32} (hdg : decode M.cc pc = .ok (.bipush n, 2)) (hv : (Int8.ofInt n).toInt32 = v) (pn : Nat) (hpn : pc + 2 = pn)
    (k : g_Go E X P h z cs ss pn L (.int v :: rest)) : g_Go E X P h z cs ss pc L rest := by
  subst hpn
  exact fun H locs ls hV hB hl hL hz => lv_bipush hX.exec hX.code hdg hv (k H locs ls hV hB hl hL hz)
theorem g_sipush (hX : g_ok E X M) {n : Int} {v : Int32} (hdg : decode M.cc pc = .ok (.sipush n, 3)) (hv : (Int16.ofInt n).toInt32 = v) (pn : Nat) (hpn : pc + 3 = pn)
    (k : g_Go E X P h z cs ss pn L (.int v :: rest)) : g_Go E X P h z cs ss pc L rest := by
  subst hpn
  exact fun H locs ls hV hB hl hL hz => lv_sipush hX.exec hX.code hdg hv (k H locs ls hV hB hl hL hz)
theorem g_lconst (hX : g_ok E X M) {n : Fin 2} {v : Int64} (hdg : decode M.cc pc = .ok (.lconst n, 1)) (hv : Int64.ofNat (n : Nat) = v) (pn : Nat) (hpn : pc + 1 = pn)
    (k : g_Go E X P h z cs ss pn L (.long v :: rest)) : g_Go E X P h z cs ss pc L rest := by
  subst hpn
  exact fun H locs ls hV hB hl hL hz => lv_lconst hX.exec hX.code hdg hv (k H locs ls hV hB hl hL hz)
theorem g_null (hX : g_ok E X M)  (hdg : decode M.cc pc = .ok (.aconst_null, 1))  (pn : Nat) (hpn : pc + 1 = pn)
    (k : g_Go E X P h z cs ss pn L (.null :: rest)) : g_Go E X P h z cs ss pc L rest := by
  subst hpn
  exact fun H locs ls hV hB hl hL hz => lv_null hX.exec hX.code hdg (k H locs ls hV hB hl hL hz)
theorem g_ldc (hX : g_ok E X M) {index : Nat} {v : Int32} (hdg : decode M.cc pc = .ok (.ldc index, 2)) (hw : Cond.constant M.y.cls index v ∈ g_wl) (pn : Nat) (hpn : pc + 2 = pn)
    (k : g_Go E X P h z cs ss pn L (.int v :: rest)) : g_Go E X P h z cs ss pc L rest := by
  subst hpn
  exact fun H locs ls hV hB hl hL hz => lv_ldc hX.exec hX.code hX.own (hX.w hw) hdg (k H locs ls hV hB hl hL hz)
theorem g_iload_n (hX : g_ok E X M) {k : Fin 4} {i : Nat} {x : Int32} (hdg : decode M.cc pc = .ok (.iload_n k, 1)) (hi : (k : Nat) = i) (hl : L[i]? = some (some (.int x))) (pn : Nat) (hpn : pc + 1 = pn)
    (k : g_Go E X P h z cs ss pn L (.int x :: rest)) : g_Go E X P h z cs ss pc L rest := by
  subst hpn
  exact fun H locs ls hV hB hlo hL hz => lv_iload_n hX.exec hX.code hdg hi (hL.get hl) (k H locs ls hV hB hlo hL hz)
theorem g_iload (hX : g_ok E X M) {i : Nat} {x : Int32} (hdg : decode M.cc pc = .ok (.iload i, 2)) (hl : L[i]? = some (some (.int x))) (pn : Nat) (hpn : pc + 2 = pn)
    (k : g_Go E X P h z cs ss pn L (.int x :: rest)) : g_Go E X P h z cs ss pc L rest := by
  subst hpn
  exact fun H locs ls hV hB hlo hL hz => lv_iload hX.exec hX.code hdg (hL.get hl) (k H locs ls hV hB hlo hL hz)
theorem g_aload_n (hX : g_ok E X M) {k : Fin 4} {i : Nat} {v : Value} (hdg : decode M.cc pc = .ok (.aload_n k, 1)) (hi : (k : Nat) = i) (hl : L[i]? = some (some v)) (hr : v.isRef = true) (pn : Nat) (hpn : pc + 1 = pn)
    (kk : g_Go E X P h z cs ss pn L (v :: rest)) : g_Go E X P h z cs ss pc L rest := by
  subst hpn
  intro H locs ls hV hB hlo hL hz
  cases v with
  | ref a => exact lv_aload_n hX.exec hX.code hdg hi (hL.get hl) (kk H locs ls hV hB hlo hL hz)
  | null => exact lv_aload_nN hX.exec hX.code hdg hi (hL.get hl) (kk H locs ls hV hB hlo hL hz)
  | int _ => cases hr
  | long _ => cases hr
  | float _ => cases hr
  | double _ => cases hr
  | retAddr _ => cases hr
theorem g_aload (hX : g_ok E X M) {i : Nat} {v : Value} (hdg : decode M.cc pc = .ok (.aload i, 2)) (hl : L[i]? = some (some v)) (hr : v.isRef = true) (pn : Nat) (hpn : pc + 2 = pn)
    (kk : g_Go E X P h z cs ss pn L (v :: rest)) : g_Go E X P h z cs ss pc L rest := by
  subst hpn
  intro H locs ls hV hB hlo hL hz
  cases v with
  | ref a => exact lv_aload hX.exec hX.code hdg (hL.get hl) (kk H locs ls hV hB hlo hL hz)
  | null => exact lv_aloadN hX.exec hX.code hdg (hL.get hl) (kk H locs ls hV hB hlo hL hz)
  | int _ => cases hr
  | long _ => cases hr
  | float _ => cases hr
  | double _ => cases hr
  | retAddr _ => cases hr
theorem g_istore_n (hX : g_ok E X M) {k : Fin 4} {i : Nat} {x : Int32} {L' : List (Option Value)} (hdg : decode M.cc pc = .ok (.istore_n k, 1)) (hi : (k : Nat) = i) (hn : i < M.nl) (hs : L.set i (some (.int x)) = L') (pn : Nat) (hpn : pc + 1 = pn)
    (kk : g_Go E X P h z cs ss pn L' rest) : g_Go E X P h z cs ss pc L (.int x :: rest) := by
  subst hpn
  subst hi
  subst hs
  intro H locs ls hV hB hlo hL hz
  have hexec := hX.exec
  have hb := hX.code
  obtain ⟨ls', e', h'⟩ := hL.store (v := .int x) (by rw [hX.nl]; exact hn) rfl
  intro T hT X'
  obtain ⟨t, a, b⟩ := kk H locs ls' hV hB hlo h' hz T hT X'
  refine ⟨t, ?_, b⟩
  jvm_step X'.here [X'.here.top, ↓top_set X'.here.top, hexec, hb, hdg, e']
  exact a
theorem g_istore (hX : g_ok E X M) {i : Nat} {x : Int32} {L' : List (Option Value)} (hdg : decode M.cc pc = .ok (.istore i, 2))  (hn : i < M.nl) (hs : L.set i (some (.int x)) = L') (pn : Nat) (hpn : pc + 2 = pn)
    (kk : g_Go E X P h z cs ss pn L' rest) : g_Go E X P h z cs ss pc L (.int x :: rest) := by
  subst hpn
  subst hs
  intro H locs ls hV hB hlo hL hz
  have hexec := hX.exec
  have hb := hX.code
  obtain ⟨ls', e', h'⟩ := hL.store (v := .int x) (by rw [hX.nl]; exact hn) rfl
  intro T hT X'
  obtain ⟨t, a, b⟩ := kk H locs ls' hV hB hlo h' hz T hT X'
  refine ⟨t, ?_, b⟩
  jvm_step X'.here [X'.here.top, ↓top_set X'.here.top, hexec, hb, hdg, e']
  exact a
theorem g_astore_n (hX : g_ok E X M) {k : Fin 4} {i : Nat} {v : Value} {L' : List (Option Value)} (hdg : decode M.cc pc = .ok (.astore_n k, 1)) (hi : (k : Nat) = i) (hn : i < M.nl) (hr : v.isRef = true) (hs : L.set i (some v) = L') (pn : Nat) (hpn : pc + 1 = pn)
    (kk : g_Go E X P h z cs ss pn L' rest) : g_Go E X P h z cs ss pc L (v :: rest) := by
  subst hpn
  subst hi
  subst hs
  intro H locs ls hV hB hlo hL hz
  have hexec := hX.exec
  have hb := hX.code
  cases v with
  | ref x => 
    obtain ⟨ls', e', h'⟩ := hL.store (v := .ref x) (by rw [hX.nl]; exact hn) rfl
    intro T hT X'
    obtain ⟨t, a, b⟩ := kk H locs ls' hV hB hlo h' hz T hT X'
    refine ⟨t, ?_, b⟩
    jvm_step X'.here [X'.here.top, ↓top_set X'.here.top, hexec, hb, hdg, e', Value.isRef]
    exact a
  | null => 
    obtain ⟨ls', e', h'⟩ := hL.store (v := .null) (by rw [hX.nl]; exact hn) rfl
    intro T hT X'
    obtain ⟨t, a, b⟩ := kk H locs ls' hV hB hlo h' hz T hT X'
    refine ⟨t, ?_, b⟩
    jvm_step X'.here [X'.here.top, ↓top_set X'.here.top, hexec, hb, hdg, e', Value.isRef]
    exact a
  | int _ => cases hr
  | long _ => cases hr
  | float _ => cases hr
  | double _ => cases hr
  | retAddr _ => cases hr
theorem g_astore (hX : g_ok E X M) {i : Nat} {v : Value} {L' : List (Option Value)} (hdg : decode M.cc pc = .ok (.astore i, 2))  (hn : i < M.nl) (hr : v.isRef = true) (hs : L.set i (some v) = L') (pn : Nat) (hpn : pc + 2 = pn)
    (kk : g_Go E X P h z cs ss pn L' rest) : g_Go E X P h z cs ss pc L (v :: rest) := by
  subst hpn
  subst hs
  intro H locs ls hV hB hlo hL hz
  have hexec := hX.exec
  have hb := hX.code
  cases v with
  | ref x => 
    obtain ⟨ls', e', h'⟩ := hL.store (v := .ref x) (by rw [hX.nl]; exact hn) rfl
    intro T hT X'
    obtain ⟨t, a, b⟩ := kk H locs ls' hV hB hlo h' hz T hT X'
    refine ⟨t, ?_, b⟩
    jvm_step X'.here [X'.here.top, ↓top_set X'.here.top, hexec, hb, hdg, e', Value.isRef]
    exact a
  | null => 
    obtain ⟨ls', e', h'⟩ := hL.store (v := .null) (by rw [hX.nl]; exact hn) rfl
    intro T hT X'
    obtain ⟨t, a, b⟩ := kk H locs ls' hV hB hlo h' hz T hT X'
    refine ⟨t, ?_, b⟩
    jvm_step X'.here [X'.here.top, ↓top_set X'.here.top, hexec, hb, hdg, e', Value.isRef]
    exact a
  | int _ => cases hr
  | long _ => cases hr
  | float _ => cases hr
  | double _ => cases hr
  | retAddr _ => cases hr
theorem g_iinc (hX : g_ok E X M) {i : Nat} {n : Int} {x v : Int32} {L' : List (Option Value)} (hdg : decode M.cc pc = .ok (.iinc i n, 3)) (hl : L[i]? = some (some (.int x))) (hv : x + Int32.ofInt n = v) (hs : L.set i (some (.int v)) = L') (pn : Nat) (hpn : pc + 3 = pn)
    (kk : g_Go E X P h z cs ss pn L' rest) : g_Go E X P h z cs ss pc L rest := by
  subst hpn
  subst hs
  intro H locs ls hV hB hlo hL hz
  subst hv
  have hi : i < X.c.maxLocals := hL.lt hl
  have hg := hL.get hl
  have hexec := hX.exec
  have hb := hX.code
  obtain ⟨ls', e', h'⟩ := hL.store (v := .int (x + Int32.ofInt n)) hi rfl
  intro T hT X'
  obtain ⟨t, a, b⟩ := kk H locs ls' hV hB hlo h' hz T hT X'
  refine ⟨t, ?_, b⟩
  jvm_step X'.here [X'.here.top, ↓top_set X'.here.top, hexec, hb, hdg, hg, e']
  exact a
theorem g_iadd (hX : g_ok E X M) {x y : Int32} (hdg : decode M.cc pc = .ok (.iadd, 1))  (pn : Nat) (hpn : pc + 1 = pn)
    (k : g_Go E X P h z cs ss pn L (.int (x + y) :: rest)) : g_Go E X P h z cs ss pc L (.int y :: .int x :: rest) := by
  subst hpn
  exact fun H locs ls hV hB hl hL hz => lv_iadd hX.exec hX.code hdg (k H locs ls hV hB hl hL hz)
theorem g_isub (hX : g_ok E X M) {x y : Int32} (hdg : decode M.cc pc = .ok (.isub, 1))  (pn : Nat) (hpn : pc + 1 = pn)
    (k : g_Go E X P h z cs ss pn L (.int (x - y) :: rest)) : g_Go E X P h z cs ss pc L (.int y :: .int x :: rest) := by
  subst hpn
  exact fun H locs ls hV hB hl hL hz => lv_isub hX.exec hX.code hdg (k H locs ls hV hB hl hL hz)
theorem g_imul (hX : g_ok E X M) {x y : Int32} (hdg : decode M.cc pc = .ok (.imul, 1))  (pn : Nat) (hpn : pc + 1 = pn)
    (k : g_Go E X P h z cs ss pn L (.int (x * y) :: rest)) : g_Go E X P h z cs ss pc L (.int y :: .int x :: rest) := by
  subst hpn
  exact fun H locs ls hV hB hl hL hz => lv_imul hX.exec hX.code hdg (k H locs ls hV hB hl hL hz)
theorem g_iand (hX : g_ok E X M) {x y : Int32} (hdg : decode M.cc pc = .ok (.iand, 1))  (pn : Nat) (hpn : pc + 1 = pn)
    (k : g_Go E X P h z cs ss pn L (.int (x &&& y) :: rest)) : g_Go E X P h z cs ss pc L (.int y :: .int x :: rest) := by
  subst hpn
  exact fun H locs ls hV hB hl hL hz => lv_iand hX.exec hX.code hdg (k H locs ls hV hB hl hL hz)
theorem g_ior (hX : g_ok E X M) {x y : Int32} (hdg : decode M.cc pc = .ok (.ior, 1))  (pn : Nat) (hpn : pc + 1 = pn)
    (k : g_Go E X P h z cs ss pn L (.int (x ||| y) :: rest)) : g_Go E X P h z cs ss pc L (.int y :: .int x :: rest) := by
  subst hpn
  exact fun H locs ls hV hB hl hL hz => lv_ior hX.exec hX.code hdg (k H locs ls hV hB hl hL hz)
theorem g_ishl (hX : g_ok E X M) {x y : Int32} (hdg : decode M.cc pc = .ok (.ishl, 1))  (pn : Nat) (hpn : pc + 1 = pn)
    (k : g_Go E X P h z cs ss pn L (.int (x <<< (y &&& 31)) :: rest)) : g_Go E X P h z cs ss pc L (.int y :: .int x :: rest) := by
  subst hpn
  exact fun H locs ls hV hB hl hL hz => lv_ishl hX.exec hX.code hdg (k H locs ls hV hB hl hL hz)
theorem g_ishr (hX : g_ok E X M) {x y : Int32} (hdg : decode M.cc pc = .ok (.ishr, 1))  (pn : Nat) (hpn : pc + 1 = pn)
    (k : g_Go E X P h z cs ss pn L (.int (x >>> (y &&& 31)) :: rest)) : g_Go E X P h z cs ss pc L (.int y :: .int x :: rest) := by
  subst hpn
  exact fun H locs ls hV hB hl hL hz => lv_ishr hX.exec hX.code hdg (k H locs ls hV hB hl hL hz)
theorem g_iushr (hX : g_ok E X M) {x y v : Int32} (hdg : decode M.cc pc = .ok (.iushr, 1)) (hv : (x.toUInt32 >>> (y.toUInt32 &&& Int32.toUInt32 31)).toInt32 = v) (pn : Nat) (hpn : pc + 1 = pn)
    (k : g_Go E X P h z cs ss pn L (.int v :: rest)) : g_Go E X P h z cs ss pc L (.int y :: .int x :: rest) := by
  subst hpn
  exact fun H locs ls hV hB hl hL hz => lv_iushr hX.exec hX.code hdg hv (k H locs ls hV hB hl hL hz)
theorem g_idiv (hX : g_ok E X M) {x y : Int32} (hdg : decode M.cc pc = .ok (.idiv, 1)) (hne : ¬ y = 0) (pn : Nat) (hpn : pc + 1 = pn)
    (k : g_Go E X P h z cs ss pn L (.int (x / y) :: rest)) : g_Go E X P h z cs ss pc L (.int y :: .int x :: rest) := by
  subst hpn
  exact fun H locs ls hV hB hl hL hz => lv_idiv hX.exec hX.code hdg hne (k H locs ls hV hB hl hL hz)
theorem g_ineg (hX : g_ok E X M) {x : Int32} (hdg : decode M.cc pc = .ok (.ineg, 1))  (pn : Nat) (hpn : pc + 1 = pn)
    (k : g_Go E X P h z cs ss pn L (.int (-x) :: rest)) : g_Go E X P h z cs ss pc L (.int x :: rest) := by
  subst hpn
  exact fun H locs ls hV hB hl hL hz => lv_ineg hX.exec hX.code hdg (k H locs ls hV hB hl hL hz)
theorem g_i2l (hX : g_ok E X M) {x : Int32} {v : Int64} (hdg : decode M.cc pc = .ok (.i2l, 1)) (hv : x.toInt64 = v) (pn : Nat) (hpn : pc + 1 = pn)
    (k : g_Go E X P h z cs ss pn L (.long v :: rest)) : g_Go E X P h z cs ss pc L (.int x :: rest) := by
  subst hpn
  exact fun H locs ls hV hB hl hL hz => lv_i2l hX.exec hX.code hdg hv (k H locs ls hV hB hl hL hz)
theorem g_lcmp (hX : g_ok E X M) {x y : Int64} (hdg : decode M.cc pc = .ok (.lcmp, 1))  (pn : Nat) (hpn : pc + 1 = pn)
    (k : g_Go E X P h z cs ss pn L (.int (lg_cmp x y) :: rest)) : g_Go E X P h z cs ss pc L (.long y :: .long x :: rest) := by
  subst hpn
  exact fun H locs ls hV hB hl hL hz => W.lcmp hX.exec hX.code hdg (k H locs ls hV hB hl hL hz)
theorem g_dup (hX : g_ok E X M) {va : Value} (hdg : decode M.cc pc = .ok (.dup, 1)) (hva : va.category = 1) (pn : Nat) (hpn : pc + 1 = pn)
    (k : g_Go E X P h z cs ss pn L (va :: va :: rest)) : g_Go E X P h z cs ss pc L (va :: rest) := by
  subst hpn
  exact fun H locs ls hV hB hl hL hz => lv_dup hX.exec hX.code hdg hva (k H locs ls hV hB hl hL hz)
theorem g_pop (hX : g_ok E X M) {va : Value} (hdg : decode M.cc pc = .ok (.pop, 1)) (hva : va.category = 1) (pn : Nat) (hpn : pc + 1 = pn)
    (k : g_Go E X P h z cs ss pn L rest) : g_Go E X P h z cs ss pc L (va :: rest) := by
  subst hpn
  exact fun H locs ls hV hB hl hL hz => lv_pop hX.exec hX.code hdg hva (k H locs ls hV hB hl hL hz)
theorem g_dup_x1 (hX : g_ok E X M) {va vb : Value} (hdg : decode M.cc pc = .ok (.dup_x1, 1)) (hva : va.category = 1) (hvb : vb.category = 1) (pn : Nat) (hpn : pc + 1 = pn)
    (k : g_Go E X P h z cs ss pn L (va :: vb :: va :: rest)) : g_Go E X P h z cs ss pc L (va :: vb :: rest) := by
  subst hpn
  exact fun H locs ls hV hB hl hL hz => lv_dup_x1 hX.exec hX.code hdg hva hvb (k H locs ls hV hB hl hL hz)
theorem g_dup2 (hX : g_ok E X M) {va vb : Value} (hdg : decode M.cc pc = .ok (.dup2, 1)) (hva : va.category = 1) (hvb : vb.category = 1) (pn : Nat) (hpn : pc + 1 = pn)
    (k : g_Go E X P h z cs ss pn L (va :: vb :: va :: vb :: rest)) : g_Go E X P h z cs ss pc L (va :: vb :: rest) := by
  subst hpn
  exact fun H locs ls hV hB hl hL hz => lv_dup2_11 hX.exec hX.code hdg hva hvb (k H locs ls hV hB hl hL hz)
theorem g_if_eq (hX : g_ok E X M) {x : Int32} {off : Int} (hdg : decode M.cc pc = .ok (.ifCond .eq off, 3)) (tgt pn : Nat) (ht : (pc : Int) + off = (tgt : Int)) (hpn : pc + 3 = pn)
    (kt : x = 0 → g_Go E X P h z cs ss tgt L rest) (kf : ¬ x = 0 → g_Go E X P h z cs ss pn L rest) : g_Go E X P h z cs ss pc L (.int x :: rest) := by
  subst hpn
  exact fun H locs ls hV hB hl hL hz => lv_if_eq hX.exec hX.code hdg ht (fun q => kt q H locs ls hV hB hl hL hz) (fun q => kf q H locs ls hV hB hl hL hz)
theorem g_icmp_eq (hX : g_ok E X M) {x y : Int32} {off : Int} (hdg : decode M.cc pc = .ok (.if_icmp .eq off, 3)) (tgt pn : Nat) (ht : (pc : Int) + off = (tgt : Int)) (hpn : pc + 3 = pn)
    (kt : x = y → g_Go E X P h z cs ss tgt L rest) (kf : ¬ x = y → g_Go E X P h z cs ss pn L rest) : g_Go E X P h z cs ss pc L (.int y :: .int x :: rest) := by
  subst hpn
  exact fun H locs ls hV hB hl hL hz => lv_icmp_eq hX.exec hX.code hdg ht (fun q => kt q H locs ls hV hB hl hL hz) (fun q => kf q H locs ls hV hB hl hL hz)
theorem g_if_ne (hX : g_ok E X M) {x : Int32} {off : Int} (hdg : decode M.cc pc = .ok (.ifCond .ne off, 3)) (tgt pn : Nat) (ht : (pc : Int) + off = (tgt : Int)) (hpn : pc + 3 = pn)
    (kt : ¬ x = 0 → g_Go E X P h z cs ss tgt L rest) (kf : x = 0 → g_Go E X P h z cs ss pn L rest) : g_Go E X P h z cs ss pc L (.int x :: rest) := by
  subst hpn
  exact fun H locs ls hV hB hl hL hz => lv_if_ne hX.exec hX.code hdg ht (fun q => kt q H locs ls hV hB hl hL hz) (fun q => kf q H locs ls hV hB hl hL hz)
theorem g_icmp_ne (hX : g_ok E X M) {x y : Int32} {off : Int} (hdg : decode M.cc pc = .ok (.if_icmp .ne off, 3)) (tgt pn : Nat) (ht : (pc : Int) + off = (tgt : Int)) (hpn : pc + 3 = pn)
    (kt : ¬ x = y → g_Go E X P h z cs ss tgt L rest) (kf : x = y → g_Go E X P h z cs ss pn L rest) : g_Go E X P h z cs ss pc L (.int y :: .int x :: rest) := by
  subst hpn
  exact fun H locs ls hV hB hl hL hz => lv_icmp_ne hX.exec hX.code hdg ht (fun q => kt q H locs ls hV hB hl hL hz) (fun q => kf q H locs ls hV hB hl hL hz)
theorem g_if_lt (hX : g_ok E X M) {x : Int32} {off : Int} (hdg : decode M.cc pc = .ok (.ifCond .lt off, 3)) (tgt pn : Nat) (ht : (pc : Int) + off = (tgt : Int)) (hpn : pc + 3 = pn)
    (kt : x < 0 → g_Go E X P h z cs ss tgt L rest) (kf : ¬ x < 0 → g_Go E X P h z cs ss pn L rest) : g_Go E X P h z cs ss pc L (.int x :: rest) := by
  subst hpn
  exact fun H locs ls hV hB hl hL hz => lv_if_lt hX.exec hX.code hdg ht (fun q => kt q H locs ls hV hB hl hL hz) (fun q => kf q H locs ls hV hB hl hL hz)
theorem g_icmp_lt (hX : g_ok E X M) {x y : Int32} {off : Int} (hdg : decode M.cc pc = .ok (.if_icmp .lt off, 3)) (tgt pn : Nat) (ht : (pc : Int) + off = (tgt : Int)) (hpn : pc + 3 = pn)
    (kt : x < y → g_Go E X P h z cs ss tgt L rest) (kf : ¬ x < y → g_Go E X P h z cs ss pn L rest) : g_Go E X P h z cs ss pc L (.int y :: .int x :: rest) := by
  subst hpn
  exact fun H locs ls hV hB hl hL hz => lv_icmp_lt hX.exec hX.code hdg ht (fun q => kt q H locs ls hV hB hl hL hz) (fun q => kf q H locs ls hV hB hl hL hz)
theorem g_if_ge (hX : g_ok E X M) {x : Int32} {off : Int} (hdg : decode M.cc pc = .ok (.ifCond .ge off, 3)) (tgt pn : Nat) (ht : (pc : Int) + off = (tgt : Int)) (hpn : pc + 3 = pn)
    (kt : 0 ≤ x → g_Go E X P h z cs ss tgt L rest) (kf : ¬ 0 ≤ x → g_Go E X P h z cs ss pn L rest) : g_Go E X P h z cs ss pc L (.int x :: rest) := by
  subst hpn
  exact fun H locs ls hV hB hl hL hz => lv_if_ge hX.exec hX.code hdg ht (fun q => kt q H locs ls hV hB hl hL hz) (fun q => kf q H locs ls hV hB hl hL hz)
theorem g_icmp_ge (hX : g_ok E X M) {x y : Int32} {off : Int} (hdg : decode M.cc pc = .ok (.if_icmp .ge off, 3)) (tgt pn : Nat) (ht : (pc : Int) + off = (tgt : Int)) (hpn : pc + 3 = pn)
    (kt : y ≤ x → g_Go E X P h z cs ss tgt L rest) (kf : ¬ y ≤ x → g_Go E X P h z cs ss pn L rest) : g_Go E X P h z cs ss pc L (.int y :: .int x :: rest) := by
  subst hpn
  exact fun H locs ls hV hB hl hL hz => lv_icmp_ge hX.exec hX.code hdg ht (fun q => kt q H locs ls hV hB hl hL hz) (fun q => kf q H locs ls hV hB hl hL hz)
theorem g_if_gt (hX : g_ok E X M) {x : Int32} {off : Int} (hdg : decode M.cc pc = .ok (.ifCond .gt off, 3)) (tgt pn : Nat) (ht : (pc : Int) + off = (tgt : Int)) (hpn : pc + 3 = pn)
    (kt : 0 < x → g_Go E X P h z cs ss tgt L rest) (kf : ¬ 0 < x → g_Go E X P h z cs ss pn L rest) : g_Go E X P h z cs ss pc L (.int x :: rest) := by
  subst hpn
  exact fun H locs ls hV hB hl hL hz => lv_if_gt hX.exec hX.code hdg ht (fun q => kt q H locs ls hV hB hl hL hz) (fun q => kf q H locs ls hV hB hl hL hz)
theorem g_icmp_gt (hX : g_ok E X M) {x y : Int32} {off : Int} (hdg : decode M.cc pc = .ok (.if_icmp .gt off, 3)) (tgt pn : Nat) (ht : (pc : Int) + off = (tgt : Int)) (hpn : pc + 3 = pn)
    (kt : y < x → g_Go E X P h z cs ss tgt L rest) (kf : ¬ y < x → g_Go E X P h z cs ss pn L rest) : g_Go E X P h z cs ss pc L (.int y :: .int x :: rest) := by
  subst hpn
  exact fun H locs ls hV hB hl hL hz => lv_icmp_gt hX.exec hX.code hdg ht (fun q => kt q H locs ls hV hB hl hL hz) (fun q => kf q H locs ls hV hB hl hL hz)
theorem g_if_le (hX : g_ok E X M) {x : Int32} {off : Int} (hdg : decode M.cc pc = .ok (.ifCond .le off, 3)) (tgt pn : Nat) (ht : (pc : Int) + off = (tgt : Int)) (hpn : pc + 3 = pn)
    (kt : x ≤ 0 → g_Go E X P h z cs ss tgt L rest) (kf : ¬ x ≤ 0 → g_Go E X P h z cs ss pn L rest) : g_Go E X P h z cs ss pc L (.int x :: rest) := by
  subst hpn
  exact fun H locs ls hV hB hl hL hz => lv_if_le hX.exec hX.code hdg ht (fun q => kt q H locs ls hV hB hl hL hz) (fun q => kf q H locs ls hV hB hl hL hz)
theorem g_icmp_le (hX : g_ok E X M) {x y : Int32} {off : Int} (hdg : decode M.cc pc = .ok (.if_icmp .le off, 3)) (tgt pn : Nat) (ht : (pc : Int) + off = (tgt : Int)) (hpn : pc + 3 = pn)
    (kt : x ≤ y → g_Go E X P h z cs ss tgt L rest) (kf : ¬ x ≤ y → g_Go E X P h z cs ss pn L rest) : g_Go E X P h z cs ss pc L (.int y :: .int x :: rest) := by
  subst hpn
  exact fun H locs ls hV hB hl hL hz => lv_icmp_le hX.exec hX.code hdg ht (fun q => kt q H locs ls hV hB hl hL hz) (fun q => kf q H locs ls hV hB hl hL hz)
theorem g_goto (hX : g_ok E X M) {off : Int} (hdg : decode M.cc pc = .ok (.goto off, 3)) (tgt : Nat) (ht : (pc : Int) + off = (tgt : Int)) (k : g_Go E X P h z cs ss tgt L rest) : g_Go E X P h z cs ss pc L rest :=
  fun H locs ls hV hB hl hL hz => lv_goto hX.exec hX.code hdg ht (k H locs ls hV hB hl hL hz)
theorem g_ifnull (hX : g_ok E X M) {r : Option Nat} {off : Int} (hdg : decode M.cc pc = .ok (.ifnull off, 3)) (tgt pn : Nat) (ht : (pc : Int) + off = (tgt : Int)) (hpn : pc + 3 = pn)
    (kt : r = none → g_Go E X P h z cs ss tgt L rest) (kf : ∀ a, r = some a → g_Go E X P h z cs ss pn L rest) : g_Go E X P h z cs ss pc L (va_rf r :: rest) := by
  subst hpn
  intro H locs ls hV hB hl hL hz
  cases r with
  | none => exact lv_ifnullN hX.exec hX.code hdg ht (kt rfl H locs ls hV hB hl hL hz)
  | some a => exact lv_ifnull hX.exec hX.code hdg (kf a rfl H locs ls hV hB hl hL hz)
theorem g_ifnonnull (hX : g_ok E X M) {r : Option Nat} {off : Int} (hdg : decode M.cc pc = .ok (.ifnonnull off, 3)) (tgt pn : Nat) (ht : (pc : Int) + off = (tgt : Int)) (hpn : pc + 3 = pn)
    (kt : ∀ a, r = some a → g_Go E X P h z cs ss tgt L rest) (kf : r = none → g_Go E X P h z cs ss pn L rest) : g_Go E X P h z cs ss pc L (va_rf r :: rest) := by
  subst hpn
  intro H locs ls hV hB hl hL hz
  cases r with
  | none => exact lv_ifnonnullN hX.exec hX.code hdg (kf rfl H locs ls hV hB hl hL hz)
  | some a => exact lv_ifnonnull hX.exec hX.code hdg ht (kt a rfl H locs ls hV hB hl hL hz)
theorem g_acmp_eq (hX : g_ok E X M) {rx ry : Option Nat} {off : Int} (hdg : decode M.cc pc = .ok (.if_acmp .eq off, 3)) (tgt pn : Nat) (ht : (pc : Int) + off = (tgt : Int)) (hpn : pc + 3 = pn)
    (kt : rx = ry → g_Go E X P h z cs ss tgt L rest) (kf : ¬ rx = ry → g_Go E X P h z cs ss pn L rest) : g_Go E X P h z cs ss pc L (va_rf ry :: va_rf rx :: rest) := by
  subst hpn
  exact fun H locs ls hV hB hl hL hz => lv_acmp_eq hX.exec hX.code hdg ht (fun q => kt q H locs ls hV hB hl hL hz) (fun q => kf q H locs ls hV hB hl hL hz)
theorem g_acmp_ne (hX : g_ok E X M) {rx ry : Option Nat} {off : Int} (hdg : decode M.cc pc = .ok (.if_acmp .ne off, 3)) (tgt pn : Nat) (ht : (pc : Int) + off = (tgt : Int)) (hpn : pc + 3 = pn)
    (kt : ¬ rx = ry → g_Go E X P h z cs ss tgt L rest) (kf : rx = ry → g_Go E X P h z cs ss pn L rest) : g_Go E X P h z cs ss pc L (va_rf ry :: va_rf rx :: rest) := by
  subst hpn
  exact fun H locs ls hV hB hl hL hz => lv_acmp_ne hX.exec hX.code hdg ht (fun q => kt q H locs ls hV hB hl hL hz) (fun q => kf q H locs ls hV hB hl hL hz)
theorem g_tableOut (hX : g_ok E X M) {dflt lo hi : Int} {offs : Array Int} {len : Nat} {x : Int32} (tgt : Nat) (hdg : decode M.cc pc = .ok (.tableswitch dflt lo hi offs, len)) (hx : x.toInt < lo ∨ hi < x.toInt) (ht : (pc : Int) + dflt = (tgt : Int))
    (k : g_Go E X P h z cs ss tgt L rest) : g_Go E X P h z cs ss pc L (.int x :: rest) :=
  fun H locs ls hV hB hl hL hz => lv_tableOut hX.exec hX.code hdg hx ht (k H locs ls hV hB hl hL hz)
theorem g_tableIn (hX : g_ok E X M) {dflt lo hi : Int} {offs : Array Int} {len : Nat} {x : Int32} {off : Int} (tgt : Nat) (hdg : decode M.cc pc = .ok (.tableswitch dflt lo hi offs, len)) (h1 : ¬ x.toInt < lo) (h2 : ¬ hi < x.toInt) (ho : offs[(x.toInt - lo).toNat]? = some off) (ht : (pc : Int) + off = (tgt : Int))
    (k : g_Go E X P h z cs ss tgt L rest) : g_Go E X P h z cs ss pc L (.int x :: rest) :=
  fun H locs ls hV hB hl hL hz => lv_tableIn hX.exec hX.code hdg h1 h2 ho ht (k H locs ls hV hB hl hL hz)
theorem g_lookup (hX : g_ok E X M) {dflt : Int} {ps : Array (Int × Int)} {len : Nat} {x : Int32} {off : Int} (tgt : Nat) (hdg : decode M.cc pc = .ok (.lookupswitch dflt ps, len)) (hp : (ps.toList.zip (ps.toList.drop 1)).all (fun (a, next) => a.1 < next.1) = true) (ho : Op.lookupswitch.offset ps.toList dflt x.toInt = off) (ht : (pc : Int) + off = (tgt : Int))
    (k : g_Go E X P h z cs ss tgt L rest) : g_Go E X P h z cs ss pc L (.int x :: rest) :=
  fun H locs ls hV hB hl hL hz => lv_lookup hX.exec hX.code hdg hp ho ht (k H locs ls hV hB hl hL hz)
theorem g_iret (hX : g_ok E X M) {v : Int32} {ty : FieldType} (hrt : M.ret = some ty) (hn : narrow ty (.int v) = .int v) (hdg : decode M.cc pc = .ok (.ireturn, 1)) (hP : P.2 (.inr (some (.int v))) h) (hpu : (!P.1 || z) = true) (hc : cs ≤ X.R.cells) (hs : ss ≤ X.R.slots) : g_Go E X P h z cs ss pc L [.int v] := by
  intro H locs ls hV hB hlo hL hz
  refine W.widen hc hs ?_
  intro T hT X'
  have hlocks : X.meth.locks = false := hX.locks
  have hexec := hX.exec
  have hb := hX.code
  have hr : X.meth.sig.returnType = some ty := hX.ret.trans hrt
  obtain ⟨fs, hret, hrun, hended, hW, hframe⟩ := X'.leave (v := some (.int v)) (fun q => by rw [hr] at q; cases q)
  have hmeth' : T.vm.method? X.m = some X.meth := X'.method'
  refine ⟨T.setFrames fs, ?_, .returned (some (.int v)), hrun, hended, ⟨⟨.inr (some (.int v)), h, hP, rfl, by rw [← hT] at hV; exact hV, by rw [← hT] at hB; exact hB⟩, hW, locs, hframe, hlo, fun q => g_pu hpu q hz hT⟩⟩
  jvm_step X'.here [X'.here.top, hexec, hb, hdg, hmeth', hr, hn]
  (try refine ⟨rfl, ?_⟩); (try refine ⟨rfl, ?_⟩)
  first | (intro acts; rw [hret _ acts rfl rfl rfl]) | rw [hret _ _ rfl rfl rfl]
  exact Steps.refl _
theorem g_vret (hX : g_ok E X M) (hrt : M.ret = none) (hdg : decode M.cc pc = .ok (.return_, 1)) (hP : P.2 (.inr none) h) (hpu : (!P.1 || z) = true) (hc : cs ≤ X.R.cells) (hs : ss ≤ X.R.slots) : g_Go E X P h z cs ss pc L [] := by
  intro H locs ls hV hB hlo hL hz
  refine W.widen hc hs ?_
  intro T hT X'
  have hlocks : X.meth.locks = false := hX.locks
  have hexec := hX.exec
  have hb := hX.code
  have hr : X.meth.sig.returnType = none := hX.ret.trans hrt
  obtain ⟨fs, hret, hrun, hended, hW, hframe⟩ := X'.leave (v := none) (fun _ => rfl)
  have hmeth' : T.vm.method? X.m = some X.meth := X'.method'
  refine ⟨T.setFrames fs, ?_, .returned none, hrun, hended, ⟨⟨.inr none, h, hP, rfl, by rw [← hT] at hV; exact hV, by rw [← hT] at hB; exact hB⟩, hW, locs, hframe, hlo, fun q => g_pu hpu q hz hT⟩⟩
  jvm_step X'.here [X'.here.top, hexec, hb, hdg, hmeth', hr]
  (try refine ⟨rfl, ?_⟩); (try refine ⟨rfl, ?_⟩)
  first | (intro acts; rw [hret _ acts rfl rfl rfl]) | rw [hret _ _ rfl rfl rfl]
  exact Steps.refl _
theorem g_aret (hX : g_ok E X M) {v : Value} {rt : FieldType} (hrt : M.ret = some rt) (hrr : (∃ n, rt = .object n) ∨ ∃ t, rt = .array t) (hv : v.isRef = true) (hdg : decode M.cc pc = .ok (.areturn, 1)) (hP : P.2 (.inr (some v)) h) (hpu : (!P.1 || z) = true) (hc : cs ≤ X.R.cells) (hs : ss ≤ X.R.slots) : g_Go E X P h z cs ss pc L [v] := by
  intro H locs ls hV hB hlo hL hz
  refine W.widen hc hs ?_
  intro T hT X'
  have hlocks : X.meth.locks = false := hX.locks
  have hexec := hX.exec
  have hb := hX.code
  have hr : X.meth.sig.returnType = some rt := hX.ret.trans hrt
  obtain ⟨fs, hret, hrun, hended, hW, hframe⟩ := X'.leave (v := some v) (fun q => by rw [hr] at q; cases q)
  have hmeth' : T.vm.method? X.m = some X.meth := X'.method'
  refine ⟨T.setFrames fs, ?_, .returned (some v), hrun, hended, ⟨⟨.inr (some v), h, hP, rfl, by rw [← hT] at hV; exact hV, by rw [← hT] at hB; exact hB⟩, hW, locs, hframe, hlo, fun q => g_pu hpu q hz hT⟩⟩
  have hv2 : v = .null ∨ ∃ a, v = .ref a := by
    cases v with
    | ref a => exact Or.inr ⟨a, rfl⟩
    | null => exact Or.inl rfl
    | int _ => cases hv
    | long _ => cases hv
    | float _ => cases hv
    | double _ => cases hv
    | retAddr _ => cases hv
  rcases hrr with ⟨n, rfl⟩ | ⟨t, rfl⟩ <;> rcases hv2 with rfl | ⟨a, rfl⟩ <;>
    (jvm_step X'.here [X'.here.top, hexec, hb, hdg, hmeth', hr]
     (try refine ⟨rfl, ?_⟩); (try refine ⟨rfl, ?_⟩)
     first | (intro acts; rw [hret _ acts rfl rfl rfl]) | rw [hret _ _ rfl rfl rfl]
     exact Steps.refl _)
end GROWS
