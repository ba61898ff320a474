/-! the tables: the fields of each kind of cell, the words that stay true under warmer tables -/
def t_S : u_T := fun k => match k with
  | 0 => ("SlideStage", "themeValues", "[I", true)
  | 1 => ("SlideStage", "pages", "Ljava/util/List;", true)
  | 2 => ("SlideStage", "slides", "Ljava/util/List;", true)
  | 3 => ("SlideStage", "shapes", "Ljava/util/List;", true)
  | 4 => ("SlideStage", "effects", "Ljava/util/List;", true)
  | 5 => ("SlideStage", "rows", "LSlideStage$LineRows;", true)
  | 6 => ("SlideStage", "slideAt", "I", false)
  | 7 => ("SlideStage", "clicks", "I", false)
  | _ => ("SlideStage", "time", "I", false)
def t_Sy : Nat → FieldType := fun k => match k with
  | 0 => (.array .int)
  | 1 => (.object "java/util/List")
  | 2 => (.object "java/util/List")
  | 3 => (.object "java/util/List")
  | 4 => (.object "java/util/List")
  | 5 => (.object "SlideStage$LineRows")
  | 6 => .int
  | 7 => .int
  | _ => .int
def t_P : u_T := fun k => match k with
  | 0 => ("SlideStage$Page", "kind", "I", true)
  | 1 => ("SlideStage$Page", "parent", "LSlideStage$Page;", true)
  | 2 => ("SlideStage$Page", "shapes", "Ljava/util/List;", true)
  | _ => ("SlideStage$Page", "effects", "Ljava/util/List;", true)
def t_Py : Nat → FieldType := fun k => match k with
  | 0 => .int
  | 1 => (.object "SlideStage$Page")
  | 2 => (.object "java/util/List")
  | _ => (.object "java/util/List")
def t_H : u_T := fun k => match k with
  | 0 => ("SlideStage$Shape", "index", "I", true)
  | 1 => ("SlideStage$Shape", "page", "LSlideStage$Page;", true)
  | 2 => ("SlideStage$Shape", "slot", "I", true)
  | 3 => ("SlideStage$Shape", "owns", "[Z", true)
  | 4 => ("SlideStage$Shape", "values", "[I", true)
  | 5 => ("SlideStage$Shape", "paragraphs", "Ljava/util/List;", true)
  | _ => ("SlideStage$Shape", "effects", "Ljava/util/List;", true)
def t_Hy : Nat → FieldType := fun k => match k with
  | 0 => .int
  | 1 => (.object "SlideStage$Page")
  | 2 => .int
  | 3 => (.array .boolean)
  | 4 => (.array .int)
  | 5 => (.object "java/util/List")
  | _ => (.object "java/util/List")
def t_G : u_T := fun k => match k with
  | 0 => ("SlideStage$Paragraph", "level", "I", true)
  | _ => ("SlideStage$Paragraph", "words", "I", true)
def t_Gy : Nat → FieldType := fun k => match k with
  | 0 => .int
  | _ => .int
def t_F : u_T := fun k => match k with
  | 0 => ("SlideStage$Effect", "slide", "LSlideStage$Page;", true)
  | 1 => ("SlideStage$Effect", "kind", "I", true)
  | 2 => ("SlideStage$Effect", "build", "I", true)
  | 3 => ("SlideStage$Effect", "base", "I", true)
  | 4 => ("SlideStage$Effect", "start", "I", true)
  | 5 => ("SlideStage$Effect", "end", "I", true)
  | 6 => ("SlideStage$Effect", "duration", "I", true)
  | _ => ("SlideStage$Effect", "amount", "I", false)
def t_Fy : Nat → FieldType := fun k => match k with
  | 0 => (.object "SlideStage$Page")
  | 1 => .int
  | 2 => .int
  | 3 => .int
  | 4 => .int
  | 5 => .int
  | 6 => .int
  | _ => .int
def t_R : u_T := fun k => match k with
  | 0 => ("SlideStage$LineRows", "paragraph", "[I", true)
  | 1 => ("SlideStage$LineRows", "firstWord", "[I", true)
  | 2 => ("SlideStage$LineRows", "words", "[I", true)
  | 3 => ("SlideStage$LineRows", "width", "[I", true)
  | _ => ("SlideStage$LineRows", "count", "I", false)
def t_Ry : Nat → FieldType := fun k => match k with
  | 0 => (.array .int)
  | 1 => (.array .int)
  | 2 => (.array .int)
  | 3 => (.array .int)
  | _ => .int
def t_A : u_T := fun k => match k with
  | 0 => ("java/util/ArrayList", "elementData", "[Ljava/lang/Object;", false)
  | 1 => ("java/util/ArrayList", "size", "I", false)
  | _ => ("java/util/AbstractList", "modCount", "I", false)
def t_Ay : Nat → FieldType := fun k => match k with
  | 0 => (.array (.object "java/lang/Object"))
  | 1 => .int
  | _ => .int
def t_M : u_T := fun k => match k with
  | 0 => ("SlideStageModel", "code", "I", false)
  | 1 => ("SlideStageModel", "pages", "I", false)
  | 2 => ("SlideStageModel", "kind", "[I", true)
  | 3 => ("SlideStageModel", "parent", "[I", true)
  | 4 => ("SlideStageModel", "shapes", "I", false)
  | 5 => ("SlideStageModel", "home", "[I", true)
  | 6 => ("SlideStageModel", "slot", "[I", true)
  | 7 => ("SlideStageModel", "has", "[Z", true)
  | 8 => ("SlideStageModel", "own", "[I", true)
  | 9 => ("SlideStageModel", "theme", "[I", true)
  | 10 => ("SlideStageModel", "paragraphs", "[I", true)
  | 11 => ("SlideStageModel", "level", "[I", true)
  | 12 => ("SlideStageModel", "words", "[I", true)
  | 13 => ("SlideStageModel", "letters", "[I", true)
  | 14 => ("SlideStageModel", "effects", "I", false)
  | 15 => ("SlideStageModel", "actor", "[I", true)
  | 16 => ("SlideStageModel", "deed", "[I", true)
  | 17 => ("SlideStageModel", "trigger", "[I", true)
  | 18 => ("SlideStageModel", "delay", "[I", true)
  | 19 => ("SlideStageModel", "duration", "[I", true)
  | 20 => ("SlideStageModel", "amounts", "[I", true)
  | 21 => ("SlideStageModel", "at", "I", false)
  | 22 => ("SlideStageModel", "clicks", "I", false)
  | 23 => ("SlideStageModel", "time", "I", false)
  | 24 => ("SlideStageModel", "lineCount", "I", false)
  | 25 => ("SlideStageModel", "linePart", "[I", true)
  | 26 => ("SlideStageModel", "lineFirst", "[I", true)
  | 27 => ("SlideStageModel", "lineWords", "[I", true)
  | _ => ("SlideStageModel", "lineWide", "[I", true)
def t_My : Nat → FieldType := fun k => match k with
  | 0 => .int
  | 1 => .int
  | 2 => (.array .int)
  | 3 => (.array .int)
  | 4 => .int
  | 5 => (.array .int)
  | 6 => (.array .int)
  | 7 => (.array .boolean)
  | 8 => (.array .int)
  | 9 => (.array .int)
  | 10 => (.array .int)
  | 11 => (.array .int)
  | 12 => (.array .int)
  | 13 => (.array .int)
  | 14 => .int
  | 15 => (.array .int)
  | 16 => (.array .int)
  | 17 => (.array .int)
  | 18 => (.array .int)
  | 19 => (.array .int)
  | 20 => (.array .int)
  | 21 => .int
  | 22 => .int
  | 23 => .int
  | 24 => .int
  | 25 => (.array .int)
  | 26 => (.array .int)
  | 27 => (.array .int)
  | _ => (.array .int)
def g_cl : List vw_C := [("SlideStage", t_S, 9), ("SlideStage$Page", t_P, 4), ("SlideStage$Shape", t_H, 7), ("SlideStage$Paragraph", t_G, 2), ("SlideStage$Effect", t_F, 8), ("SlideStage$LineRows", t_R, 5), ("java/util/ArrayList", t_A, 3), ("SlideStageModel", t_M, 29)]
def g_good (w : Cond) : Bool := goodWord w || (w.faceAtom || (w.castAtom || match w with
  | .methodLinkNest .. => true
  | _ => false))
theorem g_stable {w : Cond} (h : g_good w = true) {s U : State} (hW : s.WarmedH U.vm) (hw : ∀ A : Array Value, w.before A s = true) : ∀ A : Array Value, w.before A U = true := by
  unfold g_good at h
  simp only [Bool.or_eq_true] at h
  rcases h with h | h | h | h
  · exact fun A => word_at hW (good_of_word h) (hw #[])
  · intro A
    have h1 := Cond.faceAtom_setVm (args := A) hW.alike w h (hw A)
    have ho : w.onTables = true := by
      cases w <;> first | rfl | simp [Cond.faceAtom] at h
    have h2 := Cond.onTables_vm (A := A) (A' := A) (U := s) (U' := U) U.vm w ho
    rw [h2] at h1
    exact h1
  · intro A
    have h1 := Cond.castAtom_setVm (args := A) hW.alike w h (hw A)
    match w, h with
    | .not (.castable a b), _ =>
      simp only [Cond.before, Cond.holds, Cond.value] at h1 ⊢
      exact h1
  · intro A
    cases w with
    | methodLinkNest a i x hh =>
      have h1 := va_Nw.warmM hW (show va_Nw (.methodLinkNest a i x hh) s from hw #[])
      exact va_any rfl h1
    | _ => cases h
def g_nc : List Cond := [.not (.castable "java/lang/IllegalArgumentException" "java/lang/IndexOutOfBoundsException"), .not (.castable "java/lang/IllegalArgumentException" "java/lang/IllegalStateException"), .not (.castable "java/lang/IllegalArgumentException" "java/lang/UnsupportedOperationException"), .not (.castable "java/lang/IndexOutOfBoundsException" "java/lang/IllegalArgumentException"), .not (.castable "java/lang/IndexOutOfBoundsException" "java/lang/IllegalStateException"), .not (.castable "java/lang/IndexOutOfBoundsException" "java/lang/UnsupportedOperationException"), .not (.castable "java/lang/IllegalStateException" "java/lang/IllegalArgumentException"), .not (.castable "java/lang/IllegalStateException" "java/lang/IndexOutOfBoundsException"), .not (.castable "java/lang/IllegalStateException" "java/lang/UnsupportedOperationException"), .not (.castable "java/lang/UnsupportedOperationException" "java/lang/IllegalArgumentException"), .not (.castable "java/lang/UnsupportedOperationException" "java/lang/IndexOutOfBoundsException"), .not (.castable "java/lang/UnsupportedOperationException" "java/lang/IllegalStateException")]
def g_wl : List Cond := lw_tbl.filter g_good ++ g_nc
theorem g_nc_ok : g_nc.all g_good = true := by decide +kernel
theorem g_wl_ok (w : Cond) (hw : w ∈ g_wl) {s U : State} (hW : s.WarmedH U.vm) (h : ∀ A : Array Value, w.before A s = true) : ∀ A : Array Value, w.before A U = true := by
  rcases List.mem_append.mp hw with h1 | h1
  · exact g_stable (List.mem_filter.mp h1).2 hW h
  · exact g_stable (List.all_eq_true.mp g_nc_ok w h1) hW h
theorem g_in {w : Cond} (i : Nat) (hi : lw_tbl[i]? = some w) (hg : g_good w = true) : w ∈ g_wl := List.mem_append_left _ (List.mem_filter.mpr ⟨List.mem_of_getElem? hi, hg⟩)
theorem g_inc {w : Cond} (i : Nat) (hi : g_nc[i]? = some w) : w ∈ g_wl := List.mem_append_right _ (List.mem_of_getElem? hi)
theorem g_ins {ws : List Cond} (ps : List Nat) (hp : ws = ps.filterMap (fun i => lw_tbl[i]?)) (hg : ws.all g_good = true) : ∀ w ∈ ws, w ∈ g_wl := by
  intro w hw
  have h1 := List.all_eq_true.mp hg w hw
  rw [hp] at hw
  obtain ⟨i, -, hi⟩ := List.mem_filterMap.mp hw
  exact g_in i hi h1
def g_strs : List (Nat × String) := [(53, "no such kind of page"), (68, "no such parent for this kind"), (79, "no more pages"), (95, "no such page"), (97, "no such slot"), (103, "the slot is taken"), (107, "no more shapes"), (301, "no such property"), (309, "no such value for the property"), (311, "no such shape"), (160, "no such level"), (166, "no such words"), (171, "no more paragraphs"), (202, "no such kind or trigger"), (204, "no such delay or duration"), (209, "the shape is on no slide"), (211, "no more effects"), (313, "no such effect"), (235, "no such amount"), (274, "no such slide"), (276, "no such time to pass")]
/-- a static field of the tables' that holds v, its cell as the heap H0 has it -/
def g_SZ (C n d : String) (v : Value) (H0 : Heap) (U : State) : Prop :=
  ∃ (c : ClassId) (k : Class) (i : Nat) (f : Field) (a : Nat) (cell : Cell), U.vm.findClass C = some c ∧ U.fieldFound? C n d = some (c, k, i, f) ∧ f.isStatic = true ∧ k.statics = some a ∧ H0[a]? = some cell ∧ cell.vm.isStatics = true ∧ cell.cls = c ∧ f.slot < cell.slots.size ∧ k.staticTypes[f.slot]? = some f.type ∧ k.init = .initialized ∧ cell.slots[f.slot]? = some v
theorem g_SZ.moved {C n d : String} {v : Value} {H0 : Heap} {u U : State} (hvm : u.vm.Alike U.vm) (h : g_SZ C n d v H0 u) : g_SZ C n d v H0 U := by
  obtain ⟨c, k, i, f, a, cell, h1, h2, h3, h4, h5, h6, h7, h8, h9, h10, h11⟩ := h
  obtain ⟨k', hi', he⟩ := State.fieldFound?_setVm hvm h2
  exact ⟨c, k', i, f, a, cell, by rw [hvm.findClass]; exact h1, hi', h3, by rw [he]; exact h4, h5, h6, h7, h8, by rw [he]; exact h9, by rw [he]; exact h10, h11⟩
def g_least (j : Nat) : Int32 := ([-40, -40, 0, 0, 0, 0, 1] : List Int32).getD j 0
def g_great (j : Nat) : Int32 := ([40, 40, 40, 40, 16777215, 255, 4] : List Int32).getD j 0
def g_K4 (H0 : Heap) (ad : Nat → Nat) (U : State) : Prop :=
  va_T .int (ad 0) 7 (fun j => .int (g_least j)) (fun q => H0.size ≤ q) U H0 ∧ va_T .int (ad 1) 7 (fun j => .int (g_great j)) (fun q => H0.size ≤ q) U H0 ∧ va_T (.object "java/lang/Object") (ad 2) 0 (fun _ => .null) (fun q => H0.size ≤ q) U H0 ∧ va_Mi "[Ljava/lang/Object;" (ad 3) U ∧ va_AO "java/lang/Object" U
/-- statics (places ad 0, 1, 2: LEAST, GREATEST, ArrayList's empty array; two of Throwable's) and strings (place ad (100 + entry)) -/
def g_K3 (H0 : Heap) (ad : Nat → Nat) (U : State) : Prop :=
  g_SZ "SlideStage" "LEAST" "[I" (.ref (ad 0)) H0 U ∧ g_SZ "SlideStage" "GREATEST" "[I" (.ref (ad 1)) H0 U ∧ g_SZ "java/util/ArrayList" "DEFAULTCAPACITY_EMPTY_ELEMENTDATA" "[Ljava/lang/Object;" (.ref (ad 2)) H0 U ∧
  (∃ v : Value, v.isRef = true ∧ g_SZ "java/lang/Throwable" "UNASSIGNED_STACK" "[Ljava/lang/StackTraceElement;" v H0 U) ∧ (∃ v : Value, v.isRef = true ∧ g_SZ "java/lang/Throwable" "SUPPRESSED_SENTINEL" "Ljava/util/List;" v H0 U) ∧ g_K4 H0 ad U ∧
  ∀ q ∈ g_strs, vk_R "SlideStage" q.1 q.2 (ad (100 + q.1)) U
theorem g_K3_warm {H0 : Heap} {ad : Nat → Nat} {s U : State} (hW : s.WarmedH U.vm) (h : g_K3 H0 ad s) : g_K3 H0 ad U := by
  obtain ⟨h1, h2, h3, ⟨v4, r4, h4⟩, ⟨v5, r5, h5⟩, ⟨k1, k2, k3, k4, k5⟩, h6⟩ := h
  exact ⟨h1.moved hW.alike, h2.moved hW.alike, h3.moved hW.alike, ⟨v4, r4, h4.moved hW.alike⟩, ⟨v5, r5, h5.moved hW.alike⟩, ⟨k1.moved hW.alike, k2.moved hW.alike, k3.moved hW.alike, k4.moved hW.alike, k5.moved hW.alike⟩, fun q hq => (h6 q hq).warm hW⟩
def g_hw : List Cond := [.laysStatic "java/lang/Throwable" "UNASSIGNED_STACK" "[Ljava/lang/StackTraceElement;", .laysStatic "java/lang/Throwable" "SUPPRESSED_SENTINEL" "Ljava/util/List;", .isRef (.static "java/lang/Throwable" "UNASSIGNED_STACK" "[Ljava/lang/StackTraceElement;"), .isRef (.static "java/lang/Throwable" "SUPPRESSED_SENTINEL" "Ljava/util/List;")]
theorem g_ow {ws : List Cond} (ps : List Nat) (hp : ws = ps.filterMap (fun i => (lw_tbl ++ g_hw)[i]?)) (hg : ws.all (fun w => g_good w || g_hw.contains w) = true) : ∀ w ∈ ws, w ∈ g_wl ∨ w ∈ g_hw := by
  intro w hw
  have h1 := List.all_eq_true.mp hg w hw
  simp only [Bool.or_eq_true] at h1
  rw [hp] at hw
  obtain ⟨i, -, hi⟩ := List.mem_filterMap.mp hw
  have hm : w ∈ lw_tbl ++ g_hw := List.mem_of_getElem? hi
  rcases List.mem_append.mp hm with h2 | h2
  · rcases h1 with h3 | h3
    · exact Or.inl (List.mem_append_left _ (List.mem_filter.mpr ⟨h2, h3⟩))
    · exact Or.inr (List.contains_iff_mem.mp h3)
  · exact Or.inr h2
theorem g_own0 : ∀ w ∈ Jvm.Bundle.ownAtoms "SlideStage" 55 "java/lang/IllegalArgumentException" ["java/lang/RuntimeException", "java/lang/Exception"], w ∈ g_wl ∨ w ∈ g_hw := g_ow [52, 327, 336, 341, 344, 346, 328, 329, 75, 76, 330, 335, 342, 362, 317, 363, 319, 364, 321, 331, 1122, 333, 1123, 323, 358, 359, 361, 323, 349, 350, 351, 352, 309, 352, 353, 354, 355, 311, 355, 356, 357, 358, 313, 348, 306, 307, 314, 315, 316, 318, 320, 322, 1124, 1125, 326, 325, 324] (by decide +kernel) (by decide +kernel)
theorem g_own1 : ∀ w ∈ Jvm.Bundle.ownAtoms "SlideStage" 70 "java/lang/IndexOutOfBoundsException" ["java/lang/RuntimeException", "java/lang/Exception"], w ∈ g_wl ∨ w ∈ g_hw := g_ow [52, 327, 336, 341, 344, 346, 328, 329, 75, 76, 330, 335, 342, 362, 317, 363, 319, 364, 321, 331, 1122, 333, 1123, 323, 358, 359, 361, 323, 392, 393, 394, 352, 309, 352, 353, 354, 355, 311, 355, 356, 357, 358, 313, 391, 382, 383, 384, 339, 385, 386, 387, 388, 1124, 1125, 326, 325, 389] (by decide +kernel) (by decide +kernel)
theorem g_own2 : ∀ w ∈ Jvm.Bundle.ownAtoms "SlideStage" 81 "java/lang/IllegalStateException" ["java/lang/RuntimeException", "java/lang/Exception"], w ∈ g_wl ∨ w ∈ g_hw := g_ow [52, 327, 336, 341, 344, 346, 328, 329, 75, 76, 330, 335, 342, 362, 317, 363, 319, 364, 321, 331, 1122, 333, 1123, 323, 358, 359, 361, 323, 408, 409, 410, 352, 309, 352, 353, 354, 355, 311, 355, 356, 357, 358, 313, 407, 398, 399, 400, 338, 401, 402, 403, 404, 1124, 1125, 326, 325, 405] (by decide +kernel) (by decide +kernel)
theorem g_own3 : ∀ w ∈ Jvm.Bundle.ownAtoms "SlideStage" 109 "java/lang/UnsupportedOperationException" ["java/lang/RuntimeException", "java/lang/Exception"], w ∈ g_wl ∨ w ∈ g_hw := g_ow [52, 327, 336, 341, 344, 346, 328, 329, 75, 76, 330, 335, 342, 362, 317, 363, 319, 364, 321, 331, 1122, 333, 1123, 323, 358, 359, 361, 323, 525, 526, 527, 352, 309, 352, 353, 354, 355, 311, 355, 356, 357, 358, 313, 524, 515, 516, 517, 340, 518, 519, 520, 521, 1124, 1125, 326, 325, 522] (by decide +kernel) (by decide +kernel)
