/-! 'throw new E()' -/
def gDcl : Cond → Bool
  | .declares _ => true
  | .castable .. => true
  | _ => false
def gDec : List Cond := lw_tbl.filter gDcl
def gDc (U : State) : Prop := ∀ w ∈ gDec, va_Nw w U
theorem gDc.warm {s U : State} (hW : s.WarmedH U.vm) (h : gDc s) : gDc U := fun w hw => by
  have hz := h w hw
  have hn : gDcl w = true := (List.mem_filter.mp hw).2
  cases w <;> first | exact va_Nw.warmD hW hz | exact va_Nw.warmC hW hz | (simp [gDcl] at hn; done)
theorem gDcl_tab {w : Cond} (h : gDcl w = true) : w.onTables = true := by
  cases w <;> first | rfl | (simp [gDcl] at h; done)
theorem gDc.same {s U : State} (hv : s.vm = U.vm) (h : gDc s) : gDc U := fun w hw => va_Nw.same (gDcl_tab (List.mem_filter.mp hw).2) hv (h w hw)
/-- what a throwing method asks of its start beside its world -/
def gXs (A : Nat → Prop) (U : State) : Prop := gZs A U ∧ gDc U
def gZw : List Cond := [.isRef (.static "java/lang/Throwable" "UNASSIGNED_STACK" "[Ljava/lang/StackTraceElement;"), .isRef (.static "java/lang/Throwable" "SUPPRESSED_SENTINEL" "Ljava/util/List;"), .laysStatic "java/lang/Throwable" "UNASSIGNED_STACK" "[Ljava/lang/StackTraceElement;", .laysStatic "java/lang/Throwable" "SUPPRESSED_SENTINEL" "Ljava/util/List;"]
def gAtoms (own : String) (ic : Nat) (X : String) : List Cond := Bundle.ownAtoms0 own ic X ["java/lang/RuntimeException", "java/lang/Exception"]
/-- the words of a throw: the tables' own, or the four of the statics -/
def gThrowOk (own : String) (ik ic : Nat) (X : String) : Prop := Bundle.fit X = true ∧ Cond.classLink own ik X ∈ gTs ∧ Cond.initialized X ∈ gTs ∧ ∀ w ∈ gAtoms own ic X, (w ∈ lw_tbl ∧ ((goodWord w && w.onTables) || gDcl w) = true) ∨ w ∈ gZw
theorem gCell {a b : Cell} (h1 : a = { b with slots := a.slots }) (h2 : ∀ i : Nat, a.slots[i]? = b.slots[i]?) : a = b := by
  have hs : a.slots = b.slots := Array.ext_getElem? h2
  rw [hs] at h1
  exact h1
def gEndT (below : List Frame) (s : State) (H : Heap) (X : String) (locs : List Loc) (k n : Nat) (t : State) : Prop :=
  ∃ (q : Addr) (ce : Cell), t.status = .running ∧ Ended t below (.threw q) ∧ t.heap[q]? = some ce ∧ ce.vm = .none ∧ s.vm.findClass X = some ce.cls ∧ s.WarmedH t.vm ∧ s.sameButNew ({ t with vm := s.vm } : State) locs k n ∧ H.size ≤ t.heap.size ∧ ∀ z : Nat, z < H.size → t.heap[z]? = H[z]?
theorem gW_throw {p : Program} {l : Launch} {e : Env} {R : Room} {s : State} {m : MethodId} {args : Array Value} {below : List Frame} {meth : Method} {c : Code} {H : Heap} {locs : List Loc} {cells slots : Nat} {cc : ByteArray} {pc : Nat} {ls : Array Slot} {own X : String} {ik ic : Nat} {A : Nat → Prop}
    (hexec : p.tables.exec = Jvm.exec) (hb : c.code = cc) (hl : l.stackTraces = false) (hown : s.vm.findClass own = some m.cls) (hts : ∀ w ∈ gTs, w.before args s = true) (hw : gThrowOk own ik ic X) (hx : gXs A s) (hS : va_S A s.heap H locs) (hsize : ls.size = c.maxLocals) (hlocks : meth.locks = false) (hno : c.exceptionTable.toList = [])
    (hRf : 5 < R.frames) (hRl : 81 ≤ R.locals) (hRc : cells + 1 ≤ R.cells) (hRs : slots + 6 ≤ R.slots)
    (d0 : decode cc pc = .ok (.new ik, 3)) (d3 : decode cc (pc + 3) = .ok (.dup, 1)) (d4 : decode cc (pc + 4) = .ok (.invokespecial ic, 3)) (d7 : decode cc (pc + 7) = .ok (.athrow, 1)) :
    W p l e R s m args below meth c H locs cells slots (gEndT below s H X locs (cells + 1) (slots + 6)) (F0 m pc ls []) := by
  intro T hT Y0
  have htr : e.platform.stackTraces = false := (show e.platform.stackTraces = l.stackTraces by rw [Y0.admits.platform]).trans hl
  have Y := gRebase Y0 (k := 1) (n := 6) hRc hRs
  generalize hs' : (T.setVm s.vm).setFrames (.invoking m args :: below) = s' at Y
  have hvm : s'.vm = s.vm := by rw [← hs']; rfl
  have hhp : s'.heap = H := by rw [← hs']; exact hT
  have hW0 : s.WarmedH s'.vm := by rw [hvm]; exact State.WarmedH.refl s
  have tab : ∀ w : Cond, w.onTables = true → w.before args s = true → w.before args s' = true := fun w h1 h2 => va_tabs h1 hvm.symm h2
  have z1 : gZ1 "UNASSIGNED_STACK" "[Ljava/lang/StackTraceElement;" A s' s'.heap := by rw [hhp]; exact (hx.1.1.kept hS.2.1).moved hW0.alike
  have z2 : gZ1 "SUPPRESSED_SENTINEL" "Ljava/util/List;" A s' s'.heap := by rw [hhp]; exact (hx.1.2.kept hS.2.1).moved hW0.alike
  have hat : ∀ w ∈ gAtoms own ic X, w.before args s' = true := by
    intro w hw9
    rcases hw.2.2.2 w hw9 with ⟨h1, h2⟩ | h1
    · rcases Bool.or_eq_true _ _ |>.mp h2 with h3 | h3
      · rw [Bool.and_eq_true] at h3
        exact tab w h3.2 (hts w (gIn_ts h1 h3.1))
      · exact va_Nw.use (gDcl_tab h3) (hx.2.same hvm.symm w (List.mem_filter.mpr ⟨h1, h3⟩))
    · simp only [gZw, List.mem_cons, List.not_mem_nil, or_false] at h1
      rcases h1 with rfl | rfl | rfl | rfl
      · exact z1.isr args
      · exact z2.isr args
      · exact z1.lay args
      · exact z2.lay args
  have hown' : s'.vm.findClass own = some m.cls := by rw [hvm]; exact hown
  have hk' : (Cond.classLink own ik X).before args s' = true := tab _ rfl (hts _ hw.2.1)
  have hi' : (Cond.initialized X).before args s' = true := tab _ rfl (hts _ hw.2.2.1)
  obtain ⟨vm₁, cX, kX, hfX, hkX, -, -, X₁, st1⟩ := Y.newCold hexec (own := own) (C := X) (index := ik) (n := 6) hown' hk' (hat _ (by simp [gAtoms, Bundle.ownAtoms0])) hi' (g := F0 m pc ls []) rfl (by rw [hb]; exact d0) (Nat.le_refl _) (Nat.le_refl _)
  generalize hT1 : (T.setVm vm₁).pushCell { cls := cX, slots := kX.instanceTypes.map defaultValue, vm := .none } = T1 at X₁ st1
  have hcell : T1.heap[T.heap.size]? = some (freshCell cX kX) := by rw [← hT1]; exact State.heap_pushCell_size _ _
  have d3' : decode c.code (pc + 3) = .ok (.dup, 1) := by rw [hb]; exact d3
  obtain ⟨U, hsteps, hrun, hend, hW, hsame, ce, hce, hO⟩ := X₁.ctorThrow0 hexec htr (own := own) (cls := X) (names := ["java/lang/RuntimeException", "java/lang/Exception"]) (ic := ic) hown' hw.1 (by decide) hat (fun x hx => nomatch hx) hfX hkX hcell (by rw [hhp, hT]; exact Nat.le_refl _)
    (g := { method := m, pc := pc + 4, locals := ls, stack := [.ref T.heap.size, .ref T.heap.size], locked := none }) rfl hsize rfl rfl (rest := []) rfl (by rw [hb]; exact d4) (by rw [hb]; exact d7) (by rw [hno]; exact fun x hx => nomatch hx) hRf (by show 2 * 0 + (1 + 0) + (13 * (2 + 1) + 41) ≤ R.locals; omega) hlocks
  have hold : s'.heap.size ≤ U.heap.size ∧ ∀ z : Nat, z < s'.heap.size → U.heap[z]? = s'.heap[z]? := by
    obtain ⟨-, h2, -, -, -, h6⟩ := hsame
    refine ⟨h2, fun z hz => ?_⟩
    obtain ⟨c9, h9⟩ : ∃ c9, s'.heap[z]? = some c9 := ⟨_, Array.getElem?_eq_getElem hz⟩
    obtain ⟨c8, h8, e1, e2, e3⟩ := h6 z c9 h9
    rw [h9]
    refine h8.trans (congrArg some ?_)
    exact gCell e1 (fun i => e3 i (fun q => nomatch q))
  refine ⟨U, ?_, T.heap.size, ce, hrun, hend, hce, hO.vm, ?_, State.WarmedH.trans hW0 hW, ?_, ?_⟩
  · refine st1 _ ?_
    show Steps p.tables e below (T1.setTop { method := m, pc := pc + 3, locals := ls, stack := [.ref T.heap.size], locked := none }) _
    jvm_step X₁.here [X₁.here.top, hexec, d3', Value.category]
    exact hsteps
  · have h9 := hO.cls
    rw [hvm] at h9
    exact h9
  · subst hs'
    obtain ⟨e1, e2⟩ := hsame
    rw [State.setFrames_setFrames] at e1
    have h2 : (T.setVm s.vm).sameButNew ({ U with vm := s.vm } : State) [] (0 + 1) (0 + 6) := ⟨e1, e2⟩
    have h3 := Y0.same.trans h2
    rw [List.append_nil] at h3
    exact h3
  · rw [hhp] at hold
    exact hold
