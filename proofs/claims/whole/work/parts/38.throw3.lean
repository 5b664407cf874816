/-! a method that ends in a throw: its contract -/
def CtTQ (D : va_G) (cl : List vw_C) (w0 : va_W) (sz : Nat) (X : String) (w1 : va_W) : State → Outcome → State → Prop := fun st o t =>
  ∃ (q : Addr) (ce : Cell) (L : List Loc), o = .threw q ∧ t.heap[q]? = some ce ∧ ce.vm = .none ∧ st.vm.findClass X = some ce.cls ∧ va_P D cl w1 t.heap ∧ va_D (va_A w0 sz) w1 ∧ va_F (va_A w0 sz) st t ∧ FrameEndT st o t L 1 6 ∧ ∀ z ∈ L, va_A w0 sz z.base
/-- what is known beside the world: the statics, and that the frame is the method's own -/
def gSdT (y : MethodName) (w0 : va_W) (below : List Frame) (s : State) : Prop := gXs (va_A w0 s.heap.size) s ∧ ∀ (m : MethodId) (a : Array Value), s.frames = .invoking m a :: below → s.methodNamed? y = some m
abbrev CtTF (y : MethodName) (D : va_G) (cl : List vw_C) (w0 : va_W) (X : String) (w1 : va_W) : List Frame → State → State → Prop := fun below s t => gSdT y w0 below s → ∃ o, t.status = .running ∧ Ended t below o ∧ CtTQ D cl w0 s.heap.size X w1 s o t
def CtT (l : Launch) (y : MethodName) (b : ByteArray) (nL : Nat) (ret : Option FieldType) (rm : Room) (D : va_G) (cl : List vw_C) (tys : List (ClassId × FieldType)) (av : List Value) (w0 : va_W) (X : String) (w1 : va_W) : Prop :=
  ∀ sz : Nat, MetFree l y (headSpec (gW y b nL ret) rm) (va_Pc av (fun U => CtP D cl tys w0 sz U ∧ gXs (va_A w0 sz) U)) (fun _ _ _ _ _ => True) (fun _ st o t => CtTQ D cl w0 sz X w1 st o t)
theorem CtT.ofG {l : Launch} {y : MethodName} {b : ByteArray} {nL : Nat} {ret : Option FieldType} {rm : Room} {D : va_G} {cl : List vw_C} {tys : List (ClassId × FieldType)} {av : List Value} {w0 : va_W} {X : String} {w1 : va_W} (hy : plainName y.cls = true) (hlen : (lg_sl av).length ≤ nL)
    (body : Gm l y b nL ret rm D cl tys av w0 (CtTF y D cl w0 X w1) 0 0 w0 (lv_args 0 av) 0 []) : CtT l y b nL ret rm D cl tys av w0 X w1 := by
  intro sz
  refine MetFree.of_bodyS (code := b) (maxLocals := nL) (ret := ret) hy ?_ ?_
  · intro args s m h hn
    obtain ⟨meth, c, h1, h2, h3, h4, h5, h6, -, -⟩ := Cond.code_spec hn (atoms_spec (ws := gW y b nL ret) h _ List.mem_cons_self)
    exact ⟨meth, c, h1, h2, h3, h4, h5, h6⟩
  · intro p e s m args below meth c s₁ B hml hv _
    obtain ⟨rfl, ⟨hsz, hP, hK, hN, hD0⟩, hX⟩ := hv
    subst hsz
    have hts := atoms_spec (ws := gW y b nL ret) B.pre
    have E : Gx p s m av.toArray c b y.cls nL D cl tys := ⟨B.exec, B.bytes, hml, findClass_of_methodNamed B.named, gTs_of (fun w hw => hts w (List.mem_cons_of_mem _ hw)) hN, hK⟩
    have hl := lv_entry av (n := nL) hlen
    have hh0 : s₁.heap = s.heap := by rw [B.state]; rfl
    have hw := body p e s m below meth c E hN B.returns B.notSynchronized (fun q h => Or.inr h) s.heap [] _ hP hD0.self va_S.rf hl
    obtain ⟨t, a1, b1⟩ := hw s₁ hh0 (Stand.of_body B)
    obtain ⟨o, b2, b3, b4⟩ := b1 ⟨hX, fun m' a' hf => by
      have h9 := B.frames.symm.trans hf
      cases h9
      exact B.named⟩
    rw [← lg_entry_eq] at a1
    exact ⟨t, o, a1, b2, b3, b4⟩
theorem g_throw {l : Launch} {y : MethodName} {b : ByteArray} {nL : Nat} {ret : Option FieldType} {rm : Room} {D : va_G} {cl : List vw_C} {tys : List (ClassId × FieldType)} {av : List Value} {w0 ws : va_W} {L : List (Nat × Value)} {pc ik ic : Nat} {X : String}
    (hl : l.stackTraces = false) (hcode : Cond.code y b nL ret ∈ lw_tbl) (hw : gThrowOk y.cls ik ic X) (hRf : 5 < rm.frames) (hRl : 81 ≤ rm.locals) (hRc : 1 ≤ rm.cells) (hRs : 6 ≤ rm.slots)
    (d0 : decode b pc = .ok (.new ik, 3)) (d3 : decode b (pc + 3) = .ok (.dup, 1)) (d4 : decode b (pc + 4) = .ok (.invokespecial ic, 3)) (d7 : decode b (pc + 7) = .ok (.athrow, 1)) :
    Gm l y b nL ret rm D cl tys av w0 (CtTF y D cl w0 X ws) 0 0 ws L pc [] := by
  intro p e s m below meth c E hN hr hlk hA H locs ls hP hD hS hl9
  by_cases hx : gSdT y w0 below s
  · intro T hT Y
    have hn := hx.2 m av.toArray Y.frames
    obtain ⟨meth', c', hm', hc', -, -, -, -, he', -⟩ := Cond.code_spec hn (E.2.2.2.2.1 _ (gIn_ts hcode rfl))
    cases Y.method.symm.trans hm'
    cases Y.code.symm.trans hc'
    have hno : c.exceptionTable.toList = [] := by
      have h0 : c.exceptionTable.size = 0 := by simpa [Array.isEmpty] using he'
      exact List.eq_nil_of_length_eq_zero (by simpa using h0)
    obtain ⟨t, a1, q, ce, h1, h2, h3, h4, h5, h6, h7, h8, h9⟩ := gW_throw E.1 E.2.1 hl E.2.2.2.1 E.2.2.2.2.1 hw hx.1 hS (hl9.1.trans E.2.2.1.symm) hlk hno hRf hRl (by omega) (by omega) d0 d3 d4 d7 T hT Y
    have hPt : va_P D cl ws t.heap := hP.kept (fun k q hq => h9 _ (hP k q hq).lt)
    have hF : va_F (va_A w0 s.heap.size) s t := ⟨Nat.le_trans hS.1 h8, fun z hz hzA => (h9 z (Nat.lt_of_lt_of_le hz hS.1)).trans (hS.2.1 z hz hzA)⟩
    exact ⟨t, a1, fun _ => ⟨.threw q, h1, h2, q, ce, locs, rfl, h3, h4, h5, hPt, hD, hF, ⟨⟨q, rfl⟩, h6, h7⟩, hS.2.2⟩⟩
  · intro T hT Y
    exact ⟨_, Steps.refl _, fun z => absurd z hx⟩
