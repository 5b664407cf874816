/-! a callee's throw, caught by its caller; contracts of methods with a table of handlers -/
def gPairs : List (String × String) := [("java/util/NoSuchElementException", "java/lang/IllegalStateException"), ("java/lang/IllegalArgumentException", "java/lang/IllegalStateException"), ("java/lang/IllegalArgumentException", "java/util/NoSuchElementException")]
def gNc (U : State) : Prop := ∀ q ∈ gPairs, va_Nc q.1 q.2 U
theorem gNc.warm {s U : State} (hW : s.WarmedH U.vm) (h : gNc s) : gNc U := fun q hq => (h q hq).moved hW.alike
theorem gNc.same {s U : State} (hv : s.vm = U.vm) (h : gNc s) : gNc U := fun q hq => (h q hq).moved (by rw [hv]; exact Vm.Alike.refl _)
def gSdH (hh : List (Nat × Nat × Nat × Nat)) (w0 : va_W) (below : List Frame) (s : State) : Prop := gXs (va_A w0 s.heap.size) s ∧ gNc s ∧ ∀ (m : MethodId) (a : Array Value) (meth : Method) (c : Code), s.frames = .invoking m a :: below → s.vm.method? m = some meth → meth.code = some c → c.exceptionTable.toList = tableOf hh
def CtH (l : Launch) (y : MethodName) (b : ByteArray) (nL : Nat) (ret : Option FieldType) (hh : List (Nat × Nat × Nat × Nat)) (rm : Room) (D : va_G) (cl : List vw_C) (tys : List (ClassId × FieldType)) (av : List Value) (w0 : va_W) (rv : Option Value) (w1 : va_W) : Prop :=
  ∀ sz : Nat, Met l y (.codeWith y b nL ret hh :: gGood) rm (va_Pc av (fun U => CtP D cl tys w0 sz U ∧ gXs (va_A w0 sz) U ∧ gNc U)) (CtQ D cl w0 sz rv w1) 1 6 (va_A w0 sz)
abbrev CtHF (hh : List (Nat × Nat × Nat × Nat)) (D : va_G) (cl : List vw_C) (av : List Value) (w0 : va_W) (rv : Option Value) (w1 : va_W) : List Frame → State → State → Prop := fun below s t => gSdH hh w0 below s → MQ below (CtQ D cl w0 s.heap.size rv w1) av.toArray s 1 6 (va_A w0 s.heap.size) t
theorem CtH.ofG {l : Launch} {y : MethodName} {b : ByteArray} {nL : Nat} {ret : Option FieldType} {hh : List (Nat × Nat × Nat × Nat)} {rm : Room} {D : va_G} {cl : List vw_C} {tys : List (ClassId × FieldType)} {av : List Value} {w0 : va_W} {rv : Option Value} {w1 : va_W} (hy : plainName y.cls = true) (hlen : (lg_sl av).length ≤ nL)
    (body : Gm l y b nL ret rm D cl tys av w0 (CtHF hh D cl av w0 rv w1) 0 0 w0 (lv_args 0 av) 0 []) : CtH l y b nL ret hh rm D cl tys av w0 rv w1 := by
  intro sz
  refine va_MetW (cc := b) (maxL := nL) (ret := ret) (hh := hh) hy rfl ?_
  intro p e s m args below meth c s₁ B hml hv
  obtain ⟨rfl, ⟨hsz, hP, hK, hN, hD0⟩, hX, hNc⟩ := hv
  subst hsz
  have hts := atoms_spec (ws := .codeWith y b nL ret hh :: gGood) B.pre
  have E : Gx p s m av.toArray c b y.cls nL D cl tys := ⟨B.exec, B.bytes, hml, findClass_of_methodNamed B.named, gTs_of (fun w hw => hts w (List.mem_cons_of_mem _ hw)) hN, hK⟩
  have hl := lv_entry av (n := nL) hlen
  have hw := body p e s m below meth c E hN B.returns B.notSynchronized (fun q h => Or.inr h) s.heap [] _ hP hD0.self va_S.rf hl
  rw [lg_entry_eq]
  intro T hT X
  obtain ⟨t, a1, b1⟩ := hw T hT X
  refine ⟨t, a1, b1 ⟨hX, hNc, fun m' a' meth' c' hf hm hc => ?_⟩⟩
  have h9 := B.frames.symm.trans hf
  cases h9
  obtain ⟨m9, meth9, c9, hn9, g1, g2, g3, g4, g5, -⟩ := Cond.codeWith_spec (hts _ List.mem_cons_self)
  cases B.named.symm.trans hn9
  cases g1.symm.trans hm
  cases g2.symm.trans hc
  rw [← g5, table_eq]
section GH
variable {l : Launch} {y : MethodName} {b : ByteArray} {nL : Nat} {ret : Option FieldType} {rm : Room} {D : va_G} {cl : List vw_C} {tys : List (ClassId × FieldType)} {av : List Value} {w0 : va_W} {Qf : List Frame → State → State → Prop} {cells slots : Nat} {ws : va_W} {L : List (Nat × Value)} {pc : Nat} {rest : List Value}
theorem g_iretH {hh : List (Nat × Nat × Nat × Nat)} {v : Int32} (hrt : ret = some .int) (hk : cells ≤ 1) (hn : slots ≤ 6) (d : decode b pc = .ok (.ireturn, 1)) : Gm l y b nL ret rm D cl tys av w0 (CtHF hh D cl av w0 (some (.int v)) ws) cells slots ws L pc [.int v] :=
  fun p e s m below meth c E hN hr hlk hA H locs ls hP hD hS hl => W.widen hk hn (fun T hT X => by
    obtain ⟨t, a, b9⟩ := (W.iret (Qc := CtQ D cl w0 s.heap.size (some (.int v)) ws) (free := va_A w0 s.heap.size) E.1 E.2.1 (hr.trans hrt) (fun t ht hW => ⟨⟨rfl, by rw [ht]; exact hP, hD⟩, hS.F ht⟩) hS.2.2 d hlk) T hT X
    exact ⟨t, a, fun _ => b9⟩)
theorem g_lald {a : Nat} (q0 t0 : Nat) {cA : ClassId} {n : Nat} {f : Nat → Int64} {i : Int32} (d : decode b pc = .ok (.laload, 1)) (ha : ws[q0]? = some (a, .inl (cA, n, .inr (.inl f)))) (ht : tys[t0]? = some (cA, .long)) (hin : vp_in i n) (k0 : Gm l y b nL ret rm D cl tys av w0 Qf cells slots ws L (pc + 1) (.long (f i.toNatClampNeg) :: rest)) : Gm l y b nL ret rm D cl tys av w0 Qf cells slots ws L pc (.int i :: .ref a :: rest) :=
  fun p e s m below meth c E hN hr hlk hA H locs ls hP hD hS hl => va_lald E.1 E.2.1 E.2.2.2.2.2 hP q0 t0 ha ht hin d (k0 p e s m below meth c E hN hr hlk hA H locs ls hP hD hS hl)
theorem g_last {a : Nat} (q0 t0 : Nat) {cA : ClassId} {n : Nat} {f : Nat → Int64} {i : Int32} {x : Int64} {ws' : va_W} (d : decode b pc = .ok (.lastore, 1)) (ha : ws[q0]? = some (a, .inl (cA, n, .inr (.inl f)))) (ht : tys[t0]? = some (cA, .long)) (hin : vp_in i n) (hw : ws.set q0 (a, .inl (cA, n, .inr (.inl (vp_updL f i.toNatClampNeg x)))) = ws') (k0 : Gm l y b nL ret rm D cl tys av w0 Qf cells slots ws' L (pc + 1) rest) : Gm l y b nL ret rm D cl tys av w0 Qf cells slots ws L pc (.long x :: .int i :: .ref a :: rest) := by
  subst hw
  exact fun p e s m below meth c E hN hr hlk hA H locs ls hP hD hS hl => va_last E.1 E.2.1 E.2.2.2.2.2 hP hD hS q0 t0 ha ht hin d (fun H locs hP hD hS => k0 p e s m below meth c E hN hr hlk hA H locs ls hP hD hS hl)
end GH
theorem gXs.calling {A : Nat → Prop} {U : State} {g : JFrame} {mk : MethodId} {a : Array Value} (h : gXs A U) : gXs A (U.calling g mk a) :=
  ⟨⟨gZ1.moved (u := U) (U := U.calling g mk a) (Vm.Alike.refl U.vm) h.1.1, gZ1.moved (u := U) (U := U.calling g mk a) (Vm.Alike.refl U.vm) h.1.2⟩, gDc.same (s := U) (U := U.calling g mk a) rfl h.2⟩
/-- at a call's place: the statics are where they were -/
theorem gXs.at {A B : Nat → Prop} {s U : State} {H : Heap} {locs : List Loc} (h : gXs A s) (hS : va_S A s.heap H locs) (hU : U.heap = H) (hW : s.WarmedH U.vm) (hAB : ∀ q, B q → A q) : gXs B U := by
  refine ⟨⟨?_, ?_⟩, h.2.warm hW⟩
  · rw [hU]; exact ((h.1.1.kept hS.2.1).moved hW.alike).narrow (fun q _ z => hAB q z)
  · rw [hU]; exact ((h.1.2.kept hS.2.1).moved hW.alike).narrow (fun q _ z => hAB q z)
theorem g_callVT {l : Launch} {y : MethodName} {b : ByteArray} {nL : Nat} {ret : Option FieldType} {rm : Room} {D : va_G} {cl : List vw_C} {tys : List (ClassId × FieldType)} {av : List Value} {w0 : va_W} {ws : va_W} {L : List (Nat × Value)} {pc : Nat} {hh : List (Nat × Nat × Nat × Nat)} {rv : Option Value} {w1 : va_W}
    {y2 : MethodName} {b2 : ByteArray} {n2 : Nat} {ret2 : Option FieldType} {rm2 : Room} {a : Nat} {As rest st : List Value} {w2 w3 ws2 : va_W} {ci index : Nat} {q : vw_C} {fs : List Value} {isC : List Nat} {X : String} {pre suf : List ExceptionTableEntry} {x : ExceptionTableEntry}
    (hC : CtT l y2 b2 n2 ret2 rm2 D cl tys (.ref a :: As) w2 X w3)
    (cw : ∀ (s : State) (args : Array Value), (∀ w ∈ gTs, w.before args s = true) → CallW rm s args y.cls q.1 index y2 b2 n2 ret2 (gW y2 b2 n2 ret2) rm2 1 6 As.length) (hc : cl[ci]? = some q) (q0 : Nat) (he : ws[q0]? = some (a, .inr (ci, fs))) (ho : gOver ws w2 w3 ws2 isC)
    (hroom : (rest.map fun v => v.category).sum ≤ 8) (hcs : 1 ≤ rm.cells ∧ 6 ≤ rm.slots) (d : decode b pc = .ok (.invokevirtual index, 3)) (hst : st = As.reverse ++ .ref a :: rest)
    (hsplit : tableOf hh = pre ++ x :: suf) (hpass : ∀ z ∈ pre, z.catchType ≠ 0 ∧ ∃ nm, Cond.classLink y.cls z.catchType nm ∈ gTs ∧ (X, nm) ∈ gPairs) (hx : covers x pc = true) (h0 : x.catchType ≠ 0) (hcl : Cond.classLink y.cls x.catchType X ∈ gTs) (hcast : Cond.castable X X ∈ gDec)
    (k0 : ∀ qq : Nat, Gm l y b nL ret rm D cl tys av w0 (CtHF hh D cl av w0 rv w1) 1 6 ws2 L x.handlerPc [.ref qq]) : Gm l y b nL ret rm D cl tys av w0 (CtHF hh D cl av w0 rv w1) 0 0 ws L pc st := by
  intro p e s m below meth c E hN hr hlk hA H locs ls hP hD hS hl
  by_cases hsd : gSdH hh w0 below s
  · intro T hT Y
    obtain ⟨⟨hrc, hrs, hfr, hlo, hws, hcw, hcode, hini, hy, hlen, hlink⟩, hinst, hsel⟩ := cw s _ E.2.2.2.2.1
    have hF := va_free hD hS hA isC ho.2.1
    have hK : BackT l rm p e below s av.toArray y2 3 8 (PreOf rm 1 6 (va_Pc (.ref a :: As) (fun U => CtP D cl tys w2 H.size U ∧ gXs (va_A w2 H.size) U)))
        (fun A9 a9 v B => ∃ (g : JFrame) (mk : MethodId) (t : State) (L9 : List Loc) (ce : Cell), B.U.heap = t.heap ∧ B.U.vm = t.vm ∧ t.heap[v]? = some ce ∧ ce.vm = .none ∧ A9.U.vm.findClass X = some ce.cls ∧ va_P D cl w3 t.heap ∧ va_F (va_A w2 H.size) (A9.U.calling g mk a9) t ∧ B.locs = A9.locs ++ L9 ∧ (∀ z ∈ L9, va_A w2 H.size z.base) ∧ B.cells = A9.cells + 1 ∧ B.slots = A9.slots + 6) := by
      refine BackT.of_free (bytes := b2) (maxL := n2) (ret := ret2) (E := fun _ st o t L9 k n => k = 1 ∧ n = 6 ∧ ∃ (q : Addr) (ce : Cell), o = .threw q ∧ t.heap[q]? = some ce ∧ ce.vm = .none ∧ st.vm.findClass X = some ce.cls ∧ va_P D cl w3 t.heap ∧ va_F (va_A w2 H.size) st t ∧ ∀ z ∈ L9, va_A w2 H.size z.base) (hC H.size) hfr hlo ?_ ?_ (fun _ _ _ _ _ _ _ _ _ => trivial) ?_ ?_
      · intro m meth c A a X9 hp
        exact ⟨atoms_intro fun w hw => hws w hw _ _ X9.warmed, hws _ hcw _ _ X9.warmed, word_at X9.warmed (Or.inl rfl) hini, by rw [show (headSpec (gW y2 b2 n2 ret2) rm2).room.cells = 1 from hrc]; exact hp.1, by rw [show (headSpec (gW y2 b2 n2 ret2) rm2).room.slots = 6 from hrs]; exact hp.2.1⟩
      · intro m meth c A a g mk X9 hp
        obtain ⟨h1, h2, h3⟩ := hp.2.2
        have h4 := CtP_blind (av := _) a A.U g mk ⟨h1, h2⟩
        exact ⟨h4.1, h4.2, h3.calling⟩
      · intro a st o t hq
        obtain ⟨q, ce, L9, h1, h2, h3, h4, h5, h6, h7, h8, h9⟩ := hq
        exact ⟨L9, 1, 6, h8, rfl, rfl, q, ce, h1, h2, h3, h4, h5, h7, h9⟩
      · intro m meth c A a g mk v t L9 k n X9 hp hq hFr hE
        obtain ⟨e1, e2, q, ce, h1, h2, h3, h4, h5, h6, h7⟩ := hE
        subst e1; subst e2
        cases h1
        exact ⟨g, mk, t, L9, ce, rfl, rfl, h2, h3, h4, h5, h6, rfl, h7, rfl, rfl⟩
    obtain ⟨cellB, hcB, hoB, hclB⟩ := va_recv E.2.2.2.2.2 hP hc he
    obtain ⟨mk, methM, hnamed, hmethM, hstM, habM⟩ := Cond.instanceMethod_spec hinst
    obtain ⟨methM', cM, hmethM', -, -, -, -, -, -, hsigM⟩ := Cond.code_spec hnamed hcode
    cases hmethM.symm.trans hmethM'
    obtain ⟨c2, r2, m2, q1, q2, q3, q4, kP, hkP, hkPi⟩ := Cond.selects_spec hsel
    cases hclB.symm.trans q1
    cases (State.methodFound?_of_named hnamed hy).symm.trans q2
    cases hnamed.symm.trans q3
    have hselP : selectMethod e.platform s.vm cellB.cls mk = .method mk := by rw [Launch.admits_selectMethod Y.admits]; exact q4
    have hdg : decode c.code (F0 m pc ls st).pc = .ok (.invokevirtual index, 3) := by rw [E.2.1]; exact d
    obtain ⟨vm₁, X₁, hstep₁⟩ := Y.invokevirtual E.1 E.2.2.2.1 hlink hnamed hmethM hstM hkP hkPi hy (a := a) (cell := cellB) (by rw [hT]; exact hcB)
      (fun z h => by rw [h] at hoB; cases hoB) hselP hmethM habM hkP hkPi (g := F0 m pc ls st) rfl (argsL := As) (rest := rest) (hlen _ hsigM) hst hdg
    have hpre : CtP D cl tys w2 H.size (T.setVm vm₁) ∧ gXs (va_A w2 H.size) (T.setVm vm₁) :=
      ⟨⟨by show T.heap.size = H.size; rw [hT], by show va_P D cl w2 T.heap; rw [hT]; exact gP_sub hP isC ho.2.1, va_K.moved X₁.warmed.alike E.2.2.2.2.2, hN.warm X₁.warmed, (hD.sub isC ho.1 ho.2.1).weaken (fun _ _ _ _ => trivial)⟩, hsd.1.at hS hT X₁.warmed hF⟩
    obtain ⟨v, B, X', hpost, hsteps⟩ := hK m meth c ⟨T.setVm vm₁, locs, 0, 0⟩ { (F0 m pc ls st) with stack := rest } (.invokevirtual index) mk (Value.ref a :: As).toArray X₁ rfl (hl.1.trans E.2.2.1.symm) hdg (lv_room hroom) (X₁.named hnamed) ⟨by show 0 + 1 ≤ rm.cells; omega, by show 0 + 6 ≤ rm.slots; omega, rfl, hpre⟩
    obtain ⟨U', l2, c2', s2⟩ := B
    obtain ⟨g', mk', t, L9, ce, e1, e2, h2, h3, h4, h5, h6, g1, h7, g2, g3⟩ := hpost
    dsimp only [Pt.U, Pt.locs, Pt.cells, Pt.slots] at X' e1 e2 h4 g1 g2 g3 hsteps
    subst g1; subst g2; subst g3
    have hXc : s.vm.findClass X = some ce.cls := by
      rw [X₁.warmed.alike.findClass] at h4
      exact h4
    have hsz : (T.setVm vm₁).heap = H := hT
    have h6' : va_F (va_A w2 H.size) (T.setVm vm₁) t := h6
    obtain ⟨hz, hk⟩ := h6'
    rw [hsz] at hz hk
    have hk1 : ∀ z : Nat, z < H.size → ¬ va_A w2 H.size z → U'.heap[z]? = H[z]? := fun z z1 z2 => by rw [e1]; exact hk z z1 z2
    have hP2 : va_P D cl ws2 U'.heap := gNewP hP hD hk1 (by rw [e1]; exact h5) isC ho.2.1 ho.2.2.2
    have hS' : va_S (va_A w0 s.heap.size) s.heap U'.heap (locs ++ L9) := ⟨Nat.le_trans hS.1 (by rw [e1]; exact hz), fun z z1 z2 => by rw [hk1 z (Nat.lt_of_lt_of_le z1 hS.1) (fun w => z2 (hF z w))]; exact hS.2.1 z z1 z2, fun z hz9 => by
      rcases List.mem_append.mp hz9 with h | h
      · exact hS.2.2 z h
      · exact hF _ (h7 z h)⟩
    have hpl : e.platform.magicAccessors = ({} : Platform).magicAccessors := by rw [Y.admits.platform]
    have htab := hsd.2.2 m av.toArray meth c Y.frames Y.method Y.code
    obtain ⟨c5, hc5, hcl5⟩ := Cond.classLink_spec E.2.2.2.1 (E.2.2.2.2.1 _ hcl) e.platform hpl
    obtain ⟨c6, c7, hc6, hc7, hasg⟩ := Cond.castable_spec (va_Nw.use (A := av.toArray) rfl (hsd.1.2 _ hcast))
    cases hXc.symm.trans hc6
    cases hXc.symm.trans hc7
    cases hXc.symm.trans hc5
    obtain ⟨vm', X'', st2⟩ := X'.caughtThrough v (g := { (F0 m pc ls st) with stack := rest }) rfl (cell := ce) (by rw [e1]; exact h2) (by rw [h3]; rfl) (by obtain ⟨k9, h9, -⟩ := Vm.findClass_spec hXc; exact ⟨k9, h9⟩) pre x suf (htab.trans hsplit)
      (fun z hz9 => by
        obtain ⟨z0, nm, z1, z2⟩ := hpass z hz9
        obtain ⟨c8, hc8, hcl8⟩ := Cond.classLink_spec E.2.2.2.1 (E.2.2.2.2.1 _ z1) e.platform hpl
        obtain ⟨a8, b8, w1, w2, w3⟩ := hsd.2.1 _ z2
        cases hXc.symm.trans w1
        cases hc8.symm.trans w2
        exact Or.inr ⟨z0, _, hcl8, w3⟩) hx (Or.inr ⟨h0, _, hcl5, hasg⟩)
    obtain ⟨t2, a1, b1⟩ := k0 v p e s m below meth c E hN hr hlk hA U'.heap (locs ++ L9) ls hP2 (gD_fst hD ho.2.2.1) hS' hl (U'.setVm vm') rfl X''
    refine ⟨t2, ?_, b1⟩
    refine hstep₁ _ fun acts => ?_
    rw [doInvoke_state]
    refine hsteps.trans ?_
    rw [X'.pushThrowing_eq]
    exact st2 _ a1
  · intro T hT Y
    exact ⟨_, Steps.refl _, fun z => absurd z hsd⟩
