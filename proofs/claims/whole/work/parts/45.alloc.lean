/-! constructors: new cells come to the world's end; contracts with addresses that come -/
def gAO (U : State) : Prop := va_AO "FrameUnwinder$Entry" U ∧ va_AO "FrameUnwinder$Row" U
theorem gAO.warm {s U : State} (hW : s.WarmedH U.vm) (h : gAO s) : gAO U := ⟨h.1.moved hW.alike, h.2.moved hW.alike⟩
def gSdN (y : MethodName) (below : List Frame) (s : State) : Prop := gAO s ∧ ∀ (m : MethodId) (a : Array Value), s.frames = .invoking m a :: below → s.methodNamed? y = some m
abbrev gSide (y : MethodName) (Q0 : List Frame → State → State → Prop) : List Frame → State → State → Prop := fun below s t => gSdN y below s → Q0 below s t
def CtNQ {ι : Type} (D : va_G) (cl : List vw_C) (w0 : va_W) (sz : Nat) (w1 : ι → va_W) : Array Value → State → Outcome → State → Prop := fun _ st oc t => (oc = .returned none ∧ ∃ i : ι, va_P D cl (w1 i) t.heap ∧ va_D (va_A w0 sz) (w1 i)) ∧ va_F (va_A w0 sz) st t
/-- a constructor's contract: from w0 it comes to w1 i, with some new addresses i; mc cells of ms slots are new -/
def CtN {ι : Type} (l : Launch) (y : MethodName) (b : ByteArray) (nL : Nat) (rm : Room) (D : va_G) (cl : List vw_C) (tys : List (ClassId × FieldType)) (av : List Value) (w0 : va_W) (w1 : ι → va_W) (mc ms : Nat) : Prop :=
  ∀ sz : Nat, Met l y (gW y b nL none) rm (va_Pc av (fun U => CtP D cl tys w0 sz U ∧ gAO U)) (CtNQ D cl w0 sz w1) mc ms (va_A w0 sz)
abbrev CtNF {ι : Type} (y : MethodName) (D : va_G) (cl : List vw_C) (av : List Value) (w0 : va_W) (w1 : ι → va_W) (mc ms : Nat) : List Frame → State → State → Prop := gSide y (fun below s => MQ below (CtNQ D cl w0 s.heap.size w1) av.toArray s mc ms (va_A w0 s.heap.size))
theorem CtN.ofG {ι : Type} {l : Launch} {y : MethodName} {b : ByteArray} {nL : Nat} {rm : Room} {D : va_G} {cl : List vw_C} {tys : List (ClassId × FieldType)} {av : List Value} {w0 : va_W} {w1 : ι → va_W} {mc ms : Nat} (hy : plainName y.cls = true) (hlen : (lg_sl av).length ≤ nL)
    (body : Gm l y b nL none rm D cl tys av w0 (CtNF y D cl av w0 w1 mc ms) 0 0 w0 (lv_args 0 av) 0 []) : CtN l y b nL rm D cl tys av w0 w1 mc ms := by
  intro sz
  refine Met.ofW (cc := b) (maxL := nL) (ret := none) hy rfl ?_
  intro p e s m args below meth c s₁ B hml hv
  obtain ⟨rfl, ⟨hsz, hP, hK, hN, hD0⟩, hO⟩ := hv
  subst hsz
  have hts := atoms_spec (ws := gW y b nL none) B.pre
  have E : Gx p s m av.toArray c b y.cls nL D cl tys := ⟨B.exec, B.bytes, hml, findClass_of_methodNamed B.named, gTs_of (fun w hw => hts w (List.mem_cons_of_mem _ hw)) hN, hK⟩
  have hl := lv_entry av (n := nL) hlen
  have hw := body p e s m below meth c E hN B.returns B.notSynchronized (fun q h => Or.inr h) s.heap [] _ hP hD0.self va_S.rf hl
  rw [lg_entry_eq]
  intro T hT X
  obtain ⟨t, a1, b1⟩ := hw T hT X
  refine ⟨t, a1, b1 ⟨hO, fun m' a' hf => ?_⟩⟩
  have h9 := B.frames.symm.trans hf
  cases h9
  exact B.named
section GN
variable {l : Launch} {y : MethodName} {b : ByteArray} {nL : Nat} {ret : Option FieldType} {rm : Room} {D : va_G} {cl : List vw_C} {tys : List (ClassId × FieldType)} {av : List Value} {w0 : va_W} {Qf Q0 : List Frame → State → State → Prop} {cells slots : Nat} {ws : va_W} {L : List (Nat × Value)} {pc : Nat} {rest : List Value}
theorem g_vretN {ι : Type} {w1 : ι → va_W} {mc ms : Nat} (i : ι) (hrt : ret = none) (hk : cells ≤ mc) (hn : slots ≤ ms) (hw : ws = w1 i) (d : decode b pc = .ok (.return_, 1)) : Gm l y b nL ret rm D cl tys av w0 (CtNF y D cl av w0 w1 mc ms) cells slots ws L pc [] := by
  subst hw
  exact fun p e s m below meth c E hN hr hlk hA H locs ls hP hD hS hl => W.widen hk hn (fun T hT X => by
    obtain ⟨t, a, b9⟩ := (W.vret (Qc := CtNQ D cl w0 s.heap.size w1) (free := va_A w0 s.heap.size) E.1 E.2.1 (hr.trans hrt) (fun t ht hW => ⟨⟨rfl, i, by rw [ht]; exact hP, hD⟩, hS.F ht⟩) hS.2.2 d hlk) T hT X
    exact ⟨t, a, fun _ => b9⟩)
theorem g_new {C : String} {T : u_T} {N ci index : Nat} {fs : List Value} {ws' : Nat → va_W} (hin : ∀ w ∈ u_ws C T N, w ∈ gTs) (ty : Nat → FieldType) (hty : ∀ k, k < N → parseFieldDescriptor (T k).2.2.1 = some (ty k)) (hcl : Cond.classLink y.cls index C ∈ gTs) (hinst : Cond.instantiable C N ∈ gTs) (hini : Cond.initialized C ∈ gTs) (hc : cl[ci]? = some (C, T, N)) (hfs : ∀ j, j < N → defaultValue (ty j) = vp_V fs j) (hcells : cells + 1 ≤ rm.cells) (hslots : slots + N ≤ rm.slots) (hw : ∀ q, ws ++ [(q, .inr (ci, fs))] = ws' q) (d : decode b pc = .ok (.new index, 3))
    (k0 : ∀ q : Nat, Gm l y b nL ret rm D cl tys av w0 Qf (cells + 1) (slots + N) (ws' q) L (pc + 3) (.ref q :: rest)) : Gm l y b nL ret rm D cl tys av w0 Qf cells slots ws L pc rest :=
  fun p e s m below meth c E hN hr hlk hA H locs ls hP hD hS hl => va_new E.1 E.2.1 E.2.2.2.2.1 hin ty hty E.2.2.2.1 (E.2.2.2.2.1 _ hcl) (E.2.2.2.2.1 _ hinst) (E.2.2.2.2.1 _ hini) E.2.2.2.2.2 hP hD hS hA hc hfs hcells hslots d (fun q H hP hD hS => k0 q p e s m below meth c E hN hr hlk hA H locs ls (hw q ▸ hP) (hw q ▸ hD) hS hl)
theorem g_newa {atype : ArrayType} {ty : FieldType} {n : Int32} {N' : Nat} {a0 : vp_A} {cK : ClassId} {ws' : Nat → va_W} (harr : Cond.arrayClass (newarray.typeOf atype) ∈ gTs) (hty : newarray.typeOf atype = ty) (t0 : Nat) (ht : tys[t0]? = some (cK, ty)) (hra : ∀ s : State, va_RA s cK ty → s.vm.findClass ("[" ++ ty.toString) = some cK) (ha : ∀ cA : ClassId, vp_cell cA a0 = arrV cA N' (fun _ => defaultValue ty)) (hn : ¬ n < 0) (hN9 : n.toNatClampNeg = N') (hbytes : N' * componentBytes ty ≤ 536870912) (hcells : cells + 1 ≤ rm.cells) (hslots : slots + N' ≤ rm.slots) (hw : ∀ q, ws ++ [(q, .inl (cK, a0))] = ws' q) (d : decode b pc = .ok (.newarray atype, 2))
    (k0 : ∀ q : Nat, Gm l y b nL ret rm D cl tys av w0 Qf (cells + 1) (slots + N') (ws' q) L (pc + 2) (.ref q :: rest)) : Gm l y b nL ret rm D cl tys av w0 Qf cells slots ws L pc (.int n :: rest) := by
  subst hty
  exact fun p e s m below meth c E hN hr hlk hA H locs ls hP hD hS hl => va_newa E.1 E.2.1 (E.2.2.2.2.1 _ harr) rfl E.2.2.2.2.2 hP hD hS hA ha hn hN9 hbytes hcells hslots d (fun q cA H hK hP hD hS => by
    have h1 := hK.2 tys.length (cA, newarray.typeOf atype) (by rw [List.getElem?_append_right (Nat.le_refl _), Nat.sub_self]; rfl)
    have h2 := hra s (E.2.2.2.2.2.2 t0 _ ht).2
    have h3 : cA = cK := by
      have h4 : s.vm.findClass ("[" ++ (newarray.typeOf atype).toString) = some cA := by cases atype <;> exact h1.2
      exact Option.some.inj (h4.symm.trans h2)
    subst h3
    exact k0 q p e s m below meth c E hN hr hlk hA H locs ls (hw q ▸ hP) (hw q ▸ hD) hS hl)
theorem g_newq {C : String} {index : Nat} {n : Int32} {N' : Nat} {cK : ClassId} {ws' : Nat → va_W} (hcl : Cond.classLink y.cls index C ∈ gTs) (hO : ∀ s : State, gAO s → va_AO C s) (t0 : Nat) (ht : tys[t0]? = some (cK, .object C)) (hn : ¬ n < 0) (hN9 : n.toNatClampNeg = N') (hbytes : N' * 4 ≤ 536870912) (hcells : cells + 1 ≤ rm.cells) (hslots : slots + N' ≤ rm.slots) (hw : ∀ q, ws ++ [(q, .inl (cK, N', .inr (.inr (.inr (.inr (fun _ => none))))))] = ws' q) (d : decode b pc = .ok (.anewarray index, 3))
    (k0 : ∀ q : Nat, Gm l y b nL ret rm D cl tys av w0 (gSide y Q0) (cells + 1) (slots + N') (ws' q) L (pc + 3) (.ref q :: rest)) : Gm l y b nL ret rm D cl tys av w0 (gSide y Q0) cells slots ws L pc (.int n :: rest) := by
  intro p e s m below meth c E hN hr hlk hA H locs ls hP hD hS hl
  by_cases hsd : gSdN y below s
  · exact va_newq E.1 E.2.1 E.2.2.2.1 (E.2.2.2.2.1 _ hcl) (hO s hsd.1) E.2.2.2.2.2 hP hD hS hA hn hN9 hbytes hcells hslots d (fun q cA H hK hP hD hS => by
      obtain ⟨-, kA, comp, -, -, -, h4⟩ := hK.2 tys.length (cA, .object C) (by rw [List.getElem?_append_right (Nat.le_refl _), Nat.sub_self]; rfl)
      obtain ⟨-, kB, comp2, -, -, -, h5⟩ := E.2.2.2.2.2.2 t0 _ ht
      have h3 : cA = cK := Option.some.inj (h4.symm.trans h5)
      subst h3
      exact k0 q p e s m below meth c E hN hr hlk hA H locs ls (hw q ▸ hP) (hw q ▸ hD) hS hl)
  · intro T hT Y
    exact ⟨_, Steps.refl _, fun z => absurd z hsd⟩
theorem g_astq {a v : Nat} (q0 t0 qk ci : Nat) {cA : ClassId} {r : vw_C} {n : Nat} {vs : List Value} {f : Nat → Option Nat} {i : Int32} {ws' : va_W} (d : decode b pc = .ok (.aastore, 1)) (ha : ws[q0]? = some (a, .inl (cA, n, .inr (.inr (.inr (.inr f)))))) (ht : tys[t0]? = some (cA, .object r.1)) (hv : ws[qk]? = some (v, .inr (ci, vs))) (hc : cl[ci]? = some r) (hin : vp_in i n) (hw : ws.set q0 (a, .inl (cA, n, .inr (.inr (.inr (.inr (va_up f i.toNatClampNeg (some v))))))) = ws')
    (k0 : Gm l y b nL ret rm D cl tys av w0 Qf cells slots ws' L (pc + 1) rest) : Gm l y b nL ret rm D cl tys av w0 Qf cells slots ws L pc (.ref v :: .int i :: .ref a :: rest) := by
  subst hw
  exact fun p e s m below meth c E hN hr hlk hA H locs ls hP hD hS hl => va_astq E.1 E.2.1 E.2.2.2.2.2 hP hD hS q0 t0 qk ci ha ht hv hc hin d (fun H locs hP hD hS => k0 p e s m below meth c E hN hr hlk hA H locs ls hP hD hS hl)
theorem g_putF {a : Nat} {C : String} {T : u_T} {N ci index : Nat} (hin : ∀ w ∈ u_ws C T N, w ∈ gTs) (hc : cl[ci]? = some (C, T, N)) (ty0 : Nat → FieldType) (hty : ∀ k, k < N → parseFieldDescriptor (T k).2.2.1 = some (ty0 k)) (hnm : ∀ a, a < N → ∀ b, b < N → a ≠ b → (T a).2.1 ≠ (T b).2.1) (k : Nat) (hk : k < N) (hlink : Cond.fieldLink y.cls index y.cls (T k).2.1 (T k).2.2.1 ∈ gTs) (hdecl : (T k).1 = y.cls) (hyn : y.name = "<init>") (hfin : (T k).2.2.2 = true) {ty : FieldType} (hd : parseFieldDescriptor (T k).2.2.1 = some ty) (q0 : Nat) {fs : List Value} (he : ws[q0]? = some (a, .inr (ci, fs))) {v : Value} (hn : narrow ty v = v) (hfit : fits ty v = true) (hlf : k < fs.length) {ws' : va_W} (hw : ws.set q0 (a, .inr (ci, fs.set k v)) = ws') (d : decode b pc = .ok (.putfield index, 3))
    (k0 : Gm l y b nL ret rm D cl tys av w0 (gSide y Q0) cells slots ws' L (pc + 3) rest) : Gm l y b nL ret rm D cl tys av w0 (gSide y Q0) cells slots ws L pc (v :: .ref a :: rest) := by
  subst hw
  intro p e s m below meth c E hN hr hlk hA H locs ls hP hD hS hl
  by_cases hsd : gSdN y below s
  · intro T9 hT Y
    have hname : meth.name = "<init>" := (name_of_methodNamed (hsd.2 m av.toArray Y.frames) Y.method).1.trans hyn
    exact (va_putF E.1 E.2.1 E.2.2.2.2.1 hin ty0 hty hnm E.2.2.2.1 E.2.2.2.2.2 hP hD hS q0 he hc k hk (E.2.2.2.2.1 _ hlink) (fun x9 h9 => by rw [← hdecl]; exact h9) hfin hname hdecl hd hn hfit hlf d (fun H locs hP hD hS => k0 p e s m below meth c E hN hr hlk hA H locs ls hP hD hS hl)) T9 hT Y
  · intro T hT Y
    exact ⟨_, Steps.refl _, fun z => absurd z hsd⟩
theorem g_init {a idx : Nat} (hlink : Cond.methodLink y.cls idx Lib.objectInit ∈ gTs) (hinst : Cond.instanceMethod Lib.objectInit ∈ gTs) (hcode : Cond.code Lib.objectInit ⟨#[0xb1]⟩ 1 none ∈ gTs) (hf : 1 ≤ rm.frames) (hlo : 2 * 0 + (rest.map fun v => v.category).sum + 12 ≤ rm.locals) (d : decode b pc = .ok (.invokespecial idx, 3)) (k0 : Gm l y b nL ret rm D cl tys av w0 Qf cells slots ws L (pc + 3) rest) : Gm l y b nL ret rm D cl tys av w0 Qf cells slots ws L pc (.ref a :: rest) :=
  fun p e s m below meth c E hN hr hlk hA H locs ls hP hD hS hl => W.objInit E.1 E.2.1 E.2.2.2.1 (E.2.2.2.2.1 _ hlink) (E.2.2.2.2.1 _ hinst) (E.2.2.2.2.1 _ hcode) rfl (hl.1.trans E.2.2.1.symm) rfl d hf hlo (k0 p e s m below meth c E hN hr hlk hA H locs ls hP hD hS hl)
end GN
/-- behind a constructor of ours -/
theorem gAfterN {ι : Type} {p : Program} {l : Launch} {e : Env} {R : Room} {s : State} {m : MethodId} {args : Array Value} {below : List Frame} {meth : Method} {c : Code} {H : Heap} {locs : List Loc} {cells slots mc ms : Nat} {Q : State → Prop} {D : va_G} {cl : List vw_C} {A : Nat → Prop} {H0 : Heap} {pc : Nat} {ls : Array Slot} {st0 rest : List Value} {ws w2 wr : va_W} {w3 : ι → va_W} {a : Array Value}
    (hr : va_Run p l e R s m args below meth c H locs cells slots mc ms (F0 m pc ls st0) rest (CtNQ D cl w2 H.size w3 a) (va_A w2 H.size))
    (hP : va_P D cl ws H) (hD : va_D A ws) (hS : va_S A H0 H locs) (hA : ∀ q, H0.size ≤ q → A q) (isC isR : List Nat) (hiC : isC.map (fun i => ws[i]?) = w2.map some) (hiR : isR.map (fun i => ws[i]?) = wr.map some) (hnR : va_nd isR = true) (hdis : ∀ i ∈ isR, i ∉ isC)
    (kk : ∀ (i : ι) (H1 : Heap) (locs1 : List Loc), va_P D cl (wr ++ w3 i) H1 → va_D A (wr ++ w3 i) → va_S A H0 H1 locs1 → W p l e R s m args below meth c H1 locs1 (cells + mc) (slots + ms) Q (F0 m (pc + 3) ls rest)) : W p l e R s m args below meth c H locs cells slots Q (F0 m pc ls st0) := by
  intro T hT X
  obtain ⟨v, st₀, t, T', L', h0, X', hL, e1, e2, ⟨⟨hv, i, hP1, hD1⟩, hz, hk⟩, st⟩ := hr T hT X
  cases hv
  rw [h0] at hz hk
  have hF : ∀ q, va_A w2 H.size q → A q := va_free hD hS hA isC hiC
  have hk1 : ∀ q : Nat, q < H.size → ¬ va_A w2 H.size q → T'.heap[q]? = H[q]? := fun q h1 h2 => by rw [e1]; exact hk q h1 h2
  obtain ⟨hP2, hD2⟩ := va_join hP hD isC isR hiC hiR hnR hdis hk1 hF (by rw [e1]; exact hP1) hD1
  have hS' : va_S A H0 T'.heap (locs ++ L') := ⟨Nat.le_trans hS.1 (by rw [e1]; exact hz), fun q h1 h2 => by rw [hk1 q (Nat.lt_of_lt_of_le h1 hS.1) (fun z => h2 (hF q z))]; exact hS.2.1 q h1 h2, fun q hq => by
    rcases List.mem_append.mp hq with h | h
    · exact hS.2.2 q h
    · exact hF _ (hL q h)⟩
  obtain ⟨t2, a1, b1⟩ := kk i T'.heap (locs ++ L') hP2 hD2 hS' T' rfl X'
  exact ⟨t2, st t2 a1, b1⟩
theorem CtN_blind {D : va_G} {cl : List vw_C} {tys : List (ClassId × FieldType)} {w0 : va_W} {sz : Nat} {av : List Value} : FrameBlind (va_Pc av (fun U => CtP D cl tys w0 sz U ∧ gAO U)) := fun a U g mk q => by
  obtain ⟨q0, q1, q2⟩ := q
  have h := CtP_blind (av := av) a U g mk ⟨q0, q1⟩
  exact ⟨h.1, h.2, q2.1.moved (u := U) (U := U.calling g mk a) (Vm.Alike.refl U.vm), q2.2.moved (u := U) (U := U.calling g mk a) (Vm.Alike.refl U.vm)⟩
section GI
variable {ι : Type} {l : Launch} {y : MethodName} {b : ByteArray} {nL : Nat} {ret : Option FieldType} {rm : Room} {D : va_G} {cl : List vw_C} {tys : List (ClassId × FieldType)} {av : List Value} {w0 : va_W} {Q0 : List Frame → State → State → Prop} {cells slots : Nat} {ws : va_W} {L : List (Nat × Value)} {pc : Nat}
variable {y2 : MethodName} {b2 : ByteArray} {n2 : Nat} {rm2 : Room} {a : Nat} {As rest st : List Value} {w2 wr : va_W} {w3 ws2 : ι → va_W} {index mc ms : Nat}
theorem g_initI (hC : CtN l y2 b2 n2 rm2 D cl tys (.ref a :: As) w2 w3 mc ms)
    (cw : ∀ (s : State) (args : Array Value), (∀ w ∈ gTs, w.before args s = true) → CallB rm s args y.cls index y2 b2 n2 none (gW y2 b2 n2 none) rm2 mc ms As.length ∧ y2.name = "<init>" ∧ (Cond.instanceMethod y2).before args s = true)
    (isC isR : List Nat) (hnC : va_nd isC = true) (hiC : isC.map (fun i => ws[i]?) = w2.map some) (hiR : isR.map (fun i => ws[i]?) = wr.map some) (hnR : va_nd isR = true) (hdis : ∀ i ∈ isR, i ∉ isC) (hw : ∀ i, wr ++ w3 i = ws2 i)
    (hroom : (rest.map fun v => v.category).sum ≤ 8) (hcs : cells + mc ≤ rm.cells ∧ slots + ms ≤ rm.slots) (d : decode b pc = .ok (.invokespecial index, 3)) (hst : st = As.reverse ++ .ref a :: rest)
    (k0 : ∀ i, Gm l y b nL ret rm D cl tys av w0 (gSide y Q0) (cells + mc) (slots + ms) (ws2 i) L (pc + 3) rest) : Gm l y b nL ret rm D cl tys av w0 (gSide y Q0) cells slots ws L pc st := by
  intro p e s m below meth c E hN hr hlk hA H locs ls hP hD hS hl
  by_cases hsd : gSdN y below s
  · exact gAfterN (va_runI (g := F0 m pc ls st) ⟨E.1, E.2.1, E.2.2.1, E.2.2.2.1, E.2.2.2.2.1⟩ (hC H.size) (cw s _ E.2.2.2.2.1)
      ⟨CtN_blind, fun U hU hW => ⟨rfl, ⟨by rw [hU], by rw [hU]; exact gP_sub hP isC hiC, va_K.moved hW.alike E.2.2.2.2.2, hN.warm hW, (hD.sub isC hnC hiC).weaken (fun _ _ _ _ => trivial)⟩, hsd.1.warm hW⟩⟩ rfl rfl hl.1 hst (lv_room hroom) d hcs) hP hD hS hA isC isR hiC hiR hnR hdis (fun i H locs hP hD hS => k0 i p e s m below meth c E hN hr hlk hA H locs ls (hw i ▸ hP) (hw i ▸ hD) hS hl)
  · intro T hT Y
    exact ⟨_, Steps.refl _, fun z => absurd z hsd⟩
theorem g_initIN {host : String} (hC : CtN l y2 b2 n2 rm2 D cl tys (.ref a :: As) w2 w3 mc ms)
    (cw : ∀ (s : State) (args : Array Value), (∀ w ∈ gTs, w.before args s = true) → va_CN rm s args y.cls index y2 host b2 n2 none (gW y2 b2 n2 none) rm2 mc ms As.length ∧ y2.name = "<init>" ∧ (Cond.instanceMethod y2).before args s = true)
    (isC isR : List Nat) (hnC : va_nd isC = true) (hiC : isC.map (fun i => ws[i]?) = w2.map some) (hiR : isR.map (fun i => ws[i]?) = wr.map some) (hnR : va_nd isR = true) (hdis : ∀ i ∈ isR, i ∉ isC) (hw : ∀ i, wr ++ w3 i = ws2 i)
    (hroom : (rest.map fun v => v.category).sum ≤ 8) (hcs : cells + mc ≤ rm.cells ∧ slots + ms ≤ rm.slots) (d : decode b pc = .ok (.invokespecial index, 3)) (hst : st = As.reverse ++ .ref a :: rest)
    (k0 : ∀ i, Gm l y b nL ret rm D cl tys av w0 (gSide y Q0) (cells + mc) (slots + ms) (ws2 i) L (pc + 3) rest) : Gm l y b nL ret rm D cl tys av w0 (gSide y Q0) cells slots ws L pc st := by
  intro p e s m below meth c E hN hr hlk hA H locs ls hP hD hS hl
  by_cases hsd : gSdN y below s
  · exact gAfterN (va_runIN (g := F0 m pc ls st) ⟨E.1, E.2.1, E.2.2.1, E.2.2.2.1, E.2.2.2.2.1⟩ (hC H.size) (cw s _ E.2.2.2.2.1)
      ⟨CtN_blind, fun U hU hW => ⟨rfl, ⟨by rw [hU], by rw [hU]; exact gP_sub hP isC hiC, va_K.moved hW.alike E.2.2.2.2.2, hN.warm hW, (hD.sub isC hnC hiC).weaken (fun _ _ _ _ => trivial)⟩, hsd.1.warm hW⟩⟩ rfl rfl hl.1 hst (lv_room hroom) d hcs) hP hD hS hA isC isR hiC hiR hnR hdis (fun i H locs hP hD hS => k0 i p e s m below meth c E hN hr hlk hA H locs ls (hw i ▸ hP) (hw i ▸ hD) hS hl)
  · intro T hT Y
    exact ⟨_, Steps.refl _, fun z => absurd z hsd⟩
end GI
theorem g_wsub {l : Launch} {y : MethodName} {b : ByteArray} {nL : Nat} {ret : Option FieldType} {rm : Room} {D : va_G} {cl : List vw_C} {tys : List (ClassId × FieldType)} {av : List Value} {w0 : va_W} {Qf : List Frame → State → State → Prop} {cells slots : Nat} {ws ws' : va_W} {L : List (Nat × Value)} {pc : Nat} {st : List Value} (is : List Nat) (hn : va_nd is = true) (h : is.map (fun i => ws[i]?) = ws'.map some) (k0 : Gm l y b nL ret rm D cl tys av w0 Qf cells slots ws' L pc st) : Gm l y b nL ret rm D cl tys av w0 Qf cells slots ws L pc st :=
  fun p e s m below meth c E hN hr hlk hA H locs ls hP hD hS hl => k0 p e s m below meth c E hN hr hlk hA H locs ls (gP_sub hP is h) (hD.sub is hn h) hS hl
