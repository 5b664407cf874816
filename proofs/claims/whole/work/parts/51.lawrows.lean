/-! the law's own rows -/
def gSdL (b0 Ls : Nat) (xs : Nat → Int32) (s : State) : Prop := gXs (va_A [] s.heap.size) s ∧ gNc s ∧ va_X b0 Ls xs s s.heap ∧ b0 < s.heap.size
abbrev LwF (b0 Ls : Nat) (xs : Nat → Int32) : List Frame → State → State → Prop := gSide x (fun below s t => gSdL b0 Ls xs s → lw_Z below #[Value.ref b0] s t)
theorem gA0 {sz q : Nat} (h : va_A [] sz q) : sz ≤ q := by
  rcases h with ⟨k, e, h⟩ | h
  · simp at h
  · exact h
section GL
variable {l : Launch} {D : va_G} {cl : List vw_C} {tys : List (ClassId × FieldType)} {cells slots : Nat} {ws : va_W} {L : List (Nat × Value)} {pc : Nat} {rest : List Value} {b0 Ls : Nat} {xs : Nat → Int32}
theorem g_sld {i : Int32} (d : decode code pc = .ok (.iaload, 1)) (hin : vp_in i Ls) (k0 : Gm l x code 7 (some .boolean) room_1 D cl tys [.ref b0] [] (LwF b0 Ls xs) cells slots ws L (pc + 1) (.int (xs i.toNatClampNeg) :: rest)) : Gm l x code 7 (some .boolean) room_1 D cl tys [.ref b0] [] (LwF b0 Ls xs) cells slots ws L pc (.int i :: .ref b0 :: rest) := by
  intro p e s m below meth c E hN hr hlk hA H locs ls hP hD hS hl
  by_cases hsd : gSdL b0 Ls xs s
  · exact va_sld E.1 E.2.1 hsd.2.2.1 hsd.2.2.2 (fun z => Nat.not_lt.mpr (gA0 z) hsd.2.2.2) hS hin d (k0 p e s m below meth c E hN hr hlk hA H locs ls hP hD hS hl)
  · intro T hT Y
    exact ⟨_, Steps.refl _, fun _ z => absurd z hsd⟩
theorem g_slen (d : decode code pc = .ok (.arraylength, 1)) (k0 : Gm l x code 7 (some .boolean) room_1 D cl tys [.ref b0] [] (LwF b0 Ls xs) cells slots ws L (pc + 1) (.int (Int32.ofNat Ls) :: rest)) : Gm l x code 7 (some .boolean) room_1 D cl tys [.ref b0] [] (LwF b0 Ls xs) cells slots ws L pc (.ref b0 :: rest) := by
  intro p e s m below meth c E hN hr hlk hA H locs ls hP hD hS hl
  by_cases hsd : gSdL b0 Ls xs s
  · exact va_slen E.1 E.2.1 hsd.2.2.1 hsd.2.2.2 (fun z => Nat.not_lt.mpr (gA0 z) hsd.2.2.2) hS d (k0 p e s m below meth c E hN hr hlk hA H locs ls hP hD hS hl)
  · intro T hT Y
    exact ⟨_, Steps.refl _, fun _ z => absurd z hsd⟩
theorem g_lawret (hk : cells ≤ 601024) (hn : slots ≤ 7293034) (d : decode code pc = .ok (.ireturn, 1)) : Gm l x code 7 (some .boolean) room_1 D cl tys [.ref b0] [] (LwF b0 Ls xs) cells slots ws L pc [.int 1] :=
  fun p e s m below meth c E hN hr hlk hA H locs ls hP hD hS hl => va_forget (fun q hq => gA0 (hS.2.2 q hq)) (W.widen hk hn (fun T hT X => by
    obtain ⟨t, a, b9⟩ := (lw_ret (b := b0) E.1 E.2.1 hr hlk d) T hT X
    exact ⟨t, a, fun _ _ => b9⟩))
theorem g_callSH {y2 : MethodName} {b2 : ByteArray} {n2 : Nat} {ret2 : Option FieldType} {rm2 : Room} {hh : List (Nat × Nat × Nat × Nat)} {As st st2 : List Value} {w2 w3 ws2 : va_W} {rv : Option Value} {index : Nat} {isC : List Nat}
    (hC : CtH l y2 b2 n2 ret2 hh rm2 D cl tys As w2 rv w3) (hcode : Cond.codeWith y2 b2 n2 ret2 hh ∈ gTs) (hlink : Cond.methodLink x.cls index y2 ∈ gTs) (hstat : Cond.static y2 ∈ gTs) (hini : Cond.initialized y2.cls ∈ gTs) (hy : y2.cls ≠ "java/lang/invoke/MethodHandle" ∧ y2.cls ≠ "java/lang/invoke/VarHandle" ∧ (parseMethodDescriptor y2.desc).map (fun d => d.parameters.length) = some As.length)
    (hrc : rm2.cells = 1) (hrs : rm2.slots = 6) (hR : rm2.frames + 1 ≤ 10 ∧ 8 + (n2 + 11) + rm2.locals ≤ 402) (ho : gOver ws w2 w3 ws2 isC) (hroom : (rest.map fun v => v.category).sum ≤ 8) (hcs : cells + 1 ≤ 601024 ∧ slots + 6 ≤ 7293034) (d : decode code pc = .ok (.invokestatic index, 3)) (hst : st = As.reverse ++ rest) (hs2 : rv.toList ++ rest = st2)
    (k0 : Gm l x code 7 (some .boolean) room_1 D cl tys [.ref b0] [] (LwF b0 Ls xs) (cells + 1) (slots + 6) ws2 L (pc + 3) st2) : Gm l x code 7 (some .boolean) room_1 D cl tys [.ref b0] [] (LwF b0 Ls xs) cells slots ws L pc st := by
  intro p e s m below meth c E hN hr hlk hA H locs ls hP hD hS hl
  by_cases hsd : gSdL b0 Ls xs s
  · intro T hT Y
    have hts := E.2.2.2.2.1
    have hF := va_free hD hS hA isC ho.2.1
    have hgw : ∀ w ∈ (Cond.codeWith y2 b2 n2 ret2 hh :: gGood), ∀ (a' : Array Value) (U : State), s.WarmedH U.vm → w.before a' U = true := by
      intro w hw a' U hW
      rcases List.mem_cons.mp hw with rfl | hw
      · exact word_at hW (Or.inl rfl) (hts _ hcode)
      · exact word_at hW (good_of_word (List.mem_filter.mp hw).2) (hts _ (List.mem_append_right _ hw))
    have hbl : FrameBlind (va_Pc As (fun U => CtP D cl tys w2 H.size U ∧ gXs (va_A w2 H.size) U ∧ gNc U)) := fun a U g mk q => by
      obtain ⟨q0, q1, q2, q3⟩ := q
      have h := CtP_blind (av := As) a U g mk ⟨q0, q1⟩
      exact ⟨h.1, h.2, q2.calling, gNc.same (s := U) (U := U.calling g mk a) rfl q3⟩
    have hK : Back l room_1 p e below s #[Value.ref b0] y2 3 8 (PreOf room_1 1 6 (va_Pc As (fun U => CtP D cl tys w2 H.size U ∧ gXs (va_A w2 H.size) U ∧ gNc U))) (PostOf (CtQ D cl w2 H.size rv w3) 1 6 (va_A w2 H.size)) :=
      va_backW (hh := hh) (bytes := b2) (maxL := n2) (ret := ret2) (hC H.size) hbl hrc hrs hR.1 hR.2 hgw List.mem_cons_self (fun a' U hW => word_at hW (Or.inl rfl) (hts _ hini))
    obtain ⟨mk, methM, cM, hnamed, hmethM, -, -, -, -, -, -, hsigM⟩ := Cond.codeWith_spec (hts _ hcode)
    have hstatic : methM.isStatic = true := Cond.static_spec hnamed hmethM (hts _ hstat)
    obtain ⟨kP, hkP, -⟩ := className_of_methodNamed hnamed
    have hinitP : kP.init = .initialized := Cond.initialized_spec (findClass_of_methodNamed hnamed) hkP (hts _ hini)
    have hdg : decode c.code (F0 m pc ls st).pc = .ok (.invokestatic index, 3) := by rw [E.2.1]; exact d
    have hlen : As.length = methM.sig.parameters.length := by
      have h2 := hy.2.2
      rw [hsigM] at h2
      exact (Option.some.inj h2).symm
    obtain ⟨vm₁, X₁, hstep₁⟩ := Y.invokestatic E.1 E.2.2.2.1 (hts _ hlink) hnamed hmethM hstatic hkP hinitP ⟨hy.1, hy.2.1⟩ (g := F0 m pc ls st) rfl (argsL := As) (rest := rest) hlen hst hdg
    have hpre : CtP D cl tys w2 H.size (T.setVm vm₁) ∧ gXs (va_A w2 H.size) (T.setVm vm₁) ∧ gNc (T.setVm vm₁) :=
      ⟨⟨by show T.heap.size = H.size; rw [hT], by show va_P D cl w2 T.heap; rw [hT]; exact gP_sub hP isC ho.2.1, va_K.moved X₁.warmed.alike E.2.2.2.2.2, hN.warm X₁.warmed, (hD.sub isC ho.1 ho.2.1).weaken (fun _ _ _ _ => trivial)⟩, hsd.1.at hS hT X₁.warmed hF, hsd.2.1.warm X₁.warmed⟩
    obtain ⟨v, B, X', hpost, hsteps⟩ := hK m meth c ⟨T.setVm vm₁, locs, cells, slots⟩ { (F0 m pc ls st) with stack := rest } (.invokestatic index) mk As.toArray X₁ rfl (hl.1.trans E.2.2.1.symm) hdg (lv_room hroom) (X₁.named hnamed) ⟨hcs.1, hcs.2, rfl, hpre⟩
    obtain ⟨U', l2, c2, s2⟩ := B
    obtain ⟨g', mk', t, L9, e1, e2, ⟨⟨hv, hP1, hD1⟩, hz, hk⟩, g1, hL, g2, g3⟩ := hpost
    dsimp only [Pt.U, Pt.locs, Pt.cells, Pt.slots] at X' e1 e2 g1 g2 g3 hsteps hz hk
    subst g1; subst g2; subst g3
    cases hv
    subst hs2
    have hsz : ((T.setVm vm₁).calling g' mk' As.toArray).heap = H := hT
    rw [hsz] at hz hk
    have hk1 : ∀ z : Nat, z < H.size → ¬ va_A w2 H.size z → U'.heap[z]? = H[z]? := fun z z1 z2 => by rw [e1]; exact hk z z1 z2
    have hP2 : va_P D cl ws2 U'.heap := gNewP hP hD hk1 (by rw [e1]; exact hP1) isC ho.2.1 ho.2.2.2
    have hS' : va_S (va_A [] s.heap.size) s.heap U'.heap (locs ++ L9) := ⟨Nat.le_trans hS.1 (by rw [e1]; exact hz), fun z z1 z2 => by rw [hk1 z (Nat.lt_of_lt_of_le z1 hS.1) (fun w => z2 (hF z w))]; exact hS.2.1 z z1 z2, fun z hz9 => by
      rcases List.mem_append.mp hz9 with h | h
      · exact hS.2.2 z h
      · exact hF _ (hL z h)⟩
    obtain ⟨t2, a1, b1⟩ := k0 p e s m below meth c E hN hr hlk hA U'.heap (locs ++ L9) ls hP2 (gD_fst hD ho.2.2.1) hS' hl U' rfl X'
    refine ⟨t2, ?_, b1⟩
    refine hstep₁ _ fun acts => ?_
    rw [doInvoke_state]
    exact hsteps.trans a1
  · intro T hT Y
    exact ⟨_, Steps.refl _, fun _ z => absurd z hsd⟩
end GL
