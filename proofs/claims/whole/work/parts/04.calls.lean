/-! calls: a callee's contract Ct at a call's place; what it returns is laid over the world, the rest is unchanged -/
def gRepl : va_W → List Nat → va_W → va_W
  | ws, i :: is, v :: vs => gRepl (ws.set i v) is vs
  | ws, _, _ => ws
theorem gRepl_at : ∀ (is : List Nat) (vs ws : va_W) (k : Nat) (q : Nat × va_E), is.length = vs.length → (gRepl ws is vs)[k]? = some q → (∃ j : Nat, vs[j]? = some q) ∨ (k ∉ is ∧ ws[k]? = some q)
  | [], vs, ws, k, q, _, h => by
    cases vs with
    | nil => exact Or.inr ⟨List.not_mem_nil, h⟩
    | cons v vs => exact Or.inr ⟨List.not_mem_nil, h⟩
  | i :: is, [], ws, k, q, hl, _ => by cases hl
  | i :: is, v :: vs, ws, k, q, hl, h => by
    rcases gRepl_at is vs (ws.set i v) k q (Nat.succ.inj hl) h with ⟨j, hj⟩ | ⟨h1, h2⟩
    · exact Or.inl ⟨j + 1, hj⟩
    · by_cases hk : k = i
      · subst hk
        have hlt : k < (ws.set k v).length := (List.getElem?_eq_some_iff.mp h2).1
        rw [List.length_set] at hlt
        rw [List.getElem?_set_self hlt] at h2
        cases h2
        exact Or.inl ⟨0, rfl⟩
      · rw [List.getElem?_set_ne (Ne.symm hk)] at h2
        exact Or.inr ⟨fun z => (List.mem_cons.mp z).elim hk h1, h2⟩
theorem gSet_fst (ws : va_W) (i : Nat) (v : Nat × va_E) (e : va_E) (h : ws[i]? = some (v.1, e)) : (ws.set i v).map (fun q => q.1) = ws.map (fun q => q.1) := by
  apply List.ext_getElem?
  intro k
  rw [List.getElem?_map, List.getElem?_map]
  by_cases hk : k = i
  · subst hk
    rw [List.getElem?_set_self (List.getElem?_eq_some_iff.mp h).1, h]
    rfl
  · rw [List.getElem?_set_ne (Ne.symm hk)]
theorem gRepl_fst : ∀ (is : List Nat) (w2 w3 ws : va_W), va_nd is = true → is.map (fun i => ws[i]?) = w2.map some → w3.map (fun q => q.1) = w2.map (fun q => q.1) → (gRepl ws is w3).map (fun q => q.1) = ws.map (fun q => q.1)
  | [], w2, w3, ws, _, _, _ => by cases w3 <;> rfl
  | i :: is, [], w3, ws, _, h, _ => by cases h
  | i :: is, u :: w2, [], ws, _, _, h => by cases h
  | i :: is, u :: w2, v :: w3, ws, hn, h, hf => by
    simp only [va_nd, Bool.and_eq_true, decide_eq_true_eq] at hn
    simp only [List.map_cons, List.cons.injEq] at h hf
    have h0 : ws[i]? = some (v.1, u.2) := by rw [h.1, hf.1]
    have h1 : is.map (fun k => (ws.set i v)[k]?) = w2.map some := by
      rw [← h.2]
      apply List.map_congr_left
      intro k hk
      refine List.getElem?_set_ne ?_
      intro z
      subst z
      exact hn.1 hk
    show (gRepl (ws.set i v) is w3).map _ = _
    rw [gRepl_fst is w2 w3 (ws.set i v) hn.2 h1 hf.2, gSet_fst ws i v u.2 h0]
theorem gD_fst {A : Nat → Prop} {w1 w2 : va_W} (h : va_D A w1) (hf : w2.map (fun q => q.1) = w1.map (fun q => q.1)) : va_D A w2 := by
  have key : ∀ (k : Nat) (q : Nat × va_E), w2[k]? = some q → ∃ q0, w1[k]? = some q0 ∧ q0.1 = q.1 := by
    intro k q hk
    have h1 : (w2.map (fun q => q.1))[k]? = some q.1 := by rw [List.getElem?_map, hk]; rfl
    rw [hf, List.getElem?_map] at h1
    cases hw : w1[k]? with
    | none => rw [hw] at h1; cases h1
    | some q0 => rw [hw] at h1; exact ⟨q0, rfl, Option.some.inj h1⟩
  refine ⟨fun i j x y hi hj hxy => ?_, fun k q hk => ?_⟩
  · obtain ⟨x0, h1, h2⟩ := key i x hi
    obtain ⟨y0, h3, h4⟩ := key j y hj
    exact h.1 i j x0 y0 h1 h3 (h2.trans (hxy.trans h4.symm))
  · obtain ⟨q0, h1, h2⟩ := key k q hk
    rw [← h2]
    exact h.2 k q0 h1
theorem gIx {is : List Nat} {ws w : va_W} (hs : is.map (fun i => ws[i]?) = w.map some) {k : Nat} {q : Nat × va_E} (hq : w[k]? = some q) : ∃ i, is[k]? = some i ∧ ws[i]? = some q := by
  have h1 : (is.map (fun i => ws[i]?))[k]? = some (some q) := by rw [hs, List.getElem?_map, hq]; rfl
  rw [List.getElem?_map] at h1
  cases hi : is[k]? with
  | none => rw [hi] at h1; cases h1
  | some i => rw [hi] at h1; exact ⟨i, rfl, Option.some.inj h1⟩
theorem gNewP {D : va_G} {cl : List vw_C} {A : Nat → Prop} {ws w2 w3 ws2 : va_W} {H H1 : Heap} (hP : va_P D cl ws H) (hD : va_D A ws) (hk : ∀ q : Nat, q < H.size → ¬ va_A w2 H.size q → H1[q]? = H[q]?) (hP1 : va_P D cl w3 H1) (isC : List Nat) (hiC : isC.map (fun i => ws[i]?) = w2.map some)
    (hcov : ∀ (k : Nat) (q : Nat × va_E), ws2[k]? = some q → (∃ j : Nat, w3[j]? = some q) ∨ (k ∉ isC ∧ ws[k]? = some q)) : va_P D cl ws2 H1 := by
  intro k q hq
  rcases hcov k q hq with ⟨j, hj⟩ | ⟨h1, h2⟩
  · exact hP1 j q hj
  · have hlt := (hP k q h2).lt
    refine (hP k q h2).kept (hk _ hlt (fun z => ?_))
    rcases z with ⟨k2, e, z⟩ | z
    · obtain ⟨i, h3, h4⟩ := gIx hiC z
      have hki := hD.1 k i q (q.1, e) h2 h4 rfl
      exact h1 (hki ▸ List.mem_of_getElem? h3)
    · omega
section GA
variable {p : Program} {l : Launch} {e : Env} {R : Room} {s : State} {m : MethodId} {args : Array Value} {below : List Frame} {meth : Method} {c : Code} {H : Heap} {locs : List Loc} {cells slots : Nat} {Q : State → Prop} {D : va_G} {cl : List vw_C} {A : Nat → Prop} {H0 : Heap} {pc : Nat} {ls : Array Slot} {st0 rest st2 : List Value} {ws w2 w3 ws2 : va_W} {rv : Option Value} {a : Array Value}
theorem gAfter0 (hr : va_Run p l e R s m args below meth c H locs cells slots 0 0 (F0 m pc ls st0) rest (CtQ D cl w2 H.size rv w3 a) (va_A w2 H.size))
    (hP : va_P D cl ws H) (hD : va_D A ws) (hS : va_S A H0 H locs) (hA : ∀ q, H0.size ≤ q → A q) (isC : List Nat) (hiC : isC.map (fun i => ws[i]?) = w2.map some) (hD2 : va_D A ws2)
    (hcov : ∀ (k : Nat) (q : Nat × va_E), ws2[k]? = some q → (∃ j : Nat, w3[j]? = some q) ∨ (k ∉ isC ∧ ws[k]? = some q)) (hs2 : rv.toList ++ rest = st2)
    (kk : ∀ (H1 : Heap) (locs1 : List Loc), va_P D cl ws2 H1 → va_D A ws2 → va_S A H0 H1 locs1 → W p l e R s m args below meth c H1 locs1 cells slots Q (F0 m (pc + 3) ls st2)) : W p l e R s m args below meth c H locs cells slots Q (F0 m pc ls st0) := by
  intro T hT X
  obtain ⟨v, st₀, t, T', L', h0, X', hL, e1, e2, ⟨⟨hv, hP1, hD1⟩, hz, hk⟩, st⟩ := hr T hT X
  cases hv
  subst hs2
  rw [h0] at hz hk
  have hF : ∀ q, va_A w2 H.size q → A q := va_free hD hS hA isC hiC
  have hk1 : ∀ q : Nat, q < H.size → ¬ va_A w2 H.size q → T'.heap[q]? = H[q]? := fun q h1 h2 => by rw [e1]; exact hk q h1 h2
  have hP2 : va_P D cl ws2 T'.heap := gNewP hP hD hk1 (by rw [e1]; exact hP1) isC hiC hcov
  have hS' : va_S A H0 T'.heap (locs ++ L') := ⟨Nat.le_trans hS.1 (by rw [e1]; exact hz), fun q h1 h2 => by rw [hk1 q (Nat.lt_of_lt_of_le h1 hS.1) (fun z => h2 (hF q z))]; exact hS.2.1 q h1 h2, fun q hq => by
    rcases List.mem_append.mp hq with h | h
    · exact hS.2.2 q h
    · exact hF _ (hL q h)⟩
  obtain ⟨t2, a1, b1⟩ := kk T'.heap (locs ++ L') hP2 hD2 hS' T' rfl X'
  exact ⟨t2, st t2 a1, b1⟩
end GA
theorem CtP_blind {D : va_G} {cl : List vw_C} {tys : List (ClassId × FieldType)} {w0 : va_W} {sz : Nat} {av : List Value} : FrameBlind (va_Pc av (CtP D cl tys w0 sz)) := fun a U g mk q => by
  obtain ⟨q0, q1, qP, qK, qN, qD⟩ := q
  exact ⟨q0, q1, qP, va_K.moved (u := U) (U := U.calling g mk a) (Vm.Alike.refl U.vm) qK, gNw.same (s := U) (U := U.calling g mk a) rfl qN, qD⟩
/-- what the callee gives, laid over the caller's world -/
def gOver (ws w2 w3 ws2 : va_W) (isC : List Nat) : Prop := va_nd isC = true ∧ isC.map (fun i => ws[i]?) = w2.map some ∧ ws2.map (fun q => q.1) = ws.map (fun q => q.1) ∧ ∀ (k : Nat) (q : Nat × va_E), ws2[k]? = some q → (∃ j : Nat, w3[j]? = some q) ∨ (k ∉ isC ∧ ws[k]? = some q)
theorem gOver.mk {ws w2 w3 ws2 : va_W} (isC : List Nat) (hn : va_nd isC = true) (hi : isC.map (fun i => ws[i]?) = w2.map some) (hf : w3.map (fun q => q.1) = w2.map (fun q => q.1)) (hw : gRepl ws isC w3 = ws2) : gOver ws w2 w3 ws2 isC := by
  subst hw
  have hlen : isC.length = w3.length := by
    have h1 := congrArg List.length hi
    have h2 := congrArg List.length hf
    simp only [List.length_map] at h1 h2
    omega
  exact ⟨hn, hi, gRepl_fst isC w2 w3 ws hn hi hf, fun k q h => gRepl_at isC w3 ws k q hlen h⟩
/-- a callee that only reads -/
theorem gOver.rd {ws w2 : va_W} (isC : List Nat) (hn : va_nd isC = true) (hi : isC.map (fun i => ws[i]?) = w2.map some) : gOver ws w2 w2 ws isC := by
  refine ⟨hn, hi, rfl, fun k q h => ?_⟩
  by_cases hk : k ∈ isC
  · obtain ⟨j, hj⟩ := List.getElem?_of_mem hk
    have h1 : (isC.map (fun i => ws[i]?))[j]? = some (some q) := by rw [List.getElem?_map, hj]; exact congrArg some h
    rw [hi, List.getElem?_map] at h1
    cases hw : w2[j]? with
    | none => rw [hw] at h1; cases h1
    | some q0 => rw [hw] at h1; cases (Option.some.inj h1); exact Or.inl ⟨j, hw⟩
  · exact Or.inr ⟨hk, h⟩
section GC
variable {l : Launch} {y : MethodName} {b : ByteArray} {nL : Nat} {ret : Option FieldType} {rm : Room} {D : va_G} {cl : List vw_C} {tys : List (ClassId × FieldType)} {av : List Value} {w0 : va_W} {Qf : List Frame → State → State → Prop} {cells slots : Nat} {ws : va_W} {L : List (Nat × Value)} {pc : Nat}
variable {y2 : MethodName} {b2 : ByteArray} {n2 : Nat} {ret2 : Option FieldType} {rm2 : Room} {a : Nat} {As rest st st2 : List Value} {w2 w3 ws2 : va_W} {rv : Option Value} {ci index : Nat} {q : vw_C} {fs : List Value} {isC : List Nat}
theorem g_callV (hC : Ct l y2 b2 n2 ret2 rm2 D cl tys (.ref a :: As) w2 rv w3)
    (cw : ∀ (s : State) (args : Array Value), (∀ w ∈ gTs, w.before args s = true) → CallW rm s args y.cls q.1 index y2 b2 n2 ret2 (gW y2 b2 n2 ret2) rm2 0 0 As.length) (hc : cl[ci]? = some q) (q0 : Nat) (he : ws[q0]? = some (a, .inr (ci, fs))) (ho : gOver ws w2 w3 ws2 isC)
    (hroom : (rest.map fun v => v.category).sum ≤ 8) (hcs : cells ≤ rm.cells ∧ slots ≤ rm.slots) (d : decode b pc = .ok (.invokevirtual index, 3)) (hst : st = As.reverse ++ .ref a :: rest) (hs2 : rv.toList ++ rest = st2)
    (k0 : Gm l y b nL ret rm D cl tys av w0 Qf cells slots ws2 L (pc + 3) st2) : Gm l y b nL ret rm D cl tys av w0 Qf cells slots ws L pc st :=
  fun p e s m below meth c E hN hr hlk hA H locs ls hP hD hS hl => gAfter0 (va_runV (g := F0 m pc ls st) ⟨E.1, E.2.1, E.2.2.1, E.2.2.2.1, E.2.2.2.2.1⟩ (hC H.size) (cw s _ E.2.2.2.2.1)
    ⟨CtP_blind, va_recv E.2.2.2.2.2 hP hc he, fun U hU hW => ⟨rfl, by rw [hU], by rw [hU]; exact gP_sub hP isC ho.2.1, va_K.moved hW.alike E.2.2.2.2.2, hN.warm hW, (hD.sub isC ho.1 ho.2.1).weaken (fun _ _ _ _ => trivial)⟩⟩ rfl rfl hl.1 hst (lv_room hroom) d ⟨hcs.1, hcs.2⟩) hP hD hS hA isC ho.2.1 (gD_fst hD ho.2.2.1) ho.2.2.2 hs2 (fun H locs hP hD hS => k0 p e s m below meth c E hN hr hlk hA H locs ls hP hD hS hl)
theorem g_callVN {host : String} (hC : Ct l y2 b2 n2 ret2 rm2 D cl tys (.ref a :: As) w2 rv w3)
    (cw : ∀ (s : State) (args : Array Value), (∀ w ∈ gTs, w.before args s = true) → va_CN rm s args y.cls index y2 host b2 n2 ret2 (gW y2 b2 n2 ret2) rm2 0 0 As.length ∧ (Cond.instanceMethod y2).before args s = true ∧ (Cond.selects q.1 y2 y2).before args s = true) (hc : cl[ci]? = some q) (q0 : Nat) (he : ws[q0]? = some (a, .inr (ci, fs))) (ho : gOver ws w2 w3 ws2 isC)
    (hroom : (rest.map fun v => v.category).sum ≤ 8) (hcs : cells ≤ rm.cells ∧ slots ≤ rm.slots) (d : decode b pc = .ok (.invokevirtual index, 3)) (hst : st = As.reverse ++ .ref a :: rest) (hs2 : rv.toList ++ rest = st2)
    (k0 : Gm l y b nL ret rm D cl tys av w0 Qf cells slots ws2 L (pc + 3) st2) : Gm l y b nL ret rm D cl tys av w0 Qf cells slots ws L pc st :=
  fun p e s m below meth c E hN hr hlk hA H locs ls hP hD hS hl => gAfter0 (va_runVN (g := F0 m pc ls st) ⟨E.1, E.2.1, E.2.2.1, E.2.2.2.1, E.2.2.2.2.1⟩ (hC H.size) (cw s _ E.2.2.2.2.1)
    ⟨CtP_blind, va_recv E.2.2.2.2.2 hP hc he, fun U hU hW => ⟨rfl, by rw [hU], by rw [hU]; exact gP_sub hP isC ho.2.1, va_K.moved hW.alike E.2.2.2.2.2, hN.warm hW, (hD.sub isC ho.1 ho.2.1).weaken (fun _ _ _ _ => trivial)⟩⟩ rfl rfl hl.1 hst (lv_room hroom) d ⟨hcs.1, hcs.2⟩) hP hD hS hA isC ho.2.1 (gD_fst hD ho.2.2.1) ho.2.2.2 hs2 (fun H locs hP hD hS => k0 p e s m below meth c E hN hr hlk hA H locs ls hP hD hS hl)
theorem g_callS (hC : Ct l y2 b2 n2 ret2 rm2 D cl tys (As) w2 rv w3)
    (cw : ∀ (s : State) (args : Array Value), (∀ w ∈ gTs, w.before args s = true) → CallB rm s args y.cls index y2 b2 n2 ret2 (gW y2 b2 n2 ret2) rm2 0 0 As.length ∧ (Cond.static y2).before args s = true) (ho : gOver ws w2 w3 ws2 isC)
    (hroom : (rest.map fun v => v.category).sum ≤ 8) (hcs : cells ≤ rm.cells ∧ slots ≤ rm.slots) (d : decode b pc = .ok (.invokestatic index, 3)) (hst : st = As.reverse ++ rest) (hs2 : rv.toList ++ rest = st2)
    (k0 : Gm l y b nL ret rm D cl tys av w0 Qf cells slots ws2 L (pc + 3) st2) : Gm l y b nL ret rm D cl tys av w0 Qf cells slots ws L pc st :=
  fun p e s m below meth c E hN hr hlk hA H locs ls hP hD hS hl => gAfter0 (va_runS (g := F0 m pc ls st) ⟨E.1, E.2.1, E.2.2.1, E.2.2.2.1, E.2.2.2.2.1⟩ (hC H.size) (cw s _ E.2.2.2.2.1)
    ⟨CtP_blind, fun U hU hW => ⟨rfl, by rw [hU], by rw [hU]; exact gP_sub hP isC ho.2.1, va_K.moved hW.alike E.2.2.2.2.2, hN.warm hW, (hD.sub isC ho.1 ho.2.1).weaken (fun _ _ _ _ => trivial)⟩⟩ rfl rfl hl.1 hst (lv_room hroom) d ⟨hcs.1, hcs.2⟩) hP hD hS hA isC ho.2.1 (gD_fst hD ho.2.2.1) ho.2.2.2 hs2 (fun H locs hP hD hS => k0 p e s m below meth c E hN hr hlk hA H locs ls hP hD hS hl)
theorem g_callSN {host : String} (hC : Ct l y2 b2 n2 ret2 rm2 D cl tys (As) w2 rv w3)
    (cw : ∀ (s : State) (args : Array Value), (∀ w ∈ gTs, w.before args s = true) → va_CN rm s args y.cls index y2 host b2 n2 ret2 (gW y2 b2 n2 ret2) rm2 0 0 As.length ∧ (Cond.static y2).before args s = true ∧ True) (ho : gOver ws w2 w3 ws2 isC)
    (hroom : (rest.map fun v => v.category).sum ≤ 8) (hcs : cells ≤ rm.cells ∧ slots ≤ rm.slots) (d : decode b pc = .ok (.invokestatic index, 3)) (hst : st = As.reverse ++ rest) (hs2 : rv.toList ++ rest = st2)
    (k0 : Gm l y b nL ret rm D cl tys av w0 Qf cells slots ws2 L (pc + 3) st2) : Gm l y b nL ret rm D cl tys av w0 Qf cells slots ws L pc st :=
  fun p e s m below meth c E hN hr hlk hA H locs ls hP hD hS hl => gAfter0 (va_runSN (g := F0 m pc ls st) ⟨E.1, E.2.1, E.2.2.1, E.2.2.2.1, E.2.2.2.2.1⟩ (hC H.size) (cw s _ E.2.2.2.2.1)
    ⟨CtP_blind, fun U hU hW => ⟨rfl, by rw [hU], by rw [hU]; exact gP_sub hP isC ho.2.1, va_K.moved hW.alike E.2.2.2.2.2, hN.warm hW, (hD.sub isC ho.1 ho.2.1).weaken (fun _ _ _ _ => trivial)⟩⟩ rfl rfl hl.1 hst (lv_room hroom) d ⟨hcs.1, hcs.2⟩) hP hD hS hA isC ho.2.1 (gD_fst hD ho.2.2.1) ho.2.2.2 hs2 (fun H locs hP hD hS => k0 p e s m below meth c E hN hr hlk hA H locs ls hP hD hS hl)
end GC
