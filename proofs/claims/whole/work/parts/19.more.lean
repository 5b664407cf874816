theorem gsw_d {a d v : Int} {r : List (Int × Int)} (h : Op.lookupswitch.offset r d v = d) : Op.lookupswitch.offset ((a, d) :: r) d v = d := by
  rw [Op.lookupswitch.offset_cons]
  by_cases hc : a = v
  · rw [if_pos hc]
  · rw [if_neg hc]; exact h
/-- each cell behind the call: out of the callee's world, or as it was -/
def gPick (ws w3 : va_W) : Nat → List (Option Nat) → List (Option (Nat × va_E))
  | _, [] => []
  | k, none :: r => ws[k]? :: gPick ws w3 (k + 1) r
  | k, some j :: r => w3[j]? :: gPick ws w3 (k + 1) r
def gNone (isC : List Nat) : Nat → List (Option Nat) → Bool
  | _, [] => true
  | k, none :: r => decide (k ∉ isC) && gNone isC (k + 1) r
  | k, some _ :: r => gNone isC (k + 1) r
theorem gPick_at {ws w3 : va_W} {isC : List Nat} : ∀ (src : List (Option Nat)) (k0 : Nat) (k : Nat) (q : Nat × va_E), gNone isC k0 src = true → (gPick ws w3 k0 src)[k]? = some (some q) → (∃ j : Nat, w3[j]? = some q) ∨ (k0 + k ∉ isC ∧ ws[k0 + k]? = some q)
  | [], k0, k, q, _, h => by simp [gPick] at h
  | none :: r, k0, 0, q, hn, h => by
    simp only [gNone, Bool.and_eq_true, decide_eq_true_eq] at hn
    exact Or.inr ⟨hn.1, Option.some.inj h⟩
  | some j :: r, k0, 0, q, hn, h => Or.inl ⟨j, Option.some.inj h⟩
  | none :: r, k0, k + 1, q, hn, h => by
    simp only [gNone, Bool.and_eq_true, decide_eq_true_eq] at hn
    have h1 := gPick_at r (k0 + 1) k q hn.2 h
    rw [show k0 + 1 + k = k0 + (k + 1) by omega] at h1
    exact h1
  | some j :: r, k0, k + 1, q, hn, h => by
    have h1 := gPick_at r (k0 + 1) k q hn h
    rw [show k0 + 1 + k = k0 + (k + 1) by omega] at h1
    exact h1
theorem gOver.mk2 {ws w2 w3 ws2 : va_W} (isC : List Nat) (src : List (Option Nat)) (hn : va_nd isC = true) (hg : gNone isC 0 src = true) (hi : isC.map (fun i => ws[i]?) = w2.map some) (hf : ws2.map (fun q => q.1) = ws.map (fun q => q.1)) (hp : gPick ws w3 0 src = ws2.map some) : gOver ws w2 w3 ws2 isC := by
  refine ⟨hn, hi, hf, fun k q h => ?_⟩
  have h1 : (gPick ws w3 0 src)[k]? = some (some q) := by rw [hp, List.getElem?_map, h]; rfl
  have h2 := gPick_at src 0 k q hg h1
  rw [Nat.zero_add] at h2
  exact h2
theorem gOver.plG {X X2 Xc Xd : va_W} {f f' : Nat → Nat × va_E} {n : Nat} {isC : List Nat} (h : gOver X Xc Xd X2 isC) (ha : ∀ k, (f' k).1 = (f k).1) :
    gOver (X ++ (List.range n).map f) (Xc ++ (List.range n).map f) (Xd ++ (List.range n).map f') (X2 ++ (List.range n).map f') (isC ++ (List.range n).map (fun j => X.length + j)) := by
  obtain ⟨hn, hi, h3, h4⟩ := h
  have hlt : ∀ i ∈ isC, i < X.length := by
    intro i hI
    obtain ⟨j, hj⟩ := List.getElem?_of_mem hI
    have g1 : (isC.map (fun i => X[i]?))[j]? = some (X[i]?) := by rw [List.getElem?_map, hj]; rfl
    rw [hi, List.getElem?_map] at g1
    cases hw : Xc[j]? with
    | none => rw [hw] at g1; cases g1
    | some q0 => rw [hw] at g1; exact (List.getElem?_eq_some_iff.mp (Option.some.inj g1).symm).1
  have hlen : X2.length = X.length := by have := congrArg List.length h3; simpa using this
  refine ⟨?_, ?_, ?_, ?_⟩
  · have nd : ∀ (l1 l2 : List Nat), va_nd l1 = true → va_nd l2 = true → (∀ a ∈ l1, a ∉ l2) → va_nd (l1 ++ l2) = true := by
      intro l1
      induction l1 with
      | nil => intro l2 _ h _; exact h
      | cons a l1 ih =>
        intro l2 ha hb hx
        simp only [va_nd, Bool.and_eq_true, decide_eq_true_eq] at ha
        simp only [List.cons_append, va_nd, Bool.and_eq_true, decide_eq_true_eq]
        exact ⟨fun z => (List.mem_append.mp z).elim ha.1 (hx a List.mem_cons_self), ih l2 ha.2 hb (fun q hq => hx q (List.mem_cons_of_mem _ hq))⟩
    have nr : ∀ (l : List Nat), l.Nodup → va_nd (l.map (fun j => X.length + j)) = true := by
      intro l
      induction l with
      | nil => intro _; rfl
      | cons a l ih =>
        intro hl
        have hl := List.nodup_cons.mp hl
        simp only [List.map_cons, va_nd, Bool.and_eq_true, decide_eq_true_eq]
        refine ⟨fun z => ?_, ih hl.2⟩
        obtain ⟨b, hb, he⟩ := List.mem_map.mp z
        exact hl.1 (by rw [show a = b by omega]; exact hb)
    refine nd isC _ hn (nr _ List.nodup_range) (fun a h1 h2 => ?_)
    obtain ⟨j, -, hj⟩ := List.mem_map.mp h2
    have := hlt a h1
    omega
  · rw [List.map_append, List.map_append, ← hi]
    congr 1
    · apply List.map_congr_left
      intro i hI
      exact List.getElem?_append_left (hlt i hI)
    · rw [List.map_map, List.map_map]
      apply List.map_congr_left
      intro j hj
      exact gPl_at (List.mem_range.mp hj)
  · rw [List.map_append, List.map_append, h3, List.map_map, List.map_map]
    congr 1
    apply List.map_congr_left
    intro j _
    exact ha j
  · intro k q hq
    by_cases hx : k < X2.length
    · rw [List.getElem?_append_left hx] at hq
      rcases h4 k q hq with ⟨j, hj⟩ | ⟨g1, g2⟩
      · exact Or.inl ⟨j, by rw [List.getElem?_append_left (List.getElem?_eq_some_iff.mp hj).1]; exact hj⟩
      · refine Or.inr ⟨fun z => ?_, by rw [List.getElem?_append_left (by omega)]; exact g2⟩
        rcases List.mem_append.mp z with z | z
        · exact g1 z
        · obtain ⟨j, -, hj⟩ := List.mem_map.mp z
          omega
    · rw [List.getElem?_append_right (by omega)] at hq
      exact Or.inl ⟨Xd.length + (k - X2.length), by rw [List.getElem?_append_right (by omega), Nat.add_sub_cancel_left]; exact hq⟩
