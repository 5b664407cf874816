/-! pools: many objects of one class at the end of a world's list; small rows -/
theorem gLt {i : Int32} {n : Nat} (h : vp_in i n) : i.toNatClampNeg < n := Nat.not_le.mp fun q => h (Or.inr q)
theorem g01n {v : Int32} (h : ¬ ¬ (v = 0 ∨ v = 1)) : narrow .boolean (.int v) = .int v := by
  rcases Decidable.not_not.mp h with rfl | rfl <;> decide
theorem g01f {v : Int32} (h : ¬ ¬ (v = 0 ∨ v = 1)) : fits .boolean (.int v) = true := by
  rcases Decidable.not_not.mp h with rfl | rfl <;> decide
def gArr4 (a b c d : Nat) : Nat → Option Nat
  | 0 => some a
  | 1 => some b
  | 2 => some c
  | _ => some d
theorem gPl_at {X : va_W} {f : Nat → Nat × va_E} {n j : Nat} (hj : j < n) : (X ++ (List.range n).map f)[X.length + j]? = some (f j) := by
  rw [List.getElem?_append_right (Nat.le_add_right _ _), Nat.add_sub_cancel_left, List.getElem?_map, List.getElem?_range hj]
  rfl
theorem gPl_set {X : va_W} {f f' : Nat → Nat × va_E} {n j : Nat} {v : Nat × va_E} (hj : j < n) (h1 : f' j = v) (h2 : ∀ k, k ≠ j → f' k = f k) : (X ++ (List.range n).map f).set (X.length + j) v = X ++ (List.range n).map f' := by
  apply List.ext_getElem?
  intro k
  by_cases hk : k = X.length + j
  · subst hk
    rw [gPl_at hj, List.getElem?_set_self (by simp; omega), h1]
  · rw [List.getElem?_set_ne (Ne.symm hk)]
    by_cases hx : k < X.length
    · rw [List.getElem?_append_left hx, List.getElem?_append_left hx]
    · rw [List.getElem?_append_right (by omega), List.getElem?_append_right (by omega), List.getElem?_map, List.getElem?_map]
      by_cases hn : k - X.length < n
      · rw [List.getElem?_range hn]
        exact congrArg some (h2 _ (by omega)).symm
      · rw [List.getElem?_eq_none (by simp; omega)]
        rfl
theorem gPl_one {X : va_W} {f : Nat → Nat × va_E} {n j : Nat} (hj : j < n) : [X.length + j].map (fun i => (X ++ (List.range n).map f)[i]?) = [f j].map some := by
  simp only [List.map_cons, List.map_nil, gPl_at hj]
/-- caller and callee have the pool at their ends -/
theorem gOver.pl {X X2 Xc Xd : va_W} {f f' : Nat → Nat × va_E} {n : Nat} (isC : List Nat) (hn : va_nd isC = true) (hi : isC.map (fun i => X[i]?) = Xc.map some) (hf : Xd.map (fun q => q.1) = Xc.map (fun q => q.1)) (hw : gRepl X isC Xd = X2) (ha : ∀ k, (f' k).1 = (f k).1) :
    gOver (X ++ (List.range n).map f) (Xc ++ (List.range n).map f) (Xd ++ (List.range n).map f') (X2 ++ (List.range n).map f') (isC ++ (List.range n).map (fun j => X.length + j)) := by
  obtain ⟨h1, h2, h3, h4⟩ := gOver.mk isC hn hi hf hw
  have hlt : ∀ i ∈ isC, i < X.length := by
    intro i hI
    obtain ⟨j, hj⟩ := List.getElem?_of_mem hI
    have g1 : (isC.map (fun i => X[i]?))[j]? = some (X[i]?) := by rw [List.getElem?_map, hj]; rfl
    rw [hi, List.getElem?_map] at g1
    cases hw : Xc[j]? with
    | none => rw [hw] at g1; cases g1
    | some q0 => rw [hw] at g1; exact (List.getElem?_eq_some_iff.mp (Option.some.inj g1).symm).1
  have hlen : X2.length = X.length := by have := congrArg List.length h3; simpa using this
  refine ⟨?_, ?_, ?_, ?_⟩
  · have nd : ∀ (l1 l2 : List Nat), va_nd l1 = true → va_nd l2 = true → (∀ a ∈ l1, a ∉ l2) → va_nd (l1 ++ l2) = true := by
      intro l1
      induction l1 with
      | nil => intro l2 _ h _; exact h
      | cons a l1 ih =>
        intro l2 ha hb hx
        simp only [va_nd, Bool.and_eq_true, decide_eq_true_eq] at ha
        simp only [List.cons_append, va_nd, Bool.and_eq_true, decide_eq_true_eq]
        exact ⟨fun z => (List.mem_append.mp z).elim ha.1 (hx a List.mem_cons_self), ih l2 ha.2 hb (fun q hq => hx q (List.mem_cons_of_mem _ hq))⟩
    have nr : ∀ (l : List Nat), l.Nodup → va_nd (l.map (fun j => X.length + j)) = true := by
      intro l
      induction l with
      | nil => intro _; rfl
      | cons a l ih =>
        intro hl
        have hl := List.nodup_cons.mp hl
        simp only [List.map_cons, va_nd, Bool.and_eq_true, decide_eq_true_eq]
        refine ⟨fun z => ?_, ih hl.2⟩
        obtain ⟨b, hb, he⟩ := List.mem_map.mp z
        exact hl.1 (by rw [show a = b by omega]; exact hb)
    refine nd isC _ hn (nr _ List.nodup_range) (fun a h1 h2 => ?_)
    obtain ⟨j, -, hj⟩ := List.mem_map.mp h2
    have := hlt a h1
    omega
  · rw [List.map_append, List.map_append, ← hi]
    congr 1
    · apply List.map_congr_left
      intro i hI
      exact List.getElem?_append_left (hlt i hI)
    · rw [List.map_map, List.map_map]
      apply List.map_congr_left
      intro j hj
      exact gPl_at (List.mem_range.mp hj)
  · rw [List.map_append, List.map_append, h3, List.map_map, List.map_map]
    congr 1
    apply List.map_congr_left
    intro j _
    exact ha j
  · intro k q hq
    by_cases hx : k < X2.length
    · rw [List.getElem?_append_left hx] at hq
      rcases h4 k q hq with ⟨j, hj⟩ | ⟨g1, g2⟩
      · exact Or.inl ⟨j, by rw [List.getElem?_append_left (List.getElem?_eq_some_iff.mp hj).1]; exact hj⟩
      · refine Or.inr ⟨fun z => ?_, by rw [List.getElem?_append_left (by omega)]; exact g2⟩
        rcases List.mem_append.mp z with z | z
        · exact g1 z
        · obtain ⟨j, -, hj⟩ := List.mem_map.mp z
          omega
    · rw [List.getElem?_append_right (by omega)] at hq
      exact Or.inl ⟨Xd.length + (k - X2.length), by rw [List.getElem?_append_right (by omega), Nat.add_sub_cancel_left]; exact hq⟩
