theorem gOver.fr {X X2 Xc Xd F : va_W} {isC : List Nat} (h : gOver X Xc Xd X2 isC) : gOver (X ++ F) Xc Xd (X2 ++ F) isC := by
  obtain ⟨hn, hi, h3, h4⟩ := h
  have hlt : ∀ i ∈ isC, i < X.length := by
    intro i hI
    obtain ⟨j, hj⟩ := List.getElem?_of_mem hI
    have g1 : (isC.map (fun i => X[i]?))[j]? = some (X[i]?) := by rw [List.getElem?_map, hj]; rfl
    rw [hi, List.getElem?_map] at g1
    cases hw : Xc[j]? with
    | none => rw [hw] at g1; cases g1
    | some q0 => rw [hw] at g1; exact (List.getElem?_eq_some_iff.mp (Option.some.inj g1).symm).1
  have hlen : X2.length = X.length := by have := congrArg List.length h3; simpa using this
  refine ⟨hn, ?_, ?_, ?_⟩
  · rw [← hi]
    apply List.map_congr_left
    intro i hI
    exact List.getElem?_append_left (hlt i hI)
  · rw [List.map_append, List.map_append, h3]
  · intro k q hq
    by_cases hx : k < X2.length
    · rw [List.getElem?_append_left hx] at hq
      rcases h4 k q hq with ⟨j, hj⟩ | ⟨g1, g2⟩
      · exact Or.inl ⟨j, hj⟩
      · exact Or.inr ⟨g1, by rw [List.getElem?_append_left (by omega)]; exact g2⟩
    · rw [List.getElem?_append_right (by omega)] at hq
      refine Or.inr ⟨fun z => ?_, by rw [List.getElem?_append_right (by omega), ← hlen]; exact hq⟩
      have := hlt k z
      omega
