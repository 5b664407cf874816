/-! PURE: further forms of operands -/
theorem p_skipB (t l c : Int32) : f_Rd_skip t l 1 c = some (t, 1) := by
  unfold f_Rd_skip
  rw [if_neg (by decide)]
/-- a number alone -/
theorem p_E {mb bb : Nat → Int32} (hB : pB mb bb) {a L : Nat} (ha : a ≤ L) (hL : L ≤ 512) (op f : Int32) {g : Int32} (hg : g = 0 ∨ g = 1) :
    (∃ (n : Int32) (a1 : Nat), a ≤ a1 ∧ a1 ≤ L ∧ ((pRleb g (nI a) (nI L) 0 bb).bind fun q => some (1, 0, q.1, f, q.2.1, q.2.2)).bind (pFin op (nI L) bb) = some (1, op, nI 0, n, f, nI a1, 0) ∧ f_Md_leb (nI a) (nI L) 0 mb g = some (n, nI a1, 0)) ∨
    (∃ (n : Int32) (a1 : Nat), a ≤ a1 ∧ a1 ≤ L ∧ ((pRleb g (nI a) (nI L) 0 bb).bind fun q => some (1, 0, q.1, f, q.2.1, q.2.2)).bind (pFin op (nI L) bb) = some (0, op, 0, n, f, nI a1, 1) ∧ f_Md_leb (nI a) (nI L) 0 mb g = some (n, nI a1, 1)) := by
  obtain ⟨w, a', b', h1, h2, h3, h4⟩ := p_Mleb mb ha hL g 0
  rw [p_rleb hB ha hL hg, h1, Option.bind_some, Option.bind_some]
  rcases h4 with rfl | rfl
  · exact Or.inl ⟨w, a', h2, h3, p_fin (k := 0) (by omega) _ _ _ _ _ _, rfl⟩
  · exact Or.inr ⟨w, a', h2, h3, p_finB _ _ _ _ _ _ _, rfl⟩
/-- a block: a number and so many bytes -/
theorem p_blk {mb bb : Nat → Int32} (hB : pB mb bb) {a L : Nat} (ha : a ≤ L) (hL : L ≤ 512) {β : Type} (n0 f0 : Int32) :
    (∃ (x m : Nat), a ≤ x ∧ x + m ≤ L ∧ f_In_readBlock n0 f0 (nI a) (nI L) 0 bb = some (nI m, nI x, nI (x + m), 0) ∧ ∀ K : Int32 × Int32 × Int32 → Int32 × Int32 × Int32 → Option β, ((f_Md_leb (nI a) (nI L) 0 mb 0).bind fun u => ((f_Md_block u.2.1 (nI L) u.2.2 u.1).bind fun w => K w u)) = K (nI x, nI (x + m), 0) (nI m, nI x, 0)) ∨
    (∃ (n : Int32) (x a1 a2 : Nat) (p z u v : Int32), a ≤ a1 ∧ a1 ≤ L ∧ a ≤ a2 ∧ a2 ≤ L ∧ f_In_readBlock n0 f0 (nI a) (nI L) 0 bb = some (n, nI x, nI a1, 1) ∧ ∀ K : Int32 × Int32 × Int32 → Int32 × Int32 × Int32 → Option β, ((f_Md_leb (nI a) (nI L) 0 mb 0).bind fun u => ((f_Md_block u.2.1 (nI L) u.2.2 u.1).bind fun w => K w u)) = K (p, nI a2, 1) (z, u, v)) := by
  obtain ⟨w, a', b', h1, h2, h3, h4⟩ := p_Mleb mb ha hL 0 0
  unfold f_In_readBlock
  rw [p_uleb hB ha hL, h1, Option.bind_some]
  dsimp only
  rcases h4 with rfl | rfl
  · obtain ⟨a3, b3, e1, e2, e3, e4, e5, e6⟩ := p_blockIn h3 hL w 0
    rw [e1, Option.bind_some]
    rcases e2 with rfl | rfl
    · obtain rfl := e5 rfl
      rw [if_pos rfl] at e6
      refine Or.inl ⟨a', a3 - a', h2, by omega, ?_, fun K => ?_⟩
      · rw [show a' + (a3 - a') = a3 by omega]
      · rw [Option.bind_some]
        dsimp only
        rw [e6, Option.bind_some, show a' + (a3 - a') = a3 by omega]
    · rw [if_neg (by decide)] at e6
      refine Or.inr ⟨w, a', a3, a3, nI a', w, nI a', 0, by omega, e4, by omega, e4, rfl, fun K => ?_⟩
      rw [Option.bind_some]
      dsimp only
      rw [e6, Option.bind_some]
  · rw [p_skipB, Option.bind_some]
    obtain ⟨a3, b3, e1, e2, e3, e4, e5, e6⟩ := p_blockIn h3 hL w 1
    have e7 : (if b3 = 0 then (1 : Int32) else 1) = 1 := by split <;> rfl
    rw [e7] at e6
    refine Or.inr ⟨w, a', a', a3, nI a', w, nI a', 1, h2, h3, by omega, e4, rfl, fun K => ?_⟩
    rw [Option.bind_some]
    dsimp only
    rw [e6, Option.bind_some]
theorem p_Fm {mb bb : Nat → Int32} (hB : pB mb bb) {a L : Nat} (ha : a ≤ L) (hL : L ≤ 512) (op : Int32) {β : Type} :
    (∃ (x m : Nat), a ≤ x ∧ x + m ≤ L ∧ ((f_In_readBlock 0 0 (nI a) (nI L) 0 bb).bind fun q => some (1, 0, q.1, q.2.1, q.2.2.1, q.2.2.2)).bind (pFin op (nI L) bb) = some (1, op, nI 0, nI m, nI x, nI (x + m), 0) ∧ ∀ K : Int32 × Int32 × Int32 → Int32 × Int32 × Int32 → Option β, ((f_Md_leb (nI a) (nI L) 0 mb 0).bind fun u => ((f_Md_block u.2.1 (nI L) u.2.2 u.1).bind fun w => K w u)) = K (nI x, nI (x + m), 0) (nI m, nI x, 0)) ∨
    (∃ (n g : Int32) (a1 a2 : Nat) (p z u v : Int32), a ≤ a1 ∧ a1 ≤ L ∧ a ≤ a2 ∧ a2 ≤ L ∧ ((f_In_readBlock 0 0 (nI a) (nI L) 0 bb).bind fun q => some (1, 0, q.1, q.2.1, q.2.2.1, q.2.2.2)).bind (pFin op (nI L) bb) = some (0, op, 0, n, g, nI a1, 1) ∧ ∀ K : Int32 × Int32 × Int32 → Int32 × Int32 × Int32 → Option β, ((f_Md_leb (nI a) (nI L) 0 mb 0).bind fun u => ((f_Md_block u.2.1 (nI L) u.2.2 u.1).bind fun w => K w u)) = K (p, nI a2, 1) (z, u, v)) := by
  rcases p_blk (β := β) hB ha hL 0 0 with ⟨x, m, h1, h2, h3, h4⟩ | ⟨n, x, a1, a2, p, z, u, v, h1, h2, h3, h4, h5, h6⟩
  · rw [h3, Option.bind_some, Option.bind_some]
    exact Or.inl ⟨x, m, h1, h2, p_fin (k := 0) (by omega) _ _ _ _ _ _, h4⟩
  · rw [h5, Option.bind_some, Option.bind_some]
    exact Or.inr ⟨n, nI x, a1, a2, p, z, u, v, h1, h2, h3, h4, p_finB _ _ _ _ _ _ _, h6⟩
/-- a register, then a block -/
theorem p_Dm {mb bb : Nat → Int32} (hB : pB mb bb) {a L : Nat} (ha : a ≤ L) (hL : L ≤ 512) (op : Int32) {β : Type} :
    (∃ (k x m : Nat) (y z : Int32), k < 8 ∧ a ≤ x ∧ x + m ≤ L ∧ ((f_Rd_uleb (nI a) (nI L) 0 bb).bind fun q => ((f_In_readBlock 0 0 q.2.1 (nI L) q.2.2 bb).bind fun u => some (1, q.1, u.1, u.2.1, u.2.2.1, u.2.2.2))).bind (pFin op (nI L) bb) = some (1, op, nI k, nI m, nI x, nI (x + m), 0) ∧ ∀ K : Int32 × Int32 × Int32 → Int32 × Int32 × Int32 → Int32 × Int32 × Int32 → Option β, ((f_Md_register_ (nI a) (nI L) 0 mb).bind fun q => ((f_Md_leb q.2.1 (nI L) q.2.2 mb 0).bind fun u => ((f_Md_block u.2.1 (nI L) u.2.2 u.1).bind fun w => K w u q))) = K (nI x, nI (x + m), 0) (nI m, nI x, 0) (nI k, y, z)) ∨
    (∃ (r n g b : Int32) (a1 a2 : Nat) (w u q : Int32 × Int32 × Int32), a ≤ a1 ∧ a1 ≤ L ∧ a ≤ a2 ∧ a2 ≤ L ∧ w.2.1 = nI a2 ∧ w.2.2 = 1 ∧ ((f_Rd_uleb (nI a) (nI L) 0 bb).bind fun q => ((f_In_readBlock 0 0 q.2.1 (nI L) q.2.2 bb).bind fun u => some (1, q.1, u.1, u.2.1, u.2.2.1, u.2.2.2))).bind (pFin op (nI L) bb) = some (0, op, r, n, g, nI a1, b) ∧ ∀ K : Int32 × Int32 × Int32 → Int32 × Int32 × Int32 → Int32 × Int32 × Int32 → Option β, ((f_Md_register_ (nI a) (nI L) 0 mb).bind fun q => ((f_Md_leb q.2.1 (nI L) q.2.2 mb 0).bind fun u => ((f_Md_block u.2.1 (nI L) u.2.2 u.1).bind fun w => K w u q))) = K w u q) := by
  obtain ⟨w, a', b', h1, h2, h3, h4⟩ := p_Mleb mb ha hL 0 0
  rw [p_uleb hB ha hL, h1, Option.bind_some]
  dsimp only
  rcases p_reg2 mb ha hL h1 with ⟨rfl, ⟨k, hk, rfl⟩, hr⟩ | ⟨hx, hr⟩
  · rcases p_blk (β := β) hB h3 hL 0 0 with ⟨x, m, g1, g2, g3, g4⟩ | ⟨n, x, a1, a2, p, z, u, v, g1, g2, g3, g4, g5, g6⟩
    · rw [g3, Option.bind_some, Option.bind_some]
      refine Or.inl ⟨k, x, m, nI a', 0, hk, by omega, g2, p_fin hk _ _ _ _ _ _, fun K => ?_⟩
      rw [hr, Option.bind_some]
      exact g4 (fun w u => K w u (nI k, nI a', 0))
    · rw [g5, Option.bind_some, Option.bind_some]
      refine Or.inr ⟨nI k, n, nI x, 1, a1, a2, (p, nI a2, 1), (z, u, v), (nI k, nI a', 0), by omega, g2, by omega, g4, rfl, rfl, p_finB _ _ _ _ _ _ _, fun K => ?_⟩
      rw [hr, Option.bind_some]
      exact g6 (fun w u => K w u (nI k, nI a', 0))
  · obtain ⟨w3, a3, e1, e2, e3⟩ := p_Mleb1 mb h3 hL 0
    obtain ⟨a4, b4, f1, f2, f3, f4, f5, f6⟩ := p_blockIn e3 hL w3 1
    have e7 : (if b4 = 0 then (1 : Int32) else 1) = 1 := by split <;> rfl
    rw [e7] at f6
    have hM : ∀ K : Int32 × Int32 × Int32 → Int32 × Int32 × Int32 → Int32 × Int32 × Int32 → Option β, ((f_Md_register_ (nI a) (nI L) 0 mb).bind fun q => ((f_Md_leb q.2.1 (nI L) q.2.2 mb 0).bind fun u => ((f_Md_block u.2.1 (nI L) u.2.2 u.1).bind fun w => K w u q))) = K (nI a3, nI a4, 1) (w3, nI a3, 1) (w, nI a', 1) := fun K => by
      rw [hr, Option.bind_some]
      dsimp only
      rw [e1, Option.bind_some]
      dsimp only
      rw [f6, Option.bind_some]
    rcases h4 with rfl | rfl
    · have hx2 : ¬ ∃ k, k < 8 ∧ w = nI k := by rcases hx with z | z; exact absurd rfl z; exact z
      rcases p_blk (β := β) hB h3 hL 0 0 with ⟨x, m, g1, g2, g3, g4⟩ | ⟨n, x, a1, a2, p, z, u, v, g1, g2, g3, g4, g5, g6⟩
      · rw [g3, Option.bind_some, Option.bind_some]
        exact Or.inr ⟨w, nI m, nI x, 0, x + m, a4, _, _, _, by omega, g2, by omega, f4, rfl, rfl, p_finR hx2 _ _ _ _ _ _ (Or.inl rfl) _, hM⟩
      · rw [g5, Option.bind_some, Option.bind_some]
        exact Or.inr ⟨w, n, nI x, 1, a1, a4, _, _, _, by omega, g2, by omega, f4, rfl, rfl, p_finB _ _ _ _ _ _ _, hM⟩
    · have e8 : f_In_readBlock 0 0 (nI a') (nI L) 1 bb = some (0, nI a', nI a', 1) := by
        unfold f_In_readBlock
        rw [p_ulebB, Option.bind_some]
        dsimp only
        rw [p_skipB, Option.bind_some]
      rw [e8, Option.bind_some, Option.bind_some]
      exact Or.inr ⟨w, 0, nI a', 1, a', a4, _, _, _, h2, h3, by omega, f4, rfl, rfl, p_finB _ _ _ _ _ _ _, hM⟩
/-- two registers -/
theorem p_Cm {mb bb : Nat → Int32} (hB : pB mb bb) {a L : Nat} (ha : a ≤ L) (hL : L ≤ 512) (op f : Int32) {β : Type} :
    (∃ (k j a1 : Nat) (y z : Int32), k < 8 ∧ j < 8 ∧ a ≤ a1 ∧ a1 ≤ L ∧ ((f_Rd_uleb (nI a) (nI L) 0 bb).bind fun q195 => ((f_Rd_uleb q195.2.1 (nI L) q195.2.2 bb).bind fun q203 => if q203.1 < 0 then (some (0, q195.1, q203.1, f, q203.2.1, q203.2.2)) else (if 8 ≤ q203.1 then (some (0, q195.1, q203.1, f, q203.2.1, q203.2.2)) else (some (1, q195.1, q203.1, f, q203.2.1, q203.2.2))))).bind (pFin op (nI L) bb) = some (1, op, nI k, nI j, f, nI a1, 0) ∧ ∀ K : Int32 × Int32 × Int32 → Int32 × Int32 × Int32 → Option β, ((f_Md_register_ (nI a) (nI L) 0 mb).bind fun q => ((f_Md_register_ q.2.1 (nI L) q.2.2 mb).bind fun u => K u q)) = K (nI j, nI a1, 0) (nI k, y, z)) ∨
    (∃ (r n b : Int32) (a1 a2 : Nat) (u q : Int32 × Int32 × Int32), a ≤ a1 ∧ a1 ≤ L ∧ a ≤ a2 ∧ a2 ≤ L ∧ u.2.1 = nI a2 ∧ u.2.2 = 1 ∧ ((f_Rd_uleb (nI a) (nI L) 0 bb).bind fun q195 => ((f_Rd_uleb q195.2.1 (nI L) q195.2.2 bb).bind fun q203 => if q203.1 < 0 then (some (0, q195.1, q203.1, f, q203.2.1, q203.2.2)) else (if 8 ≤ q203.1 then (some (0, q195.1, q203.1, f, q203.2.1, q203.2.2)) else (some (1, q195.1, q203.1, f, q203.2.1, q203.2.2))))).bind (pFin op (nI L) bb) = some (0, op, r, n, f, nI a1, b) ∧ ∀ K : Int32 × Int32 × Int32 → Int32 × Int32 × Int32 → Option β, ((f_Md_register_ (nI a) (nI L) 0 mb).bind fun q => ((f_Md_register_ q.2.1 (nI L) q.2.2 mb).bind fun u => K u q)) = K u q) := by
  have fin : ∀ (r n t b : Int32), (b = 1 ∨ (b = 0 ∧ ¬ ∃ k, k < 8 ∧ r = nI k) ∨ (b = 0 ∧ ¬ ∃ k, k < 8 ∧ n = nI k)) → (if n < 0 then (some ((0 : Int32), r, n, f, t, b)) else (if 8 ≤ n then (some (0, r, n, f, t, b)) else (some (1, r, n, f, t, b)))).bind (pFin op (nI L) bb) = some (0, op, r, n, f, t, b) := fun r n t b hh => by
    have f0 : pFin op (nI L) bb (0, r, n, f, t, b) = some (0, op, r, n, f, t, b) := if_pos rfl
    by_cases z1 : n < 0
    · rw [if_pos z1, Option.bind_some, f0]
    · rw [if_neg z1]
      by_cases z2 : 8 ≤ n
      · rw [if_pos z2, Option.bind_some, f0]
      · rw [if_neg z2, Option.bind_some]
        rcases hh with rfl | ⟨rfl, h⟩ | ⟨rfl, h⟩
        · exact p_finB _ _ _ _ _ _ _
        · exact p_finR h _ _ _ _ _ _ (Or.inl rfl) _
        · rcases p_in8 n with y | ⟨y | ⟨-, y⟩, -⟩
          · exact absurd y h
          · exact absurd y z1
          · exact absurd y z2
  obtain ⟨w, a', b', h1, h2, h3, h4⟩ := p_Mleb mb ha hL 0 0
  rw [p_uleb hB ha hL, h1, Option.bind_some]
  dsimp only
  rcases p_reg2 mb ha hL h1 with ⟨rfl, ⟨k, hk, rfl⟩, hr⟩ | ⟨hx, hr⟩
  · obtain ⟨w2, a2, b2, g1, g2, g3, g4⟩ := p_Mleb mb h3 hL 0 0
    rw [p_uleb hB h3 hL, g1, Option.bind_some]
    rcases p_reg2 mb h3 hL g1 with ⟨rfl, ⟨j, hj, rfl⟩, hr2⟩ | ⟨hx2, hr2⟩
    · refine Or.inl ⟨k, j, a2, nI a', 0, hk, hj, by omega, g3, ?_, fun K => ?_⟩
      · dsimp only
        rw [if_neg (nI_pos (by omega)), if_neg (show ¬ (8 : Int32) ≤ nI j from nI_ge (b := 8) hj (by omega)), Option.bind_some]
        exact p_fin hk _ _ _ _ _ _
      · rw [hr, Option.bind_some]
        dsimp only
        rw [hr2, Option.bind_some]
    · refine Or.inr ⟨nI k, w2, b2, a2, a2, (w2, nI a2, 1), (nI k, nI a', 0), by omega, g3, by omega, g3, rfl, rfl, fin _ _ _ _ ?_, fun K => ?_⟩
      · rcases g4 with rfl | rfl
        · exact Or.inr (Or.inr ⟨rfl, by rcases hx2 with z | z; exact absurd rfl z; exact z⟩)
        · exact Or.inl rfl
      · rw [hr, Option.bind_some]
        dsimp only
        rw [hr2, Option.bind_some]
  · obtain ⟨w3, a3, e1, e2, e3⟩ := p_Mleb1 mb h3 hL 0
    have hr3 : f_Md_register_ (nI a') (nI L) 1 mb = some (w3, nI a3, 1) := by
      rcases p_reg2 mb h3 hL e1 with ⟨z, -, -⟩ | ⟨-, z⟩
      · exact absurd z (by decide)
      · exact z
    have hM : ∀ K : Int32 × Int32 × Int32 → Int32 × Int32 × Int32 → Option β, ((f_Md_register_ (nI a) (nI L) 0 mb).bind fun q => ((f_Md_register_ q.2.1 (nI L) q.2.2 mb).bind fun u => K u q)) = K (w3, nI a3, 1) (w, nI a', 1) := fun K => by
      rw [hr, Option.bind_some]
      dsimp only
      rw [hr3, Option.bind_some]
    rcases h4 with rfl | rfl
    · have hx2 : ¬ ∃ k, k < 8 ∧ w = nI k := by rcases hx with z | z; exact absurd rfl z; exact z
      obtain ⟨w2, a2, b2, g1, g2, g3, g4⟩ := p_Mleb mb h3 hL 0 0
      rw [p_uleb hB h3 hL, g1, Option.bind_some]
      refine Or.inr ⟨w, w2, b2, a2, a3, _, _, by omega, g3, by omega, e3, rfl, rfl, fin _ _ _ _ ?_, hM⟩
      rcases g4 with rfl | rfl
      · exact Or.inr (Or.inl ⟨rfl, hx2⟩)
      · exact Or.inl rfl
    · rw [p_ulebB, Option.bind_some]
      exact Or.inr ⟨w, 0, 1, a', a3, _, _, h2, h3, by omega, e3, rfl, rfl, fin _ _ _ _ (Or.inl rfl), hM⟩
